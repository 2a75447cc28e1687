section EQJ0
variable {o : ai_S} {d : Nat} {st : List Value} {w : ai_W} {r : Option Value × ai_W} {x y : Int32} {xl yl : Int64} {i j k n sl : Nat} {κ : Nat → Nat × Nat} {rf : Nat → Nat → Option Nat} {m : Nat → Nat → Int32} {lg : Nat → Nat → Int64} {a0 a1 a2 a3 a4 a5 a6 a7 a8 a9 a10 a11 a12 : Value}
theorem e_J6_bitCount_0f7a4_0 : Rn o d zJ6_bitCount_0f7a4 0 [.int x] (st) w r = Rn o d zJ6_bitCount_0f7a4 1 [.int x] (.int x :: st) w r := rn_A (len := 1) dJ6_bitCount_0f7a4_0 rfl
theorem e_J6_bitCount_0f7a4_1 : Rn o d zJ6_bitCount_0f7a4 1 [.int x] (st) w r = Rn o d zJ6_bitCount_0f7a4 2 [.int x] (.int x :: st) w r := rn_A (len := 1) dJ6_bitCount_0f7a4_1 rfl
theorem e_J6_bitCount_0f7a4_2 : Rn o d zJ6_bitCount_0f7a4 2 [a0] (st) w r = Rn o d zJ6_bitCount_0f7a4 3 [a0] (.int (nI 1) :: st) w r := rn_int (len := 1) dJ6_bitCount_0f7a4_2 rfl (by decide)
theorem e_J6_bitCount_0f7a4_3 : Rn o d zJ6_bitCount_0f7a4 3 [a0] (.int y :: .int x :: st) w r = Rn o d zJ6_bitCount_0f7a4 4 [a0] (.int ((x.toUInt32 >>> (y.toUInt32 &&& Int32.toUInt32 31)).toInt32) :: st) w r := rn_A (len := 1) dJ6_bitCount_0f7a4_3 rfl
theorem e_J6_bitCount_0f7a4_4 : Rn o d zJ6_bitCount_0f7a4 4 [a0] (st) w r = Rn o d zJ6_bitCount_0f7a4 7 [a0] (.int 1431655765 :: st) w r := rn_ldc dJ6_bitCount_0f7a4_4 ct_RJ6_265
theorem e_J6_bitCount_0f7a4_7 : Rn o d zJ6_bitCount_0f7a4 7 [a0] (.int y :: .int x :: st) w r = Rn o d zJ6_bitCount_0f7a4 8 [a0] (.int (x &&& y) :: st) w r := rn_A (len := 1) dJ6_bitCount_0f7a4_7 rfl
theorem e_J6_bitCount_0f7a4_8 : Rn o d zJ6_bitCount_0f7a4 8 [a0] (.int y :: .int x :: st) w r = Rn o d zJ6_bitCount_0f7a4 9 [a0] (.int (x - y) :: st) w r := rn_A (len := 1) dJ6_bitCount_0f7a4_8 rfl
theorem e_J6_bitCount_0f7a4_9 : Rn o d zJ6_bitCount_0f7a4 9 [a0] (.int x :: st) w r = Rn o d zJ6_bitCount_0f7a4 10 [.int x] (st) w r := rn_sti0 (len := 1) (i := 0) dJ6_bitCount_0f7a4_9 rfl (Nat.le_of_ble_eq_true rfl) (Or.inl rfl)
theorem e_J6_bitCount_0f7a4_10 : Rn o d zJ6_bitCount_0f7a4 10 [.int x] (st) w r = Rn o d zJ6_bitCount_0f7a4 11 [.int x] (.int x :: st) w r := rn_A (len := 1) dJ6_bitCount_0f7a4_10 rfl
theorem e_J6_bitCount_0f7a4_11 : Rn o d zJ6_bitCount_0f7a4 11 [a0] (st) w r = Rn o d zJ6_bitCount_0f7a4 14 [a0] (.int 858993459 :: st) w r := rn_ldc dJ6_bitCount_0f7a4_11 ct_RJ6_266
theorem e_J6_bitCount_0f7a4_14 : Rn o d zJ6_bitCount_0f7a4 14 [a0] (.int y :: .int x :: st) w r = Rn o d zJ6_bitCount_0f7a4 15 [a0] (.int (x &&& y) :: st) w r := rn_A (len := 1) dJ6_bitCount_0f7a4_14 rfl
theorem e_J6_bitCount_0f7a4_15 : Rn o d zJ6_bitCount_0f7a4 15 [.int x] (st) w r = Rn o d zJ6_bitCount_0f7a4 16 [.int x] (.int x :: st) w r := rn_A (len := 1) dJ6_bitCount_0f7a4_15 rfl
theorem e_J6_bitCount_0f7a4_16 : Rn o d zJ6_bitCount_0f7a4 16 [a0] (st) w r = Rn o d zJ6_bitCount_0f7a4 17 [a0] (.int (nI 2) :: st) w r := rn_int (len := 1) dJ6_bitCount_0f7a4_16 rfl (by decide)
theorem e_J6_bitCount_0f7a4_17 : Rn o d zJ6_bitCount_0f7a4 17 [a0] (.int y :: .int x :: st) w r = Rn o d zJ6_bitCount_0f7a4 18 [a0] (.int ((x.toUInt32 >>> (y.toUInt32 &&& Int32.toUInt32 31)).toInt32) :: st) w r := rn_A (len := 1) dJ6_bitCount_0f7a4_17 rfl
theorem e_J6_bitCount_0f7a4_18 : Rn o d zJ6_bitCount_0f7a4 18 [a0] (st) w r = Rn o d zJ6_bitCount_0f7a4 21 [a0] (.int 858993459 :: st) w r := rn_ldc dJ6_bitCount_0f7a4_18 ct_RJ6_266
theorem e_J6_bitCount_0f7a4_21 : Rn o d zJ6_bitCount_0f7a4 21 [a0] (.int y :: .int x :: st) w r = Rn o d zJ6_bitCount_0f7a4 22 [a0] (.int (x &&& y) :: st) w r := rn_A (len := 1) dJ6_bitCount_0f7a4_21 rfl
theorem e_J6_bitCount_0f7a4_22 : Rn o d zJ6_bitCount_0f7a4 22 [a0] (.int y :: .int x :: st) w r = Rn o d zJ6_bitCount_0f7a4 23 [a0] (.int (x + y) :: st) w r := rn_A (len := 1) dJ6_bitCount_0f7a4_22 rfl
theorem e_J6_bitCount_0f7a4_23 : Rn o d zJ6_bitCount_0f7a4 23 [a0] (.int x :: st) w r = Rn o d zJ6_bitCount_0f7a4 24 [.int x] (st) w r := rn_sti0 (len := 1) (i := 0) dJ6_bitCount_0f7a4_23 rfl (Nat.le_of_ble_eq_true rfl) (Or.inl rfl)
theorem e_J6_bitCount_0f7a4_24 : Rn o d zJ6_bitCount_0f7a4 24 [.int x] (st) w r = Rn o d zJ6_bitCount_0f7a4 25 [.int x] (.int x :: st) w r := rn_A (len := 1) dJ6_bitCount_0f7a4_24 rfl
theorem e_J6_bitCount_0f7a4_25 : Rn o d zJ6_bitCount_0f7a4 25 [.int x] (st) w r = Rn o d zJ6_bitCount_0f7a4 26 [.int x] (.int x :: st) w r := rn_A (len := 1) dJ6_bitCount_0f7a4_25 rfl
theorem e_J6_bitCount_0f7a4_26 : Rn o d zJ6_bitCount_0f7a4 26 [a0] (st) w r = Rn o d zJ6_bitCount_0f7a4 27 [a0] (.int (nI 4) :: st) w r := rn_int (len := 1) dJ6_bitCount_0f7a4_26 rfl (by decide)
theorem e_J6_bitCount_0f7a4_27 : Rn o d zJ6_bitCount_0f7a4 27 [a0] (.int y :: .int x :: st) w r = Rn o d zJ6_bitCount_0f7a4 28 [a0] (.int ((x.toUInt32 >>> (y.toUInt32 &&& Int32.toUInt32 31)).toInt32) :: st) w r := rn_A (len := 1) dJ6_bitCount_0f7a4_27 rfl
theorem e_J6_bitCount_0f7a4_28 : Rn o d zJ6_bitCount_0f7a4 28 [a0] (.int y :: .int x :: st) w r = Rn o d zJ6_bitCount_0f7a4 29 [a0] (.int (x + y) :: st) w r := rn_A (len := 1) dJ6_bitCount_0f7a4_28 rfl
theorem e_J6_bitCount_0f7a4_29 : Rn o d zJ6_bitCount_0f7a4 29 [a0] (st) w r = Rn o d zJ6_bitCount_0f7a4 32 [a0] (.int 252645135 :: st) w r := rn_ldc dJ6_bitCount_0f7a4_29 ct_RJ6_267
theorem e_J6_bitCount_0f7a4_32 : Rn o d zJ6_bitCount_0f7a4 32 [a0] (.int y :: .int x :: st) w r = Rn o d zJ6_bitCount_0f7a4 33 [a0] (.int (x &&& y) :: st) w r := rn_A (len := 1) dJ6_bitCount_0f7a4_32 rfl
theorem e_J6_bitCount_0f7a4_33 : Rn o d zJ6_bitCount_0f7a4 33 [a0] (.int x :: st) w r = Rn o d zJ6_bitCount_0f7a4 34 [.int x] (st) w r := rn_sti0 (len := 1) (i := 0) dJ6_bitCount_0f7a4_33 rfl (Nat.le_of_ble_eq_true rfl) (Or.inl rfl)
theorem e_J6_bitCount_0f7a4_34 : Rn o d zJ6_bitCount_0f7a4 34 [.int x] (st) w r = Rn o d zJ6_bitCount_0f7a4 35 [.int x] (.int x :: st) w r := rn_A (len := 1) dJ6_bitCount_0f7a4_34 rfl
theorem e_J6_bitCount_0f7a4_35 : Rn o d zJ6_bitCount_0f7a4 35 [.int x] (st) w r = Rn o d zJ6_bitCount_0f7a4 36 [.int x] (.int x :: st) w r := rn_A (len := 1) dJ6_bitCount_0f7a4_35 rfl
theorem e_J6_bitCount_0f7a4_36 : Rn o d zJ6_bitCount_0f7a4 36 [a0] (st) w r = Rn o d zJ6_bitCount_0f7a4 38 [a0] (.int (nI 8) :: st) w r := rn_int (len := 2) dJ6_bitCount_0f7a4_36 rfl (by decide)
theorem e_J6_bitCount_0f7a4_38 : Rn o d zJ6_bitCount_0f7a4 38 [a0] (.int y :: .int x :: st) w r = Rn o d zJ6_bitCount_0f7a4 39 [a0] (.int ((x.toUInt32 >>> (y.toUInt32 &&& Int32.toUInt32 31)).toInt32) :: st) w r := rn_A (len := 1) dJ6_bitCount_0f7a4_38 rfl
theorem e_J6_bitCount_0f7a4_39 : Rn o d zJ6_bitCount_0f7a4 39 [a0] (.int y :: .int x :: st) w r = Rn o d zJ6_bitCount_0f7a4 40 [a0] (.int (x + y) :: st) w r := rn_A (len := 1) dJ6_bitCount_0f7a4_39 rfl
theorem e_J6_bitCount_0f7a4_40 : Rn o d zJ6_bitCount_0f7a4 40 [a0] (.int x :: st) w r = Rn o d zJ6_bitCount_0f7a4 41 [.int x] (st) w r := rn_sti0 (len := 1) (i := 0) dJ6_bitCount_0f7a4_40 rfl (Nat.le_of_ble_eq_true rfl) (Or.inl rfl)
theorem e_J6_bitCount_0f7a4_41 : Rn o d zJ6_bitCount_0f7a4 41 [.int x] (st) w r = Rn o d zJ6_bitCount_0f7a4 42 [.int x] (.int x :: st) w r := rn_A (len := 1) dJ6_bitCount_0f7a4_41 rfl
theorem e_J6_bitCount_0f7a4_42 : Rn o d zJ6_bitCount_0f7a4 42 [.int x] (st) w r = Rn o d zJ6_bitCount_0f7a4 43 [.int x] (.int x :: st) w r := rn_A (len := 1) dJ6_bitCount_0f7a4_42 rfl
theorem e_J6_bitCount_0f7a4_43 : Rn o d zJ6_bitCount_0f7a4 43 [a0] (st) w r = Rn o d zJ6_bitCount_0f7a4 45 [a0] (.int (nI 16) :: st) w r := rn_int (len := 2) dJ6_bitCount_0f7a4_43 rfl (by decide)
theorem e_J6_bitCount_0f7a4_45 : Rn o d zJ6_bitCount_0f7a4 45 [a0] (.int y :: .int x :: st) w r = Rn o d zJ6_bitCount_0f7a4 46 [a0] (.int ((x.toUInt32 >>> (y.toUInt32 &&& Int32.toUInt32 31)).toInt32) :: st) w r := rn_A (len := 1) dJ6_bitCount_0f7a4_45 rfl
theorem e_J6_bitCount_0f7a4_46 : Rn o d zJ6_bitCount_0f7a4 46 [a0] (.int y :: .int x :: st) w r = Rn o d zJ6_bitCount_0f7a4 47 [a0] (.int (x + y) :: st) w r := rn_A (len := 1) dJ6_bitCount_0f7a4_46 rfl
theorem e_J6_bitCount_0f7a4_47 : Rn o d zJ6_bitCount_0f7a4 47 [a0] (.int x :: st) w r = Rn o d zJ6_bitCount_0f7a4 48 [.int x] (st) w r := rn_sti0 (len := 1) (i := 0) dJ6_bitCount_0f7a4_47 rfl (Nat.le_of_ble_eq_true rfl) (Or.inl rfl)
theorem e_J6_bitCount_0f7a4_48 : Rn o d zJ6_bitCount_0f7a4 48 [.int x] (st) w r = Rn o d zJ6_bitCount_0f7a4 49 [.int x] (.int x :: st) w r := rn_A (len := 1) dJ6_bitCount_0f7a4_48 rfl
theorem e_J6_bitCount_0f7a4_49 : Rn o d zJ6_bitCount_0f7a4 49 [a0] (st) w r = Rn o d zJ6_bitCount_0f7a4 51 [a0] (.int (nI 63) :: st) w r := rn_int (len := 2) dJ6_bitCount_0f7a4_49 rfl (by decide)
theorem e_J6_bitCount_0f7a4_51 : Rn o d zJ6_bitCount_0f7a4 51 [a0] (.int y :: .int x :: st) w r = Rn o d zJ6_bitCount_0f7a4 52 [a0] (.int (x &&& y) :: st) w r := rn_A (len := 1) dJ6_bitCount_0f7a4_51 rfl
theorem e_J6_bitCount_0f7a4_52 : Rn o d zJ6_bitCount_0f7a4 52 [a0] [.int x] w r = ((some (.int x), w) = r) := rn_R dJ6_bitCount_0f7a4_52 rfl
theorem e_J9_floorMod_7cf53_0 : Rn o d zJ9_floorMod_7cf53 0 [.int x, a1, a2] (st) w r = Rn o d zJ9_floorMod_7cf53 1 [.int x, a1, a2] (.int x :: st) w r := rn_A (len := 1) dJ9_floorMod_7cf53_0 rfl
theorem e_J9_floorMod_7cf53_1 : Rn o d zJ9_floorMod_7cf53 1 [a0, .int x, a2] (st) w r = Rn o d zJ9_floorMod_7cf53 2 [a0, .int x, a2] (.int x :: st) w r := rn_A (len := 1) dJ9_floorMod_7cf53_1 rfl
theorem e_J9_floorMod_7cf53_2 (h : ¬ y = 0) : Rn o d zJ9_floorMod_7cf53 2 [a0, a1, a2] (.int y :: .int x :: st) w r = Rn o d zJ9_floorMod_7cf53 3 [a0, a1, a2] (.int (x - x / y * y) :: st) w r := rn_irem dJ9_floorMod_7cf53_2 h
theorem e_J9_floorMod_7cf53_3 (h2 : ai_is2 (some a1) = false) : Rn o d zJ9_floorMod_7cf53 3 [a0, a1, a2] (.int x :: st) w r = Rn o d zJ9_floorMod_7cf53 4 [a0, a1, .int x] (st) w r := rn_sti0 (len := 1) (i := 2) dJ9_floorMod_7cf53_3 rfl (Nat.le_of_ble_eq_true rfl) (Or.inr h2)
theorem e_J9_floorMod_7cf53_3_i {x9 : Int32} : Rn o d zJ9_floorMod_7cf53 3 [a0, .int x9, a2] (.int x :: st) w r = Rn o d zJ9_floorMod_7cf53 4 [a0, .int x9, .int x] (st) w r := e_J9_floorMod_7cf53_3 rfl
theorem e_J9_floorMod_7cf53_3_r {i9 : Nat} : Rn o d zJ9_floorMod_7cf53 3 [a0, .ref i9, a2] (.int x :: st) w r = Rn o d zJ9_floorMod_7cf53 4 [a0, .ref i9, .int x] (st) w r := e_J9_floorMod_7cf53_3 rfl
theorem e_J9_floorMod_7cf53_3_n : Rn o d zJ9_floorMod_7cf53 3 [a0, .null, a2] (.int x :: st) w r = Rn o d zJ9_floorMod_7cf53 4 [a0, .null, .int x] (st) w r := e_J9_floorMod_7cf53_3 rfl
theorem e_J9_floorMod_7cf53_4 : Rn o d zJ9_floorMod_7cf53 4 [.int x, a1, a2] (st) w r = Rn o d zJ9_floorMod_7cf53 5 [.int x, a1, a2] (.int x :: st) w r := rn_A (len := 1) dJ9_floorMod_7cf53_4 rfl
theorem e_J9_floorMod_7cf53_5 : Rn o d zJ9_floorMod_7cf53 5 [a0, .int x, a2] (st) w r = Rn o d zJ9_floorMod_7cf53 6 [a0, .int x, a2] (.int x :: st) w r := rn_A (len := 1) dJ9_floorMod_7cf53_5 rfl
theorem e_J9_floorMod_7cf53_6 : Rn o d zJ9_floorMod_7cf53 6 [a0, a1, a2] (.int y :: .int x :: st) w r = Rn o d zJ9_floorMod_7cf53 7 [a0, a1, a2] (.int (x ^^^ y) :: st) w r := rn_A (len := 1) dJ9_floorMod_7cf53_6 rfl
theorem e_J9_floorMod_7cf53_7 : Rn o d zJ9_floorMod_7cf53 7 [a0, a1, a2] (.int x :: st) w r = if (nI 0) ≤ x then Rn o d zJ9_floorMod_7cf53 18 [a0, a1, a2] st w r else Rn o d zJ9_floorMod_7cf53 10 [a0, a1, a2] st w r := rn_br (off := 11) dJ9_floorMod_7cf53_7 rfl (by decide)
theorem e_J9_floorMod_7cf53_10 : Rn o d zJ9_floorMod_7cf53 10 [a0, a1, .int x] (st) w r = Rn o d zJ9_floorMod_7cf53 11 [a0, a1, .int x] (.int x :: st) w r := rn_A (len := 1) dJ9_floorMod_7cf53_10 rfl
theorem e_J9_floorMod_7cf53_11 : Rn o d zJ9_floorMod_7cf53 11 [a0, a1, a2] (.int x :: st) w r = if x = (nI 0) then Rn o d zJ9_floorMod_7cf53 18 [a0, a1, a2] st w r else Rn o d zJ9_floorMod_7cf53 14 [a0, a1, a2] st w r := rn_br (off := 7) dJ9_floorMod_7cf53_11 rfl (by decide)
theorem e_J9_floorMod_7cf53_14 : Rn o d zJ9_floorMod_7cf53 14 [a0, a1, .int x] (st) w r = Rn o d zJ9_floorMod_7cf53 15 [a0, a1, .int x] (.int x :: st) w r := rn_A (len := 1) dJ9_floorMod_7cf53_14 rfl
theorem e_J9_floorMod_7cf53_15 : Rn o d zJ9_floorMod_7cf53 15 [a0, .int x, a2] (st) w r = Rn o d zJ9_floorMod_7cf53 16 [a0, .int x, a2] (.int x :: st) w r := rn_A (len := 1) dJ9_floorMod_7cf53_15 rfl
theorem e_J9_floorMod_7cf53_16 : Rn o d zJ9_floorMod_7cf53 16 [a0, a1, a2] (.int y :: .int x :: st) w r = Rn o d zJ9_floorMod_7cf53 17 [a0, a1, a2] (.int (x + y) :: st) w r := rn_A (len := 1) dJ9_floorMod_7cf53_16 rfl
theorem e_J9_floorMod_7cf53_17 : Rn o d zJ9_floorMod_7cf53 17 [a0, a1, a2] [.int x] w r = ((some (.int x), w) = r) := rn_R dJ9_floorMod_7cf53_17 rfl
theorem e_J9_floorMod_7cf53_18 : Rn o d zJ9_floorMod_7cf53 18 [a0, a1, .int x] (st) w r = Rn o d zJ9_floorMod_7cf53 19 [a0, a1, .int x] (.int x :: st) w r := rn_A (len := 1) dJ9_floorMod_7cf53_18 rfl
theorem e_J9_floorMod_7cf53_19 : Rn o d zJ9_floorMod_7cf53 19 [a0, a1, a2] [.int x] w r = ((some (.int x), w) = r) := rn_R dJ9_floorMod_7cf53_19 rfl
end EQJ0
