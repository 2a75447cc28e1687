section EQT0
variable {o : ai_S} {d : Nat} {st : List Value} {w : ai_W} {r : Option Value × ai_W} {x y : Int32} {xl yl : Int64} {i j k n sl : Nat} {κ : Nat → Nat × Nat} {rf : Nat → Nat → Option Nat} {m : Nat → Nat → Int32} {lg : Nat → Nat → Int64} {a0 a1 a2 a3 a4 a5 a6 a7 a8 a9 a10 a11 a12 : Value}
theorem e_X6_beginAnew_0 : Rn o d zX6_beginAnew 0 [.ref i] (st) w r = Rn o d zX6_beginAnew 1 [.ref i] (.ref i :: st) w r := rn_A (len := 1) dX6_beginAnew_0 rfl
theorem e_X6_beginAnew_1 : Rn o d zX6_beginAnew 1 [a0] (st) w r = Rn o d zX6_beginAnew 2 [a0] (.int (nI 0) :: st) w r := rn_int (len := 1) dX6_beginAnew_1 rfl (by decide)
theorem e_X6_beginAnew_2 (hb : ai_T i) : Rn o d zX6_beginAnew 2 [a0] (.int x :: .ref i :: st) (ai_w m lg) r = Rn o d zX6_beginAnew 5 [a0] (st) (ai_w (ai_up m i 5 x) lg) r := rg_putI dX6_beginAnew_2 fl_RX6_27 rfl (by decide +kernel) hb.1
theorem e_X6_beginAnew_5 : Rn o d zX6_beginAnew 5 [.ref i] (st) w r = Rn o d zX6_beginAnew 6 [.ref i] (.ref i :: st) w r := rn_A (len := 1) dX6_beginAnew_5 rfl
theorem e_X6_beginAnew_6 : Rn o d zX6_beginAnew 6 [a0] (st) w r = Rn o d zX6_beginAnew 7 [a0] (.int (nI 0) :: st) w r := rn_int (len := 1) dX6_beginAnew_6 rfl (by decide)
theorem e_X6_beginAnew_7 (hb : ai_T i) : Rn o d zX6_beginAnew 7 [a0] (.int x :: .ref i :: st) (ai_w m lg) r = Rn o d zX6_beginAnew 10 [a0] (st) (ai_w (ai_up m i 6 x) lg) r := rg_putI dX6_beginAnew_7 fl_RX6_31 rfl (by decide +kernel) hb.1
theorem e_X6_beginAnew_10 : Rn o d zX6_beginAnew 10 [.ref i] (st) w r = Rn o d zX6_beginAnew 11 [.ref i] (.ref i :: st) w r := rn_A (len := 1) dX6_beginAnew_10 rfl
theorem e_X6_beginAnew_11 : Rn o d zX6_beginAnew 11 [a0] (st) w r = Rn o d zX6_beginAnew 12 [a0] (.int (nI 0) :: st) w r := rn_int (len := 1) dX6_beginAnew_11 rfl (by decide)
theorem e_X6_beginAnew_12 (hb : ai_T i) : Rn o d zX6_beginAnew 12 [a0] (.int x :: .ref i :: st) (ai_w m lg) r = Rn o d zX6_beginAnew 15 [a0] (st) (ai_w (ai_up m i 7 x) lg) r := rg_putI dX6_beginAnew_12 fl_RX6_34 rfl (by decide +kernel) hb.1
theorem e_X6_beginAnew_15 : Rn o d zX6_beginAnew 15 [.ref i] (st) w r = Rn o d zX6_beginAnew 16 [.ref i] (.ref i :: st) w r := rn_A (len := 1) dX6_beginAnew_15 rfl
theorem e_X6_beginAnew_16 : Rn o d zX6_beginAnew 16 [a0] (st) w r = Rn o d zX6_beginAnew 17 [a0] (.int (nI 0) :: st) w r := rn_int (len := 1) dX6_beginAnew_16 rfl (by decide)
theorem e_X6_beginAnew_17 (hb : ai_T i) : Rn o d zX6_beginAnew 17 [a0] (.int x :: .ref i :: st) (ai_w m lg) r = Rn o d zX6_beginAnew 20 [a0] (st) (ai_w (ai_up m i 8 x) lg) r := rg_putI dX6_beginAnew_17 fl_RX6_37 rfl (by decide +kernel) hb.1
theorem e_X6_beginAnew_20 : Rn o d zX6_beginAnew 20 [.ref i] (st) w r = Rn o d zX6_beginAnew 21 [.ref i] (.ref i :: st) w r := rn_A (len := 1) dX6_beginAnew_20 rfl
theorem e_X6_beginAnew_21 : Rn o d zX6_beginAnew 21 [a0] (st) w r = Rn o d zX6_beginAnew 23 [a0] (.int (-9) :: st) w r := rn_int (len := 2) dX6_beginAnew_21 rfl (by decide)
theorem e_X6_beginAnew_23 (hb : ai_T i) : Rn o d zX6_beginAnew 23 [a0] (.int x :: .ref i :: st) (ai_w m lg) r = Rn o d zX6_beginAnew 26 [a0] (st) (ai_w (ai_up m i 9 x) lg) r := rg_putI dX6_beginAnew_23 fl_RX6_40 rfl (by decide +kernel) hb.1
theorem e_X6_beginAnew_26 : Rn o d zX6_beginAnew 26 [a0] [] w r = ((none, w) = r) := rn_R dX6_beginAnew_26 rfl
theorem e_X6_mayEnd_0 : Rn o d zX6_mayEnd 0 [.ref i] (st) w r = Rn o d zX6_mayEnd 1 [.ref i] (.ref i :: st) w r := rn_A (len := 1) dX6_mayEnd_0 rfl
theorem e_X6_mayEnd_1 (hb : ai_T i) : Rn o d zX6_mayEnd 1 [a0] (.ref i :: st) (ai_w m lg) r = Rn o d zX6_mayEnd 4 [a0] (.int (m i 8) :: st) (ai_w m lg) r := rg_getI dX6_mayEnd_1 fl_RX6_37 rfl hb.1
theorem e_X6_mayEnd_4 : Rn o d zX6_mayEnd 4 [a0] (st) w r = Rn o d zX6_mayEnd 5 [a0] (.int (nI 1) :: st) w r := rn_int (len := 1) dX6_mayEnd_4 rfl (by decide)
theorem e_X6_mayEnd_5 : Rn o d zX6_mayEnd 5 [a0] (.int y :: .int x :: st) w r = if ¬ x = y then Rn o d zX6_mayEnd 12 [a0] st w r else Rn o d zX6_mayEnd 8 [a0] st w r := rn_br (off := 7) dX6_mayEnd_5 rfl (by decide)
theorem e_X6_mayEnd_8 : Rn o d zX6_mayEnd 8 [a0] (st) w r = Rn o d zX6_mayEnd 9 [a0] (.int (nI 1) :: st) w r := rn_int (len := 1) dX6_mayEnd_8 rfl (by decide)
theorem e_X6_mayEnd_9 : Rn o d zX6_mayEnd 9 [a0] (st) w r = Rn o d zX6_mayEnd 13 [a0] (st) w r := rn_goto dX6_mayEnd_9 (by decide)
theorem e_X6_mayEnd_12 : Rn o d zX6_mayEnd 12 [a0] (st) w r = Rn o d zX6_mayEnd 13 [a0] (.int (nI 0) :: st) w r := rn_int (len := 1) dX6_mayEnd_12 rfl (by decide)
theorem e_X6_mayEnd_13 (h : narrow .boolean (.int x) = .int x) : Rn o d zX6_mayEnd 13 [a0] [.int x] w r = ((some (.int x), w) = r) := rn_R dX6_mayEnd_13 (by simp [ai_R, h, show zX6_mayEnd.2.2.2 = some .boolean from rfl])
theorem e_X6_hasBerth_0 : Rn o d zX6_hasBerth 0 [a0, .int x] (st) w r = Rn o d zX6_hasBerth 1 [a0, .int x] (.int x :: st) w r := rn_A (len := 1) dX6_hasBerth_0 rfl
theorem e_X6_hasBerth_1 : Rn o d zX6_hasBerth 1 [a0, a1] (.int x :: st) w r = if x < (nI 0) then Rn o d zX6_hasBerth 16 [a0, a1] st w r else Rn o d zX6_hasBerth 4 [a0, a1] st w r := rn_br (off := 15) dX6_hasBerth_1 rfl (by decide)
theorem e_X6_hasBerth_4 : Rn o d zX6_hasBerth 4 [a0, .int x] (st) w r = Rn o d zX6_hasBerth 5 [a0, .int x] (.int x :: st) w r := rn_A (len := 1) dX6_hasBerth_4 rfl
theorem e_X6_hasBerth_5 : Rn o d zX6_hasBerth 5 [.ref i, a1] (st) w r = Rn o d zX6_hasBerth 6 [.ref i, a1] (.ref i :: st) w r := rn_A (len := 1) dX6_hasBerth_5 rfl
theorem e_X6_hasBerth_6 (hb : ai_T i) : Rn o d zX6_hasBerth 6 [a0, a1] (.ref i :: st) (ai_w m lg) r = Rn o d zX6_hasBerth 9 [a0, a1] (.int (m i 6) :: st) (ai_w m lg) r := rg_getI dX6_hasBerth_6 fl_RX6_31 rfl hb.1
theorem e_X6_hasBerth_9 : Rn o d zX6_hasBerth 9 [a0, a1] (.int y :: .int x :: st) w r = if y ≤ x then Rn o d zX6_hasBerth 16 [a0, a1] st w r else Rn o d zX6_hasBerth 12 [a0, a1] st w r := rn_br (off := 7) dX6_hasBerth_9 rfl (by decide)
theorem e_X6_hasBerth_12 : Rn o d zX6_hasBerth 12 [a0, a1] (st) w r = Rn o d zX6_hasBerth 13 [a0, a1] (.int (nI 1) :: st) w r := rn_int (len := 1) dX6_hasBerth_12 rfl (by decide)
theorem e_X6_hasBerth_13 : Rn o d zX6_hasBerth 13 [a0, a1] (st) w r = Rn o d zX6_hasBerth 17 [a0, a1] (st) w r := rn_goto dX6_hasBerth_13 (by decide)
theorem e_X6_hasBerth_16 : Rn o d zX6_hasBerth 16 [a0, a1] (st) w r = Rn o d zX6_hasBerth 17 [a0, a1] (.int (nI 0) :: st) w r := rn_int (len := 1) dX6_hasBerth_16 rfl (by decide)
theorem e_X6_hasBerth_17 (h : narrow .boolean (.int x) = .int x) : Rn o d zX6_hasBerth 17 [a0, a1] [.int x] w r = ((some (.int x), w) = r) := rn_R dX6_hasBerth_17 (by simp [ai_R, h, show zX6_hasBerth.2.2.2 = some .boolean from rfl])
theorem e_X6_hasDream_0 : Rn o d zX6_hasDream 0 [a0, .int x] (st) w r = Rn o d zX6_hasDream 1 [a0, .int x] (.int x :: st) w r := rn_A (len := 1) dX6_hasDream_0 rfl
theorem e_X6_hasDream_1 : Rn o d zX6_hasDream 1 [a0, a1] (.int x :: st) w r = if x < (nI 0) then Rn o d zX6_hasDream 16 [a0, a1] st w r else Rn o d zX6_hasDream 4 [a0, a1] st w r := rn_br (off := 15) dX6_hasDream_1 rfl (by decide)
theorem e_X6_hasDream_4 : Rn o d zX6_hasDream 4 [a0, .int x] (st) w r = Rn o d zX6_hasDream 5 [a0, .int x] (.int x :: st) w r := rn_A (len := 1) dX6_hasDream_4 rfl
theorem e_X6_hasDream_5 : Rn o d zX6_hasDream 5 [.ref i, a1] (st) w r = Rn o d zX6_hasDream 6 [.ref i, a1] (.ref i :: st) w r := rn_A (len := 1) dX6_hasDream_5 rfl
theorem e_X6_hasDream_6 (hb : ai_T i) : Rn o d zX6_hasDream 6 [a0, a1] (.ref i :: st) (ai_w m lg) r = Rn o d zX6_hasDream 9 [a0, a1] (.int (m i 7) :: st) (ai_w m lg) r := rg_getI dX6_hasDream_6 fl_RX6_34 rfl hb.1
theorem e_X6_hasDream_9 : Rn o d zX6_hasDream 9 [a0, a1] (.int y :: .int x :: st) w r = if y ≤ x then Rn o d zX6_hasDream 16 [a0, a1] st w r else Rn o d zX6_hasDream 12 [a0, a1] st w r := rn_br (off := 7) dX6_hasDream_9 rfl (by decide)
theorem e_X6_hasDream_12 : Rn o d zX6_hasDream 12 [a0, a1] (st) w r = Rn o d zX6_hasDream 13 [a0, a1] (.int (nI 1) :: st) w r := rn_int (len := 1) dX6_hasDream_12 rfl (by decide)
theorem e_X6_hasDream_13 : Rn o d zX6_hasDream 13 [a0, a1] (st) w r = Rn o d zX6_hasDream 17 [a0, a1] (st) w r := rn_goto dX6_hasDream_13 (by decide)
theorem e_X6_hasDream_16 : Rn o d zX6_hasDream 16 [a0, a1] (st) w r = Rn o d zX6_hasDream 17 [a0, a1] (.int (nI 0) :: st) w r := rn_int (len := 1) dX6_hasDream_16 rfl (by decide)
theorem e_X6_hasDream_17 (h : narrow .boolean (.int x) = .int x) : Rn o d zX6_hasDream 17 [a0, a1] [.int x] w r = ((some (.int x), w) = r) := rn_R dX6_hasDream_17 (by simp [ai_R, h, show zX6_hasDream.2.2.2 = some .boolean from rfl])
theorem e_X6_tideOn_0 : Rn o d zX6_tideOn 0 [.ref i, a1] (st) w r = Rn o d zX6_tideOn 1 [.ref i, a1] (.ref i :: st) w r := rn_A (len := 1) dX6_tideOn_0 rfl
theorem e_X6_tideOn_1 (hb : ai_T i) : Rn o d zX6_tideOn 1 [a0, a1] (.ref i :: st) (ai_w m lg) r = Rn o d zX6_tideOn 4 [a0, a1] (.int (m i 5) :: st) (ai_w m lg) r := rg_getI dX6_tideOn_1 fl_RX6_27 rfl hb.1
theorem e_X6_tideOn_4 : Rn o d zX6_tideOn 4 [a0, a1] (.int x :: st) w r = if ¬ x = (nI 0) then Rn o d zX6_tideOn 11 [a0, a1] st w r else Rn o d zX6_tideOn 7 [a0, a1] st w r := rn_br (off := 7) dX6_tideOn_4 rfl (by decide)
theorem e_X6_tideOn_7 : Rn o d zX6_tideOn 7 [a0, a1] (st) w r = Rn o d zX6_tideOn 8 [a0, a1] (.int (nI 0) :: st) w r := rn_int (len := 1) dX6_tideOn_7 rfl (by decide)
theorem e_X6_tideOn_8 : Rn o d zX6_tideOn 8 [a0, a1] (st) w r = Rn o d zX6_tideOn 24 [a0, a1] (st) w r := rn_goto dX6_tideOn_8 (by decide)
theorem e_X6_tideOn_11 : Rn o d zX6_tideOn 11 [.ref i, a1] (st) w r = Rn o d zX6_tideOn 12 [.ref i, a1] (.ref i :: st) w r := rn_A (len := 1) dX6_tideOn_11 rfl
theorem e_X6_tideOn_12 (hb : ai_T i) : Rn o d zX6_tideOn 12 [a0, a1] (.ref i :: st) (ai_w m lg) r = Rn o d zX6_tideOn 15 [a0, a1] (.ref (i + 1) :: st) (ai_w m lg) r := rg_getR dX6_tideOn_12 fl_RX6_9 rfl hb.1 (ai_Tr0 hb)
theorem e_X6_tideOn_15 : Rn o d zX6_tideOn 15 [a0, .int x] (st) w r = Rn o d zX6_tideOn 16 [a0, .int x] (.int x :: st) w r := rn_A (len := 1) dX6_tideOn_15 rfl
theorem e_X6_tideOn_16 : Rn o d zX6_tideOn 16 [.ref i, a1] (st) w r = Rn o d zX6_tideOn 17 [.ref i, a1] (.ref i :: st) w r := rn_A (len := 1) dX6_tideOn_16 rfl
theorem e_X6_tideOn_17 (hb : ai_T i) : Rn o d zX6_tideOn 17 [a0, a1] (.ref i :: st) (ai_w m lg) r = Rn o d zX6_tideOn 20 [a0, a1] (.int (m i 5) :: st) (ai_w m lg) r := rg_getI dX6_tideOn_17 fl_RX6_27 rfl hb.1
theorem e_X6_tideOn_20 {s0 : Int32} {s1 : Int32} {t0 : Nat} {u : Int32} {w' : ai_W} (hE : Ev o d zJ9_floorMod_7cf53 [.int s0, .int s1] w (some (.int u)) w') : Rn o (d + 1) zX6_tideOn 20 [a0, a1] ([.int s1, .int s0, .ref t0]) w r = Rn o (d + 1) zX6_tideOn 23 [a0, a1] ([.int u, .ref t0]) w' r := rn_cS (n := 2) (v := some (.int u)) (As := [.int s0, .int s1]) (rest := [.ref t0]) (zz := zJ9_floorMod_7cf53) dX6_tideOn_20 mn_RX6_43 mi_RX6_43 cS_RX6_43 rfl (Nat.le_of_ble_eq_true rfl) hE
theorem e_X6_tideOn_23 (hk : ai_a0 i = true) (hj : j < ai_len i) : Rn o d zX6_tideOn 23 [a0, a1] (.int (nI j) :: .ref i :: st) (ai_w m lg) r = Rn o d zX6_tideOn 24 [a0, a1] (.int (m i j) :: st) (ai_w m lg) r := rf_ald0 dX6_tideOn_23 hk hj
theorem e_X6_tideOn_24 : Rn o d zX6_tideOn 24 [a0, a1] [.int x] w r = ((some (.int x), w) = r) := rn_R dX6_tideOn_24 rfl
theorem e_X6_hears_0 : Rn o d zX6_hears 0 [.ref i, a1] (st) w r = Rn o d zX6_hears 1 [.ref i, a1] (.ref i :: st) w r := rn_A (len := 1) dX6_hears_0 rfl
theorem e_X6_hears_1 (hb : ai_T i) : Rn o d zX6_hears 1 [a0, a1] (.ref i :: st) (ai_w m lg) r = Rn o d zX6_hears 4 [a0, a1] (.int (m i 8) :: st) (ai_w m lg) r := rg_getI dX6_hears_1 fl_RX6_37 rfl hb.1
theorem e_X6_hears_4 : Rn o d zX6_hears 4 [a0, a1] (.int x :: st) w r = if ¬ x = (nI 0) then Rn o d zX6_hears 24 [a0, a1] st w r else Rn o d zX6_hears 7 [a0, a1] st w r := rn_br (off := 20) dX6_hears_4 rfl (by decide)
theorem e_X6_hears_7 : Rn o d zX6_hears 7 [.ref i, a1] (st) w r = Rn o d zX6_hears 8 [.ref i, a1] (.ref i :: st) w r := rn_A (len := 1) dX6_hears_7 rfl
theorem e_X6_hears_8 : Rn o d zX6_hears 8 [a0, a1] (st) w r = Rn o d zX6_hears 9 [a0, a1] (.int (nI 1) :: st) w r := rn_int (len := 1) dX6_hears_8 rfl (by decide)
theorem e_X6_hears_9 (hb : ai_T i) : Rn o d zX6_hears 9 [a0, a1] (.int x :: .ref i :: st) (ai_w m lg) r = Rn o d zX6_hears 12 [a0, a1] (st) (ai_w (ai_up m i 8 x) lg) r := rg_putI dX6_hears_9 fl_RX6_37 rfl (by decide +kernel) hb.1
theorem e_X6_hears_12 : Rn o d zX6_hears 12 [a0, .int x] (st) w r = Rn o d zX6_hears 13 [a0, .int x] (.int x :: st) w r := rn_A (len := 1) dX6_hears_12 rfl
theorem e_X6_hears_13 : Rn o d zX6_hears 13 [a0, a1] (st) w r = Rn o d zX6_hears 15 [a0, a1] (.int (nI 72) :: st) w r := rn_int (len := 2) dX6_hears_13 rfl (by decide)
theorem e_X6_hears_15 : Rn o d zX6_hears 15 [a0, a1] (.int y :: .int x :: st) w r = if ¬ x = y then Rn o d zX6_hears 22 [a0, a1] st w r else Rn o d zX6_hears 18 [a0, a1] st w r := rn_br (off := 7) dX6_hears_15 rfl (by decide)
theorem e_X6_hears_18 : Rn o d zX6_hears 18 [a0, a1] (st) w r = Rn o d zX6_hears 19 [a0, a1] (.int (nI 1) :: st) w r := rn_int (len := 1) dX6_hears_18 rfl (by decide)
theorem e_X6_hears_19 : Rn o d zX6_hears 19 [a0, a1] (st) w r = Rn o d zX6_hears 23 [a0, a1] (st) w r := rn_goto dX6_hears_19 (by decide)
theorem e_X6_hears_22 : Rn o d zX6_hears 22 [a0, a1] (st) w r = Rn o d zX6_hears 23 [a0, a1] (.int (nI 0) :: st) w r := rn_int (len := 1) dX6_hears_22 rfl (by decide)
theorem e_X6_hears_23 (h : narrow .boolean (.int x) = .int x) : Rn o d zX6_hears 23 [a0, a1] [.int x] w r = ((some (.int x), w) = r) := rn_R dX6_hears_23 (by simp [ai_R, h, show zX6_hears.2.2.2 = some .boolean from rfl])
theorem e_X6_hears_24 : Rn o d zX6_hears 24 [.ref i, a1] (st) w r = Rn o d zX6_hears 25 [.ref i, a1] (.ref i :: st) w r := rn_A (len := 1) dX6_hears_24 rfl
theorem e_X6_hears_25 (hb : ai_T i) : Rn o d zX6_hears 25 [a0, a1] (.ref i :: st) (ai_w m lg) r = Rn o d zX6_hears 28 [a0, a1] (.int (m i 8) :: st) (ai_w m lg) r := rg_getI dX6_hears_25 fl_RX6_37 rfl hb.1
theorem e_X6_hears_28 : Rn o d zX6_hears 28 [a0, a1] (st) w r = Rn o d zX6_hears 29 [a0, a1] (.int (nI 1) :: st) w r := rn_int (len := 1) dX6_hears_28 rfl (by decide)
theorem e_X6_hears_29 : Rn o d zX6_hears 29 [a0, a1] (.int y :: .int x :: st) w r = if ¬ x = y then Rn o d zX6_hears 49 [a0, a1] st w r else Rn o d zX6_hears 32 [a0, a1] st w r := rn_br (off := 20) dX6_hears_29 rfl (by decide)
theorem e_X6_hears_32 : Rn o d zX6_hears 32 [.ref i, a1] (st) w r = Rn o d zX6_hears 33 [.ref i, a1] (.ref i :: st) w r := rn_A (len := 1) dX6_hears_32 rfl
theorem e_X6_hears_33 : Rn o d zX6_hears 33 [a0, .int x] (st) w r = Rn o d zX6_hears 34 [a0, .int x] (.int x :: st) w r := rn_A (len := 1) dX6_hears_33 rfl
theorem e_X6_hears_34 (hb : ai_T i) : Rn o d zX6_hears 34 [a0, a1] (.int x :: .ref i :: st) (ai_w m lg) r = Rn o d zX6_hears 37 [a0, a1] (st) (ai_w (ai_up m i 8 x) lg) r := rg_putI dX6_hears_34 fl_RX6_37 rfl (by decide +kernel) hb.1
theorem e_X6_hears_37 : Rn o d zX6_hears 37 [.ref i, a1] (st) w r = Rn o d zX6_hears 38 [.ref i, a1] (.ref i :: st) w r := rn_A (len := 1) dX6_hears_37 rfl
theorem e_X6_hears_38 : Rn o d zX6_hears 38 [a0, a1] (st) w r = Rn o d zX6_hears 40 [a0, a1] (.int (-9) :: st) w r := rn_int (len := 2) dX6_hears_38 rfl (by decide)
theorem e_X6_hears_40 (hb : ai_T i) : Rn o d zX6_hears 40 [a0, a1] (.int x :: .ref i :: st) (ai_w m lg) r = Rn o d zX6_hears 43 [a0, a1] (st) (ai_w (ai_up m i 9 x) lg) r := rg_putI dX6_hears_40 fl_RX6_40 rfl (by decide +kernel) hb.1
theorem e_X6_hears_43 : Rn o d zX6_hears 43 [.ref i, a1] (st) w r = Rn o d zX6_hears 44 [.ref i, a1] (.ref i :: st) w r := rn_A (len := 1) dX6_hears_43 rfl
theorem e_X6_hears_44 : Rn o d zX6_hears 44 [a0, .int x] (st) w r = Rn o d zX6_hears 45 [a0, .int x] (.int x :: st) w r := rn_A (len := 1) dX6_hears_44 rfl
theorem e_X6_hears_45 {s0 : Int32} {u : Int32} {w' : ai_W} (hb : ai_T i) (hE : Ev o d zX6_hasRoomFor [.ref i, .int s0] (ai_w m lg) (some (.int u)) w') : Rn o (d + 1) zX6_hears 45 [a0, a1] ([.int s0, .ref i]) (ai_w m lg) r = Rn o (d + 1) zX6_hears 48 [a0, a1] ([.int u]) w' r := rn_cV (ci := 6) (n := 1) (b := i) (v := some (.int u)) (As := [.int s0]) (rest := []) (zz := zX6_hasRoomFor) dX6_hears_45 cv_RX6_49 rfl rfl (Nat.le_of_ble_eq_true rfl) hb.1 hE
theorem e_X6_hears_48 (h : narrow .boolean (.int x) = .int x) : Rn o d zX6_hears 48 [a0, a1] [.int x] w r = ((some (.int x), w) = r) := rn_R dX6_hears_48 (by simp [ai_R, h, show zX6_hears.2.2.2 = some .boolean from rfl])
theorem e_X6_hears_49 : Rn o d zX6_hears 49 [a0, .int x] (st) w r = Rn o d zX6_hears 50 [a0, .int x] (.int x :: st) w r := rn_A (len := 1) dX6_hears_49 rfl
theorem e_X6_hears_50 : Rn o d zX6_hears 50 [a0, a1] (st) w r = Rn o d zX6_hears 52 [a0, a1] (.int (nI 48) :: st) w r := rn_int (len := 2) dX6_hears_50 rfl (by decide)
theorem e_X6_hears_52 : Rn o d zX6_hears 52 [a0, a1] (.int y :: .int x :: st) w r = if x < y then Rn o d zX6_hears 61 [a0, a1] st w r else Rn o d zX6_hears 55 [a0, a1] st w r := rn_br (off := 9) dX6_hears_52 rfl (by decide)
theorem e_X6_hears_55 : Rn o d zX6_hears 55 [a0, .int x] (st) w r = Rn o d zX6_hears 56 [a0, .int x] (.int x :: st) w r := rn_A (len := 1) dX6_hears_55 rfl
theorem e_X6_hears_56 : Rn o d zX6_hears 56 [a0, a1] (st) w r = Rn o d zX6_hears 58 [a0, a1] (.int (nI 57) :: st) w r := rn_int (len := 2) dX6_hears_56 rfl (by decide)
theorem e_X6_hears_58 : Rn o d zX6_hears 58 [a0, a1] (.int y :: .int x :: st) w r = if x ≤ y then Rn o d zX6_hears 63 [a0, a1] st w r else Rn o d zX6_hears 61 [a0, a1] st w r := rn_br (off := 5) dX6_hears_58 rfl (by decide)
theorem e_X6_hears_61 : Rn o d zX6_hears 61 [a0, a1] (st) w r = Rn o d zX6_hears 62 [a0, a1] (.int (nI 0) :: st) w r := rn_int (len := 1) dX6_hears_61 rfl (by decide)
theorem e_X6_hears_62 (h : narrow .boolean (.int x) = .int x) : Rn o d zX6_hears 62 [a0, a1] [.int x] w r = ((some (.int x), w) = r) := rn_R dX6_hears_62 (by simp [ai_R, h, show zX6_hears.2.2.2 = some .boolean from rfl])
theorem e_X6_hears_63 : Rn o d zX6_hears 63 [.ref i, a1] (st) w r = Rn o d zX6_hears 64 [.ref i, a1] (.ref i :: st) w r := rn_A (len := 1) dX6_hears_63 rfl
theorem e_X6_hears_64 (hb : ai_T i) : Rn o d zX6_hears 64 [a0, a1] (.ref i :: st) (ai_w m lg) r = Rn o d zX6_hears 67 [a0, a1] (.int (m i 9) :: st) (ai_w m lg) r := rg_getI dX6_hears_64 fl_RX6_40 rfl hb.1
theorem e_X6_hears_67 : Rn o d zX6_hears 67 [a0, a1] (st) w r = Rn o d zX6_hears 69 [a0, a1] (.int (-9) :: st) w r := rn_int (len := 2) dX6_hears_67 rfl (by decide)
theorem e_X6_hears_69 : Rn o d zX6_hears 69 [a0, a1] (.int y :: .int x :: st) w r = if ¬ x = y then Rn o d zX6_hears 83 [a0, a1] st w r else Rn o d zX6_hears 72 [a0, a1] st w r := rn_br (off := 14) dX6_hears_69 rfl (by decide)
theorem e_X6_hears_72 : Rn o d zX6_hears 72 [.ref i, a1] (st) w r = Rn o d zX6_hears 73 [.ref i, a1] (.ref i :: st) w r := rn_A (len := 1) dX6_hears_72 rfl
theorem e_X6_hears_73 : Rn o d zX6_hears 73 [a0, .int x] (st) w r = Rn o d zX6_hears 74 [a0, .int x] (.int x :: st) w r := rn_A (len := 1) dX6_hears_73 rfl
theorem e_X6_hears_74 : Rn o d zX6_hears 74 [a0, a1] (st) w r = Rn o d zX6_hears 76 [a0, a1] (.int (nI 48) :: st) w r := rn_int (len := 2) dX6_hears_74 rfl (by decide)
theorem e_X6_hears_76 : Rn o d zX6_hears 76 [a0, a1] (.int y :: .int x :: st) w r = Rn o d zX6_hears 77 [a0, a1] (.int (x - y) :: st) w r := rn_A (len := 1) dX6_hears_76 rfl
theorem e_X6_hears_77 {s0 : Int32} {u : Int32} {w' : ai_W} (hb : ai_T i) (hE : Ev o d zX6_hearsFirst [.ref i, .int s0] (ai_w m lg) (some (.int u)) w') : Rn o (d + 1) zX6_hears 77 [a0, a1] ([.int s0, .ref i]) (ai_w m lg) r = Rn o (d + 1) zX6_hears 80 [a0, a1] ([.int u]) w' r := rn_cV (ci := 6) (n := 1) (b := i) (v := some (.int u)) (As := [.int s0]) (rest := []) (zz := zX6_hearsFirst) dX6_hears_77 cv_RX6_53 rfl rfl (Nat.le_of_ble_eq_true rfl) hb.1 hE
theorem e_X6_hears_80 : Rn o d zX6_hears 80 [a0, a1] (st) w r = Rn o d zX6_hears 91 [a0, a1] (st) w r := rn_goto dX6_hears_80 (by decide)
theorem e_X6_hears_83 : Rn o d zX6_hears 83 [.ref i, a1] (st) w r = Rn o d zX6_hears 84 [.ref i, a1] (.ref i :: st) w r := rn_A (len := 1) dX6_hears_83 rfl
theorem e_X6_hears_84 : Rn o d zX6_hears 84 [a0, .int x] (st) w r = Rn o d zX6_hears 85 [a0, .int x] (.int x :: st) w r := rn_A (len := 1) dX6_hears_84 rfl
theorem e_X6_hears_85 : Rn o d zX6_hears 85 [a0, a1] (st) w r = Rn o d zX6_hears 87 [a0, a1] (.int (nI 48) :: st) w r := rn_int (len := 2) dX6_hears_85 rfl (by decide)
theorem e_X6_hears_87 : Rn o d zX6_hears 87 [a0, a1] (.int y :: .int x :: st) w r = Rn o d zX6_hears 88 [a0, a1] (.int (x - y) :: st) w r := rn_A (len := 1) dX6_hears_87 rfl
theorem e_X6_hears_88 {s0 : Int32} {u : Int32} {w' : ai_W} (hb : ai_T i) (hE : Ev o d zX6_hearsKind [.ref i, .int s0] (ai_w m lg) (some (.int u)) w') : Rn o (d + 1) zX6_hears 88 [a0, a1] ([.int s0, .ref i]) (ai_w m lg) r = Rn o (d + 1) zX6_hears 91 [a0, a1] ([.int u]) w' r := rn_cV (ci := 6) (n := 1) (b := i) (v := some (.int u)) (As := [.int s0]) (rest := []) (zz := zX6_hearsKind) dX6_hears_88 cv_RX6_56 rfl rfl (Nat.le_of_ble_eq_true rfl) hb.1 hE
theorem e_X6_hears_91 (h : narrow .boolean (.int x) = .int x) : Rn o d zX6_hears 91 [a0, a1] [.int x] w r = ((some (.int x), w) = r) := rn_R dX6_hears_91 (by simp [ai_R, h, show zX6_hears.2.2.2 = some .boolean from rfl])
theorem e_X6_hasRoomFor_0 : Rn o d zX6_hasRoomFor 0 [a0, .int x] (st) w r = Rn o d zX6_hasRoomFor 1 [a0, .int x] (.int x :: st) w r := rn_A (len := 1) dX6_hasRoomFor_0 rfl
theorem e_X6_hasRoomFor_1_66 : Rn o d zX6_hasRoomFor 1 [a0, a1] (.int (nI 66) :: st) w r = Rn o d zX6_hasRoomFor 50 [a0, a1] (st) w r := rn_lsw dX6_hasRoomFor_1 (by decide) (off := 49) (by decide) (by decide)
theorem e_X6_hasRoomFor_1_68 : Rn o d zX6_hasRoomFor 1 [a0, a1] (.int (nI 68) :: st) w r = Rn o d zX6_hasRoomFor 64 [a0, a1] (st) w r := rn_lsw dX6_hasRoomFor_1 (by decide) (off := 63) (by decide) (by decide)
theorem e_X6_hasRoomFor_1_84 : Rn o d zX6_hasRoomFor 1 [a0, a1] (.int (nI 84) :: st) w r = Rn o d zX6_hasRoomFor 36 [a0, a1] (st) w r := rn_lsw dX6_hasRoomFor_1 (by decide) (off := 35) (by decide) (by decide)
theorem e_X6_hasRoomFor_1_d (h : 66 ≠ x.toInt ∧ 68 ≠ x.toInt ∧ 84 ≠ x.toInt) : Rn o d zX6_hasRoomFor 1 [a0, a1] (.int x :: st) w r = Rn o d zX6_hasRoomFor 78 [a0, a1] (st) w r := rn_lsw dX6_hasRoomFor_1 (by decide) (off := 77) (by simp [Op.lookupswitch.offset, h]) (by decide)
theorem e_X6_hasRoomFor_36 : Rn o d zX6_hasRoomFor 36 [.ref i, a1] (st) w r = Rn o d zX6_hasRoomFor 37 [.ref i, a1] (.ref i :: st) w r := rn_A (len := 1) dX6_hasRoomFor_36 rfl
theorem e_X6_hasRoomFor_37 (hb : ai_T i) : Rn o d zX6_hasRoomFor 37 [a0, a1] (.ref i :: st) (ai_w m lg) r = Rn o d zX6_hasRoomFor 40 [a0, a1] (.int (m i 5) :: st) (ai_w m lg) r := rg_getI dX6_hasRoomFor_37 fl_RX6_27 rfl hb.1
theorem e_X6_hasRoomFor_40 : Rn o d zX6_hasRoomFor 40 [a0, a1] (st) w r = Rn o d zX6_hasRoomFor 41 [a0, a1] (.int (nI 4) :: st) w r := rn_int (len := 1) dX6_hasRoomFor_40 rfl (by decide)
theorem e_X6_hasRoomFor_41 : Rn o d zX6_hasRoomFor 41 [a0, a1] (.int y :: .int x :: st) w r = if y ≤ x then Rn o d zX6_hasRoomFor 48 [a0, a1] st w r else Rn o d zX6_hasRoomFor 44 [a0, a1] st w r := rn_br (off := 7) dX6_hasRoomFor_41 rfl (by decide)
theorem e_X6_hasRoomFor_44 : Rn o d zX6_hasRoomFor 44 [a0, a1] (st) w r = Rn o d zX6_hasRoomFor 45 [a0, a1] (.int (nI 1) :: st) w r := rn_int (len := 1) dX6_hasRoomFor_44 rfl (by decide)
theorem e_X6_hasRoomFor_45 : Rn o d zX6_hasRoomFor 45 [a0, a1] (st) w r = Rn o d zX6_hasRoomFor 49 [a0, a1] (st) w r := rn_goto dX6_hasRoomFor_45 (by decide)
theorem e_X6_hasRoomFor_48 : Rn o d zX6_hasRoomFor 48 [a0, a1] (st) w r = Rn o d zX6_hasRoomFor 49 [a0, a1] (.int (nI 0) :: st) w r := rn_int (len := 1) dX6_hasRoomFor_48 rfl (by decide)
theorem e_X6_hasRoomFor_49 (h : narrow .boolean (.int x) = .int x) : Rn o d zX6_hasRoomFor 49 [a0, a1] [.int x] w r = ((some (.int x), w) = r) := rn_R dX6_hasRoomFor_49 (by simp [ai_R, h, show zX6_hasRoomFor.2.2.2 = some .boolean from rfl])
theorem e_X6_hasRoomFor_50 : Rn o d zX6_hasRoomFor 50 [.ref i, a1] (st) w r = Rn o d zX6_hasRoomFor 51 [.ref i, a1] (.ref i :: st) w r := rn_A (len := 1) dX6_hasRoomFor_50 rfl
theorem e_X6_hasRoomFor_51 (hb : ai_T i) : Rn o d zX6_hasRoomFor 51 [a0, a1] (.ref i :: st) (ai_w m lg) r = Rn o d zX6_hasRoomFor 54 [a0, a1] (.int (m i 6) :: st) (ai_w m lg) r := rg_getI dX6_hasRoomFor_51 fl_RX6_31 rfl hb.1
theorem e_X6_hasRoomFor_54 : Rn o d zX6_hasRoomFor 54 [a0, a1] (st) w r = Rn o d zX6_hasRoomFor 55 [a0, a1] (.int (nI 4) :: st) w r := rn_int (len := 1) dX6_hasRoomFor_54 rfl (by decide)
theorem e_X6_hasRoomFor_55 : Rn o d zX6_hasRoomFor 55 [a0, a1] (.int y :: .int x :: st) w r = if y ≤ x then Rn o d zX6_hasRoomFor 62 [a0, a1] st w r else Rn o d zX6_hasRoomFor 58 [a0, a1] st w r := rn_br (off := 7) dX6_hasRoomFor_55 rfl (by decide)
theorem e_X6_hasRoomFor_58 : Rn o d zX6_hasRoomFor 58 [a0, a1] (st) w r = Rn o d zX6_hasRoomFor 59 [a0, a1] (.int (nI 1) :: st) w r := rn_int (len := 1) dX6_hasRoomFor_58 rfl (by decide)
theorem e_X6_hasRoomFor_59 : Rn o d zX6_hasRoomFor 59 [a0, a1] (st) w r = Rn o d zX6_hasRoomFor 63 [a0, a1] (st) w r := rn_goto dX6_hasRoomFor_59 (by decide)
theorem e_X6_hasRoomFor_62 : Rn o d zX6_hasRoomFor 62 [a0, a1] (st) w r = Rn o d zX6_hasRoomFor 63 [a0, a1] (.int (nI 0) :: st) w r := rn_int (len := 1) dX6_hasRoomFor_62 rfl (by decide)
theorem e_X6_hasRoomFor_63 (h : narrow .boolean (.int x) = .int x) : Rn o d zX6_hasRoomFor 63 [a0, a1] [.int x] w r = ((some (.int x), w) = r) := rn_R dX6_hasRoomFor_63 (by simp [ai_R, h, show zX6_hasRoomFor.2.2.2 = some .boolean from rfl])
theorem e_X6_hasRoomFor_64 : Rn o d zX6_hasRoomFor 64 [.ref i, a1] (st) w r = Rn o d zX6_hasRoomFor 65 [.ref i, a1] (.ref i :: st) w r := rn_A (len := 1) dX6_hasRoomFor_64 rfl
theorem e_X6_hasRoomFor_65 (hb : ai_T i) : Rn o d zX6_hasRoomFor 65 [a0, a1] (.ref i :: st) (ai_w m lg) r = Rn o d zX6_hasRoomFor 68 [a0, a1] (.int (m i 7) :: st) (ai_w m lg) r := rg_getI dX6_hasRoomFor_65 fl_RX6_34 rfl hb.1
theorem e_X6_hasRoomFor_68 : Rn o d zX6_hasRoomFor 68 [a0, a1] (st) w r = Rn o d zX6_hasRoomFor 69 [a0, a1] (.int (nI 5) :: st) w r := rn_int (len := 1) dX6_hasRoomFor_68 rfl (by decide)
theorem e_X6_hasRoomFor_69 : Rn o d zX6_hasRoomFor 69 [a0, a1] (.int y :: .int x :: st) w r = if y ≤ x then Rn o d zX6_hasRoomFor 76 [a0, a1] st w r else Rn o d zX6_hasRoomFor 72 [a0, a1] st w r := rn_br (off := 7) dX6_hasRoomFor_69 rfl (by decide)
theorem e_X6_hasRoomFor_72 : Rn o d zX6_hasRoomFor 72 [a0, a1] (st) w r = Rn o d zX6_hasRoomFor 73 [a0, a1] (.int (nI 1) :: st) w r := rn_int (len := 1) dX6_hasRoomFor_72 rfl (by decide)
theorem e_X6_hasRoomFor_73 : Rn o d zX6_hasRoomFor 73 [a0, a1] (st) w r = Rn o d zX6_hasRoomFor 77 [a0, a1] (st) w r := rn_goto dX6_hasRoomFor_73 (by decide)
theorem e_X6_hasRoomFor_76 : Rn o d zX6_hasRoomFor 76 [a0, a1] (st) w r = Rn o d zX6_hasRoomFor 77 [a0, a1] (.int (nI 0) :: st) w r := rn_int (len := 1) dX6_hasRoomFor_76 rfl (by decide)
theorem e_X6_hasRoomFor_77 (h : narrow .boolean (.int x) = .int x) : Rn o d zX6_hasRoomFor 77 [a0, a1] [.int x] w r = ((some (.int x), w) = r) := rn_R dX6_hasRoomFor_77 (by simp [ai_R, h, show zX6_hasRoomFor.2.2.2 = some .boolean from rfl])
theorem e_X6_hasRoomFor_78 : Rn o d zX6_hasRoomFor 78 [a0, a1] (st) w r = Rn o d zX6_hasRoomFor 79 [a0, a1] (.int (nI 0) :: st) w r := rn_int (len := 1) dX6_hasRoomFor_78 rfl (by decide)
theorem e_X6_hasRoomFor_79 (h : narrow .boolean (.int x) = .int x) : Rn o d zX6_hasRoomFor 79 [a0, a1] [.int x] w r = ((some (.int x), w) = r) := rn_R dX6_hasRoomFor_79 (by simp [ai_R, h, show zX6_hasRoomFor.2.2.2 = some .boolean from rfl])
theorem e_X6_hearsFirst_0 : Rn o d zX6_hearsFirst 0 [.ref i, a1] (st) w r = Rn o d zX6_hearsFirst 1 [.ref i, a1] (.ref i :: st) w r := rn_A (len := 1) dX6_hearsFirst_0 rfl
theorem e_X6_hearsFirst_1 (hb : ai_T i) : Rn o d zX6_hearsFirst 1 [a0, a1] (.ref i :: st) (ai_w m lg) r = Rn o d zX6_hearsFirst 4 [a0, a1] (.int (m i 8) :: st) (ai_w m lg) r := rg_getI dX6_hearsFirst_1 fl_RX6_37 rfl hb.1
theorem e_X6_hearsFirst_4 : Rn o d zX6_hearsFirst 4 [a0, a1] (st) w r = Rn o d zX6_hearsFirst 6 [a0, a1] (.int (nI 68) :: st) w r := rn_int (len := 2) dX6_hearsFirst_4 rfl (by decide)
theorem e_X6_hearsFirst_6 : Rn o d zX6_hearsFirst 6 [a0, a1] (.int y :: .int x :: st) w r = if ¬ x = y then Rn o d zX6_hearsFirst 15 [a0, a1] st w r else Rn o d zX6_hearsFirst 9 [a0, a1] st w r := rn_br (off := 9) dX6_hearsFirst_6 rfl (by decide)
theorem e_X6_hearsFirst_9 : Rn o d zX6_hearsFirst 9 [a0, .int x] (st) w r = Rn o d zX6_hearsFirst 10 [a0, .int x] (.int x :: st) w r := rn_A (len := 1) dX6_hearsFirst_9 rfl
theorem e_X6_hearsFirst_10 : Rn o d zX6_hearsFirst 10 [a0, a1] (.int x :: st) w r = if ¬ x = (nI 0) then Rn o d zX6_hearsFirst 15 [a0, a1] st w r else Rn o d zX6_hearsFirst 13 [a0, a1] st w r := rn_br (off := 5) dX6_hearsFirst_10 rfl (by decide)
theorem e_X6_hearsFirst_13 : Rn o d zX6_hearsFirst 13 [a0, a1] (st) w r = Rn o d zX6_hearsFirst 14 [a0, a1] (.int (nI 0) :: st) w r := rn_int (len := 1) dX6_hearsFirst_13 rfl (by decide)
theorem e_X6_hearsFirst_14 (h : narrow .boolean (.int x) = .int x) : Rn o d zX6_hearsFirst 14 [a0, a1] [.int x] w r = ((some (.int x), w) = r) := rn_R dX6_hearsFirst_14 (by simp [ai_R, h, show zX6_hearsFirst.2.2.2 = some .boolean from rfl])
theorem e_X6_hearsFirst_15 : Rn o d zX6_hearsFirst 15 [.ref i, a1] (st) w r = Rn o d zX6_hearsFirst 16 [.ref i, a1] (.ref i :: st) w r := rn_A (len := 1) dX6_hearsFirst_15 rfl
theorem e_X6_hearsFirst_16 (hb : ai_T i) : Rn o d zX6_hearsFirst 16 [a0, a1] (.ref i :: st) (ai_w m lg) r = Rn o d zX6_hearsFirst 19 [a0, a1] (.int (m i 8) :: st) (ai_w m lg) r := rg_getI dX6_hearsFirst_16 fl_RX6_37 rfl hb.1
theorem e_X6_hearsFirst_19 : Rn o d zX6_hearsFirst 19 [a0, a1] (st) w r = Rn o d zX6_hearsFirst 21 [a0, a1] (.int (nI 84) :: st) w r := rn_int (len := 2) dX6_hearsFirst_19 rfl (by decide)
theorem e_X6_hearsFirst_21 : Rn o d zX6_hearsFirst 21 [a0, a1] (.int y :: .int x :: st) w r = if ¬ x = y then Rn o d zX6_hearsFirst 52 [a0, a1] st w r else Rn o d zX6_hearsFirst 24 [a0, a1] st w r := rn_br (off := 31) dX6_hearsFirst_21 rfl (by decide)
theorem e_X6_hearsFirst_24 : Rn o d zX6_hearsFirst 24 [.ref i, a1] (st) w r = Rn o d zX6_hearsFirst 25 [.ref i, a1] (.ref i :: st) w r := rn_A (len := 1) dX6_hearsFirst_24 rfl
theorem e_X6_hearsFirst_25 (hb : ai_T i) : Rn o d zX6_hearsFirst 25 [a0, a1] (.ref i :: st) (ai_w m lg) r = Rn o d zX6_hearsFirst 28 [a0, a1] (.ref (i + 1) :: st) (ai_w m lg) r := rg_getR dX6_hearsFirst_25 fl_RX6_9 rfl hb.1 (ai_Tr0 hb)
theorem e_X6_hearsFirst_28 : Rn o d zX6_hearsFirst 28 [.ref i, a1] (st) w r = Rn o d zX6_hearsFirst 29 [.ref i, a1] (.ref i :: st) w r := rn_A (len := 1) dX6_hearsFirst_28 rfl
theorem e_X6_hearsFirst_29 (hb : ai_T i) : Rn o d zX6_hearsFirst 29 [a0, a1] (.ref i :: st) (ai_w m lg) r = Rn o d zX6_hearsFirst 32 [a0, a1] (.int (m i 5) :: st) (ai_w m lg) r := rg_getI dX6_hearsFirst_29 fl_RX6_27 rfl hb.1
theorem e_X6_hearsFirst_32 : Rn o d zX6_hearsFirst 32 [a0, .int x] (st) w r = Rn o d zX6_hearsFirst 33 [a0, .int x] (.int x :: st) w r := rn_A (len := 1) dX6_hearsFirst_32 rfl
theorem e_X6_hearsFirst_33 (hk : ai_a0 i = true) (hj : j < ai_len i) : Rn o d zX6_hearsFirst 33 [a0, a1] (.int x :: .int (nI j) :: .ref i :: st) (ai_w m lg) r = Rn o d zX6_hearsFirst 34 [a0, a1] (st) (ai_w (ai_up m i j x) lg) r := rf_ast0 dX6_hearsFirst_33 hk hj
theorem e_X6_hearsFirst_34 : Rn o d zX6_hearsFirst 34 [.ref i, a1] (st) w r = Rn o d zX6_hearsFirst 35 [.ref i, a1] (.ref i :: st) w r := rn_A (len := 1) dX6_hearsFirst_34 rfl
theorem e_X6_hearsFirst_35 : Rn o d zX6_hearsFirst 35 [a0, a1] (.ref i :: st) w r = Rn o d zX6_hearsFirst 36 [a0, a1] (.ref i :: .ref i :: st) w r := rn_A (len := 1) dX6_hearsFirst_35 rfl
theorem e_X6_hearsFirst_36 (hb : ai_T i) : Rn o d zX6_hearsFirst 36 [a0, a1] (.ref i :: st) (ai_w m lg) r = Rn o d zX6_hearsFirst 39 [a0, a1] (.int (m i 5) :: st) (ai_w m lg) r := rg_getI dX6_hearsFirst_36 fl_RX6_27 rfl hb.1
theorem e_X6_hearsFirst_39 : Rn o d zX6_hearsFirst 39 [a0, a1] (st) w r = Rn o d zX6_hearsFirst 40 [a0, a1] (.int (nI 1) :: st) w r := rn_int (len := 1) dX6_hearsFirst_39 rfl (by decide)
theorem e_X6_hearsFirst_40 : Rn o d zX6_hearsFirst 40 [a0, a1] (.int y :: .int x :: st) w r = Rn o d zX6_hearsFirst 41 [a0, a1] (.int (x + y) :: st) w r := rn_A (len := 1) dX6_hearsFirst_40 rfl
theorem e_X6_hearsFirst_41 (hb : ai_T i) : Rn o d zX6_hearsFirst 41 [a0, a1] (.int x :: .ref i :: st) (ai_w m lg) r = Rn o d zX6_hearsFirst 44 [a0, a1] (st) (ai_w (ai_up m i 5 x) lg) r := rg_putI dX6_hearsFirst_41 fl_RX6_27 rfl (by decide +kernel) hb.1
theorem e_X6_hearsFirst_44 : Rn o d zX6_hearsFirst 44 [.ref i, a1] (st) w r = Rn o d zX6_hearsFirst 45 [.ref i, a1] (.ref i :: st) w r := rn_A (len := 1) dX6_hearsFirst_44 rfl
theorem e_X6_hearsFirst_45 : Rn o d zX6_hearsFirst 45 [a0, a1] (st) w r = Rn o d zX6_hearsFirst 46 [a0, a1] (.int (nI 1) :: st) w r := rn_int (len := 1) dX6_hearsFirst_45 rfl (by decide)
theorem e_X6_hearsFirst_46 (hb : ai_T i) : Rn o d zX6_hearsFirst 46 [a0, a1] (.int x :: .ref i :: st) (ai_w m lg) r = Rn o d zX6_hearsFirst 49 [a0, a1] (st) (ai_w (ai_up m i 8 x) lg) r := rg_putI dX6_hearsFirst_46 fl_RX6_37 rfl (by decide +kernel) hb.1
theorem e_X6_hearsFirst_49 : Rn o d zX6_hearsFirst 49 [a0, a1] (st) w r = Rn o d zX6_hearsFirst 57 [a0, a1] (st) w r := rn_goto dX6_hearsFirst_49 (by decide)
theorem e_X6_hearsFirst_52 : Rn o d zX6_hearsFirst 52 [.ref i, a1] (st) w r = Rn o d zX6_hearsFirst 53 [.ref i, a1] (.ref i :: st) w r := rn_A (len := 1) dX6_hearsFirst_52 rfl
theorem e_X6_hearsFirst_53 : Rn o d zX6_hearsFirst 53 [a0, .int x] (st) w r = Rn o d zX6_hearsFirst 54 [a0, .int x] (.int x :: st) w r := rn_A (len := 1) dX6_hearsFirst_53 rfl
theorem e_X6_hearsFirst_54 (hb : ai_T i) : Rn o d zX6_hearsFirst 54 [a0, a1] (.int x :: .ref i :: st) (ai_w m lg) r = Rn o d zX6_hearsFirst 57 [a0, a1] (st) (ai_w (ai_up m i 9 x) lg) r := rg_putI dX6_hearsFirst_54 fl_RX6_40 rfl (by decide +kernel) hb.1
theorem e_X6_hearsFirst_57 : Rn o d zX6_hearsFirst 57 [a0, a1] (st) w r = Rn o d zX6_hearsFirst 58 [a0, a1] (.int (nI 1) :: st) w r := rn_int (len := 1) dX6_hearsFirst_57 rfl (by decide)
theorem e_X6_hearsFirst_58 (h : narrow .boolean (.int x) = .int x) : Rn o d zX6_hearsFirst 58 [a0, a1] [.int x] w r = ((some (.int x), w) = r) := rn_R dX6_hearsFirst_58 (by simp [ai_R, h, show zX6_hearsFirst.2.2.2 = some .boolean from rfl])
theorem e_X6_hearsKind_0 : Rn o d zX6_hearsKind 0 [a0, .int x] (st) w r = Rn o d zX6_hearsKind 1 [a0, .int x] (.int x :: st) w r := rn_A (len := 1) dX6_hearsKind_0 rfl
theorem e_X6_hearsKind_1 : Rn o d zX6_hearsKind 1 [a0, a1] (st) w r = Rn o d zX6_hearsKind 2 [a0, a1] (.int (nI 3) :: st) w r := rn_int (len := 1) dX6_hearsKind_1 rfl (by decide)
theorem e_X6_hearsKind_2 : Rn o d zX6_hearsKind 2 [a0, a1] (.int y :: .int x :: st) w r = if x ≤ y then Rn o d zX6_hearsKind 7 [a0, a1] st w r else Rn o d zX6_hearsKind 5 [a0, a1] st w r := rn_br (off := 5) dX6_hearsKind_2 rfl (by decide)
theorem e_X6_hearsKind_5 : Rn o d zX6_hearsKind 5 [a0, a1] (st) w r = Rn o d zX6_hearsKind 6 [a0, a1] (.int (nI 0) :: st) w r := rn_int (len := 1) dX6_hearsKind_5 rfl (by decide)
theorem e_X6_hearsKind_6 (h : narrow .boolean (.int x) = .int x) : Rn o d zX6_hearsKind 6 [a0, a1] [.int x] w r = ((some (.int x), w) = r) := rn_R dX6_hearsKind_6 (by simp [ai_R, h, show zX6_hearsKind.2.2.2 = some .boolean from rfl])
theorem e_X6_hearsKind_7 : Rn o d zX6_hearsKind 7 [.ref i, a1] (st) w r = Rn o d zX6_hearsKind 8 [.ref i, a1] (.ref i :: st) w r := rn_A (len := 1) dX6_hearsKind_7 rfl
theorem e_X6_hearsKind_8 (hb : ai_T i) : Rn o d zX6_hearsKind 8 [a0, a1] (.ref i :: st) (ai_w m lg) r = Rn o d zX6_hearsKind 11 [a0, a1] (.int (m i 8) :: st) (ai_w m lg) r := rg_getI dX6_hearsKind_8 fl_RX6_37 rfl hb.1
theorem e_X6_hearsKind_11 : Rn o d zX6_hearsKind 11 [a0, a1] (st) w r = Rn o d zX6_hearsKind 13 [a0, a1] (.int (nI 66) :: st) w r := rn_int (len := 2) dX6_hearsKind_11 rfl (by decide)
theorem e_X6_hearsKind_13 : Rn o d zX6_hearsKind 13 [a0, a1] (.int y :: .int x :: st) w r = if ¬ x = y then Rn o d zX6_hearsKind 52 [a0, a1] st w r else Rn o d zX6_hearsKind 16 [a0, a1] st w r := rn_br (off := 39) dX6_hearsKind_13 rfl (by decide)
theorem e_X6_hearsKind_16 : Rn o d zX6_hearsKind 16 [.ref i, a1] (st) w r = Rn o d zX6_hearsKind 17 [.ref i, a1] (.ref i :: st) w r := rn_A (len := 1) dX6_hearsKind_16 rfl
theorem e_X6_hearsKind_17 (hb : ai_T i) : Rn o d zX6_hearsKind 17 [a0, a1] (.ref i :: st) (ai_w m lg) r = Rn o d zX6_hearsKind 20 [a0, a1] (.ref (i + 2) :: st) (ai_w m lg) r := rg_getR dX6_hearsKind_17 fl_RX6_15 rfl hb.1 (ai_Tr1 hb)
theorem e_X6_hearsKind_20 : Rn o d zX6_hearsKind 20 [.ref i, a1] (st) w r = Rn o d zX6_hearsKind 21 [.ref i, a1] (.ref i :: st) w r := rn_A (len := 1) dX6_hearsKind_20 rfl
theorem e_X6_hearsKind_21 (hb : ai_T i) : Rn o d zX6_hearsKind 21 [a0, a1] (.ref i :: st) (ai_w m lg) r = Rn o d zX6_hearsKind 24 [a0, a1] (.int (m i 6) :: st) (ai_w m lg) r := rg_getI dX6_hearsKind_21 fl_RX6_31 rfl hb.1
theorem e_X6_hearsKind_24 : Rn o d zX6_hearsKind 24 [.ref i, a1] (st) w r = Rn o d zX6_hearsKind 25 [.ref i, a1] (.ref i :: st) w r := rn_A (len := 1) dX6_hearsKind_24 rfl
theorem e_X6_hearsKind_25 (hb : ai_T i) : Rn o d zX6_hearsKind 25 [a0, a1] (.ref i :: st) (ai_w m lg) r = Rn o d zX6_hearsKind 28 [a0, a1] (.int (m i 9) :: st) (ai_w m lg) r := rg_getI dX6_hearsKind_25 fl_RX6_40 rfl hb.1
theorem e_X6_hearsKind_28 (hk : ai_a0 i = true) (hj : j < ai_len i) : Rn o d zX6_hearsKind 28 [a0, a1] (.int x :: .int (nI j) :: .ref i :: st) (ai_w m lg) r = Rn o d zX6_hearsKind 29 [a0, a1] (st) (ai_w (ai_up m i j x) lg) r := rf_ast0 dX6_hearsKind_28 hk hj
theorem e_X6_hearsKind_29 : Rn o d zX6_hearsKind 29 [.ref i, a1] (st) w r = Rn o d zX6_hearsKind 30 [.ref i, a1] (.ref i :: st) w r := rn_A (len := 1) dX6_hearsKind_29 rfl
theorem e_X6_hearsKind_30 (hb : ai_T i) : Rn o d zX6_hearsKind 30 [a0, a1] (.ref i :: st) (ai_w m lg) r = Rn o d zX6_hearsKind 33 [a0, a1] (.ref (i + 3) :: st) (ai_w m lg) r := rg_getR dX6_hearsKind_30 fl_RX6_18 rfl hb.1 (ai_Tr2 hb)
theorem e_X6_hearsKind_33 : Rn o d zX6_hearsKind 33 [.ref i, a1] (st) w r = Rn o d zX6_hearsKind 34 [.ref i, a1] (.ref i :: st) w r := rn_A (len := 1) dX6_hearsKind_33 rfl
theorem e_X6_hearsKind_34 (hb : ai_T i) : Rn o d zX6_hearsKind 34 [a0, a1] (.ref i :: st) (ai_w m lg) r = Rn o d zX6_hearsKind 37 [a0, a1] (.int (m i 6) :: st) (ai_w m lg) r := rg_getI dX6_hearsKind_34 fl_RX6_31 rfl hb.1
theorem e_X6_hearsKind_37 : Rn o d zX6_hearsKind 37 [a0, .int x] (st) w r = Rn o d zX6_hearsKind 38 [a0, .int x] (.int x :: st) w r := rn_A (len := 1) dX6_hearsKind_37 rfl
theorem e_X6_hearsKind_38 (hk : ai_a0 i = true) (hj : j < ai_len i) : Rn o d zX6_hearsKind 38 [a0, a1] (.int x :: .int (nI j) :: .ref i :: st) (ai_w m lg) r = Rn o d zX6_hearsKind 39 [a0, a1] (st) (ai_w (ai_up m i j x) lg) r := rf_ast0 dX6_hearsKind_38 hk hj
theorem e_X6_hearsKind_39 : Rn o d zX6_hearsKind 39 [.ref i, a1] (st) w r = Rn o d zX6_hearsKind 40 [.ref i, a1] (.ref i :: st) w r := rn_A (len := 1) dX6_hearsKind_39 rfl
theorem e_X6_hearsKind_40 : Rn o d zX6_hearsKind 40 [a0, a1] (.ref i :: st) w r = Rn o d zX6_hearsKind 41 [a0, a1] (.ref i :: .ref i :: st) w r := rn_A (len := 1) dX6_hearsKind_40 rfl
theorem e_X6_hearsKind_41 (hb : ai_T i) : Rn o d zX6_hearsKind 41 [a0, a1] (.ref i :: st) (ai_w m lg) r = Rn o d zX6_hearsKind 44 [a0, a1] (.int (m i 6) :: st) (ai_w m lg) r := rg_getI dX6_hearsKind_41 fl_RX6_31 rfl hb.1
theorem e_X6_hearsKind_44 : Rn o d zX6_hearsKind 44 [a0, a1] (st) w r = Rn o d zX6_hearsKind 45 [a0, a1] (.int (nI 1) :: st) w r := rn_int (len := 1) dX6_hearsKind_44 rfl (by decide)
theorem e_X6_hearsKind_45 : Rn o d zX6_hearsKind 45 [a0, a1] (.int y :: .int x :: st) w r = Rn o d zX6_hearsKind 46 [a0, a1] (.int (x + y) :: st) w r := rn_A (len := 1) dX6_hearsKind_45 rfl
theorem e_X6_hearsKind_46 (hb : ai_T i) : Rn o d zX6_hearsKind 46 [a0, a1] (.int x :: .ref i :: st) (ai_w m lg) r = Rn o d zX6_hearsKind 49 [a0, a1] (st) (ai_w (ai_up m i 6 x) lg) r := rg_putI dX6_hearsKind_46 fl_RX6_31 rfl (by decide +kernel) hb.1
theorem e_X6_hearsKind_49 : Rn o d zX6_hearsKind 49 [a0, a1] (st) w r = Rn o d zX6_hearsKind 85 [a0, a1] (st) w r := rn_goto dX6_hearsKind_49 (by decide)
theorem e_X6_hearsKind_52 : Rn o d zX6_hearsKind 52 [.ref i, a1] (st) w r = Rn o d zX6_hearsKind 53 [.ref i, a1] (.ref i :: st) w r := rn_A (len := 1) dX6_hearsKind_52 rfl
theorem e_X6_hearsKind_53 (hb : ai_T i) : Rn o d zX6_hearsKind 53 [a0, a1] (.ref i :: st) (ai_w m lg) r = Rn o d zX6_hearsKind 56 [a0, a1] (.ref (i + 4) :: st) (ai_w m lg) r := rg_getR dX6_hearsKind_53 fl_RX6_21 rfl hb.1 (ai_Tr3 hb)
theorem e_X6_hearsKind_56 : Rn o d zX6_hearsKind 56 [.ref i, a1] (st) w r = Rn o d zX6_hearsKind 57 [.ref i, a1] (.ref i :: st) w r := rn_A (len := 1) dX6_hearsKind_56 rfl
theorem e_X6_hearsKind_57 (hb : ai_T i) : Rn o d zX6_hearsKind 57 [a0, a1] (.ref i :: st) (ai_w m lg) r = Rn o d zX6_hearsKind 60 [a0, a1] (.int (m i 7) :: st) (ai_w m lg) r := rg_getI dX6_hearsKind_57 fl_RX6_34 rfl hb.1
theorem e_X6_hearsKind_60 : Rn o d zX6_hearsKind 60 [.ref i, a1] (st) w r = Rn o d zX6_hearsKind 61 [.ref i, a1] (.ref i :: st) w r := rn_A (len := 1) dX6_hearsKind_60 rfl
theorem e_X6_hearsKind_61 (hb : ai_T i) : Rn o d zX6_hearsKind 61 [a0, a1] (.ref i :: st) (ai_w m lg) r = Rn o d zX6_hearsKind 64 [a0, a1] (.int (m i 9) :: st) (ai_w m lg) r := rg_getI dX6_hearsKind_61 fl_RX6_40 rfl hb.1
theorem e_X6_hearsKind_64 (hk : ai_a0 i = true) (hj : j < ai_len i) : Rn o d zX6_hearsKind 64 [a0, a1] (.int x :: .int (nI j) :: .ref i :: st) (ai_w m lg) r = Rn o d zX6_hearsKind 65 [a0, a1] (st) (ai_w (ai_up m i j x) lg) r := rf_ast0 dX6_hearsKind_64 hk hj
theorem e_X6_hearsKind_65 : Rn o d zX6_hearsKind 65 [.ref i, a1] (st) w r = Rn o d zX6_hearsKind 66 [.ref i, a1] (.ref i :: st) w r := rn_A (len := 1) dX6_hearsKind_65 rfl
theorem e_X6_hearsKind_66 (hb : ai_T i) : Rn o d zX6_hearsKind 66 [a0, a1] (.ref i :: st) (ai_w m lg) r = Rn o d zX6_hearsKind 69 [a0, a1] (.ref (i + 5) :: st) (ai_w m lg) r := rg_getR dX6_hearsKind_66 fl_RX6_24 rfl hb.1 (ai_Tr4 hb)
theorem e_X6_hearsKind_69 : Rn o d zX6_hearsKind 69 [.ref i, a1] (st) w r = Rn o d zX6_hearsKind 70 [.ref i, a1] (.ref i :: st) w r := rn_A (len := 1) dX6_hearsKind_69 rfl
theorem e_X6_hearsKind_70 (hb : ai_T i) : Rn o d zX6_hearsKind 70 [a0, a1] (.ref i :: st) (ai_w m lg) r = Rn o d zX6_hearsKind 73 [a0, a1] (.int (m i 7) :: st) (ai_w m lg) r := rg_getI dX6_hearsKind_70 fl_RX6_34 rfl hb.1
theorem e_X6_hearsKind_73 : Rn o d zX6_hearsKind 73 [a0, .int x] (st) w r = Rn o d zX6_hearsKind 74 [a0, .int x] (.int x :: st) w r := rn_A (len := 1) dX6_hearsKind_73 rfl
theorem e_X6_hearsKind_74 (hk : ai_a0 i = true) (hj : j < ai_len i) : Rn o d zX6_hearsKind 74 [a0, a1] (.int x :: .int (nI j) :: .ref i :: st) (ai_w m lg) r = Rn o d zX6_hearsKind 75 [a0, a1] (st) (ai_w (ai_up m i j x) lg) r := rf_ast0 dX6_hearsKind_74 hk hj
theorem e_X6_hearsKind_75 : Rn o d zX6_hearsKind 75 [.ref i, a1] (st) w r = Rn o d zX6_hearsKind 76 [.ref i, a1] (.ref i :: st) w r := rn_A (len := 1) dX6_hearsKind_75 rfl
theorem e_X6_hearsKind_76 : Rn o d zX6_hearsKind 76 [a0, a1] (.ref i :: st) w r = Rn o d zX6_hearsKind 77 [a0, a1] (.ref i :: .ref i :: st) w r := rn_A (len := 1) dX6_hearsKind_76 rfl
theorem e_X6_hearsKind_77 (hb : ai_T i) : Rn o d zX6_hearsKind 77 [a0, a1] (.ref i :: st) (ai_w m lg) r = Rn o d zX6_hearsKind 80 [a0, a1] (.int (m i 7) :: st) (ai_w m lg) r := rg_getI dX6_hearsKind_77 fl_RX6_34 rfl hb.1
theorem e_X6_hearsKind_80 : Rn o d zX6_hearsKind 80 [a0, a1] (st) w r = Rn o d zX6_hearsKind 81 [a0, a1] (.int (nI 1) :: st) w r := rn_int (len := 1) dX6_hearsKind_80 rfl (by decide)
theorem e_X6_hearsKind_81 : Rn o d zX6_hearsKind 81 [a0, a1] (.int y :: .int x :: st) w r = Rn o d zX6_hearsKind 82 [a0, a1] (.int (x + y) :: st) w r := rn_A (len := 1) dX6_hearsKind_81 rfl
theorem e_X6_hearsKind_82 (hb : ai_T i) : Rn o d zX6_hearsKind 82 [a0, a1] (.int x :: .ref i :: st) (ai_w m lg) r = Rn o d zX6_hearsKind 85 [a0, a1] (st) (ai_w (ai_up m i 7 x) lg) r := rg_putI dX6_hearsKind_82 fl_RX6_34 rfl (by decide +kernel) hb.1
theorem e_X6_hearsKind_85 : Rn o d zX6_hearsKind 85 [.ref i, a1] (st) w r = Rn o d zX6_hearsKind 86 [.ref i, a1] (.ref i :: st) w r := rn_A (len := 1) dX6_hearsKind_85 rfl
theorem e_X6_hearsKind_86 : Rn o d zX6_hearsKind 86 [a0, a1] (st) w r = Rn o d zX6_hearsKind 87 [a0, a1] (.int (nI 1) :: st) w r := rn_int (len := 1) dX6_hearsKind_86 rfl (by decide)
theorem e_X6_hearsKind_87 (hb : ai_T i) : Rn o d zX6_hearsKind 87 [a0, a1] (.int x :: .ref i :: st) (ai_w m lg) r = Rn o d zX6_hearsKind 90 [a0, a1] (st) (ai_w (ai_up m i 8 x) lg) r := rg_putI dX6_hearsKind_87 fl_RX6_37 rfl (by decide +kernel) hb.1
theorem e_X6_hearsKind_90 : Rn o d zX6_hearsKind 90 [a0, a1] (st) w r = Rn o d zX6_hearsKind 91 [a0, a1] (.int (nI 1) :: st) w r := rn_int (len := 1) dX6_hearsKind_90 rfl (by decide)
theorem e_X6_hearsKind_91 (h : narrow .boolean (.int x) = .int x) : Rn o d zX6_hearsKind 91 [a0, a1] [.int x] w r = ((some (.int x), w) = r) := rn_R dX6_hearsKind_91 (by simp [ai_R, h, show zX6_hearsKind.2.2.2 = some .boolean from rfl])
end EQT0
