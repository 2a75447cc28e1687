section HDS
variable {o : ai_S} {d : Nat} {st : List Value} {w : ai_W} {r : Option Value × ai_W} {x y : Int32} {xl yl : Int64} {i j k n sl : Nat} {κ : Nat → Nat × Nat} {rf : Nat → Nat → Option Nat} {m : Nat → Nat → Int32} {lg : Nat → Nat → Int64} {a0 a1 a2 a3 a4 a5 a6 a7 a8 a9 a10 a11 a12 : Value}
def zJ6_bitCount_0f7a4 : ai_Mi := (yJ6_bitCount_0f7a4, cJ6_bitCount_0f7a4, 1, (some .int))
theorem ev_J6_bitCount_0f7a4 {s0 : Int32} {v : Option Value} {w' : ai_W} : Ev o d zJ6_bitCount_0f7a4 [.int s0] w v w' = Rn o d zJ6_bitCount_0f7a4 0 [.int s0] [] w (v, w') := rfl
def zJ9_floorMod_7cf53 : ai_Mi := (yJ9_floorMod_7cf53, cJ9_floorMod_7cf53, 3, (some .int))
theorem ev_J9_floorMod_7cf53 {s0 : Int32} {s1 : Int32} {v : Option Value} {w' : ai_W} : Ev o d zJ9_floorMod_7cf53 [.int s0, .int s1] w v w' = Rn o d zJ9_floorMod_7cf53 0 [.int s0, .int s1, .null] [] w (v, w') := rfl
def zX6_beginAnew : ai_Mi := (yX6_beginAnew, cX6_beginAnew, 1, none)
theorem ev_X6_beginAnew  {v : Option Value} {w' : ai_W} : Ev o d zX6_beginAnew [.ref i] w v w' = Rn o d zX6_beginAnew 0 [.ref i] [] w (v, w') := rfl
def zX6_mayEnd : ai_Mi := (yX6_mayEnd, cX6_mayEnd, 1, (some .boolean))
theorem ev_X6_mayEnd  {v : Option Value} {w' : ai_W} : Ev o d zX6_mayEnd [.ref i] w v w' = Rn o d zX6_mayEnd 0 [.ref i] [] w (v, w') := rfl
def zX6_hasBerth : ai_Mi := (yX6_hasBerth, cX6_hasBerth, 2, (some .boolean))
theorem ev_X6_hasBerth {s0 : Int32} {v : Option Value} {w' : ai_W} : Ev o d zX6_hasBerth [.ref i, .int s0] w v w' = Rn o d zX6_hasBerth 0 [.ref i, .int s0] [] w (v, w') := rfl
def zX6_hasDream : ai_Mi := (yX6_hasDream, cX6_hasDream, 2, (some .boolean))
theorem ev_X6_hasDream {s0 : Int32} {v : Option Value} {w' : ai_W} : Ev o d zX6_hasDream [.ref i, .int s0] w v w' = Rn o d zX6_hasDream 0 [.ref i, .int s0] [] w (v, w') := rfl
def zX6_tideOn : ai_Mi := (yX6_tideOn, cX6_tideOn, 2, (some .int))
theorem ev_X6_tideOn {s0 : Int32} {v : Option Value} {w' : ai_W} : Ev o d zX6_tideOn [.ref i, .int s0] w v w' = Rn o d zX6_tideOn 0 [.ref i, .int s0] [] w (v, w') := rfl
def zX6_hears : ai_Mi := (yX6_hears, cX6_hears, 2, (some .boolean))
theorem ev_X6_hears {s0 : Int32} {v : Option Value} {w' : ai_W} : Ev o d zX6_hears [.ref i, .int s0] w v w' = Rn o d zX6_hears 0 [.ref i, .int s0] [] w (v, w') := rfl
def zX6_hasRoomFor : ai_Mi := (yX6_hasRoomFor, cX6_hasRoomFor, 2, (some .boolean))
theorem ev_X6_hasRoomFor {s0 : Int32} {v : Option Value} {w' : ai_W} : Ev o d zX6_hasRoomFor [.ref i, .int s0] w v w' = Rn o d zX6_hasRoomFor 0 [.ref i, .int s0] [] w (v, w') := rfl
def zX6_hearsFirst : ai_Mi := (yX6_hearsFirst, cX6_hearsFirst, 2, (some .boolean))
theorem ev_X6_hearsFirst {s0 : Int32} {v : Option Value} {w' : ai_W} : Ev o d zX6_hearsFirst [.ref i, .int s0] w v w' = Rn o d zX6_hearsFirst 0 [.ref i, .int s0] [] w (v, w') := rfl
def zX6_hearsKind : ai_Mi := (yX6_hearsKind, cX6_hearsKind, 2, (some .boolean))
theorem ev_X6_hearsKind {s0 : Int32} {v : Option Value} {w' : ai_W} : Ev o d zX6_hearsKind [.ref i, .int s0] w v w' = Rn o d zX6_hearsKind 0 [.ref i, .int s0] [] w (v, w') := rfl
def zX2_begin : ai_Mi := (yX2_begin, cX2_begin, 2, none)
theorem ev_X2_begin  {v : Option Value} {w' : ai_W} : Ev o d zX2_begin [.ref i] w v w' = Rn o d zX2_begin 0 [.ref i, .null] [] w (v, w') := rfl
def zX2_becomes : ai_Mi := (yX2_becomes, cX2_becomes, 2, none)
theorem ev_X2_becomes {s0 : Nat} {v : Option Value} {w' : ai_W} : Ev o d zX2_becomes [.ref i, .ref s0] w v w' = Rn o d zX2_becomes 0 [.ref i, .ref s0] [] w (v, w') := rfl
def zX2_tide : ai_Mi := (yX2_tide, cX2_tide, 1, (some .int))
theorem ev_X2_tide  {v : Option Value} {w' : ai_W} : Ev o d zX2_tide [.ref i] w v w' = Rn o d zX2_tide 0 [.ref i] [] w (v, w') := rfl
def zX2_water : ai_Mi := (yX2_water, cX2_water, 2, (some .int))
theorem ev_X2_water {s0 : Int32} {v : Option Value} {w' : ai_W} : Ev o d zX2_water [.ref i, .int s0] w v w' = Rn o d zX2_water 0 [.ref i, .int s0] [] w (v, w') := rfl
def zX2_liesOff : ai_Mi := (yX2_liesOff, cX2_liesOff, 2, (some .boolean))
theorem ev_X2_liesOff {s0 : Int32} {v : Option Value} {w' : ai_W} : Ev o d zX2_liesOff [.ref i, .int s0] w v w' = Rn o d zX2_liesOff 0 [.ref i, .int s0] [] w (v, w') := rfl
def zX2_isBerthed : ai_Mi := (yX2_isBerthed, cX2_isBerthed, 2, (some .boolean))
theorem ev_X2_isBerthed {s0 : Int32} {v : Option Value} {w' : ai_W} : Ev o d zX2_isBerthed [.ref i, .int s0] w v w' = Rn o d zX2_isBerthed 0 [.ref i, .int s0] [] w (v, w') := rfl
def zX2_dreamsAt : ai_Mi := (yX2_dreamsAt, cX2_dreamsAt, 4, (some .int))
theorem ev_X2_dreamsAt {s0 : Int32} {v : Option Value} {w' : ai_W} : Ev o d zX2_dreamsAt [.ref i, .int s0] w v w' = Rn o d zX2_dreamsAt 0 [.ref i, .int s0, .null, .null] [] w (v, w') := rfl
def zX2_countAt : ai_Mi := (yX2_countAt, cX2_countAt, 2, (some .int))
theorem ev_X2_countAt {s0 : Int32} {v : Option Value} {w' : ai_W} : Ev o d zX2_countAt [.ref i, .int s0] w v w' = Rn o d zX2_countAt 0 [.ref i, .int s0] [] w (v, w') := rfl
def zX2_dreamsBerthed : ai_Mi := (yX2_dreamsBerthed, cX2_dreamsBerthed, 3, (some .int))
theorem ev_X2_dreamsBerthed  {v : Option Value} {w' : ai_W} : Ev o d zX2_dreamsBerthed [.ref i] w v w' = Rn o d zX2_dreamsBerthed 0 [.ref i, .null, .null] [] w (v, w') := rfl
def zX2_wokeInAll : ai_Mi := (yX2_wokeInAll, cX2_wokeInAll, 3, (some .int))
theorem ev_X2_wokeInAll  {v : Option Value} {w' : ai_W} : Ev o d zX2_wokeInAll [.ref i] w v w' = Rn o d zX2_wokeInAll 0 [.ref i, .null, .null] [] w (v, w') := rfl
def zX2_roomIn : ai_Mi := (yX2_roomIn, cX2_roomIn, 4, (some .int))
theorem ev_X2_roomIn {s0 : Int32} {v : Option Value} {w' : ai_W} : Ev o d zX2_roomIn [.ref i, .int s0] w v w' = Rn o d zX2_roomIn 0 [.ref i, .int s0, .null, .null] [] w (v, w') := rfl
def zX2_suits : ai_Mi := (yX2_suits, cX2_suits, 3, (some .boolean))
theorem ev_X2_suits {s0 : Int32} {s1 : Int32} {v : Option Value} {w' : ai_W} : Ev o d zX2_suits [.ref i, .int s0, .int s1] w v w' = Rn o d zX2_suits 0 [.ref i, .int s0, .int s1] [] w (v, w') := rfl
def zX2_canBe : ai_Mi := (yX2_canBe, cX2_canBe, 3, (some .boolean))
theorem ev_X2_canBe {s0 : Int32} {s1 : Int32} {v : Option Value} {w' : ai_W} : Ev o d zX2_canBe [.ref i, .int s0, .int s1] w v w' = Rn o d zX2_canBe 0 [.ref i, .int s0, .int s1] [] w (v, w') := rfl
def zX2_berthsOpenTo : ai_Mi := (yX2_berthsOpenTo, cX2_berthsOpenTo, 4, (some .int))
theorem ev_X2_berthsOpenTo {s0 : Int32} {v : Option Value} {w' : ai_W} : Ev o d zX2_berthsOpenTo [.ref i, .int s0] w v w' = Rn o d zX2_berthsOpenTo 0 [.ref i, .int s0, .null, .null] [] w (v, w') := rfl
def zX2_berthsFitFor : ai_Mi := (yX2_berthsFitFor, cX2_berthsFitFor, 4, (some .int))
theorem ev_X2_berthsFitFor {s0 : Int32} {v : Option Value} {w' : ai_W} : Ev o d zX2_berthsFitFor [.ref i, .int s0] w v w' = Rn o d zX2_berthsFitFor 0 [.ref i, .int s0, .null, .null] [] w (v, w') := rfl
def zX2_canMoor : ai_Mi := (yX2_canMoor, cX2_canMoor, 3, (some .boolean))
theorem ev_X2_canMoor {s0 : Int32} {s1 : Int32} {v : Option Value} {w' : ai_W} : Ev o d zX2_canMoor [.ref i, .int s0, .int s1] w v w' = Rn o d zX2_canMoor 0 [.ref i, .int s0, .int s1] [] w (v, w') := rfl
def zX2_canTow : ai_Mi := (yX2_canTow, cX2_canTow, 2, (some .boolean))
theorem ev_X2_canTow {s0 : Int32} {v : Option Value} {w' : ai_W} : Ev o d zX2_canTow [.ref i, .int s0] w v w' = Rn o d zX2_canTow 0 [.ref i, .int s0] [] w (v, w') := rfl
def zX2_towOut : ai_Mi := (yX2_towOut, cX2_towOut, 2, none)
theorem ev_X2_towOut {s0 : Int32} {v : Option Value} {w' : ai_W} : Ev o d zX2_towOut [.ref i, .int s0] w v w' = Rn o d zX2_towOut 0 [.ref i, .int s0] [] w (v, w') := rfl
def zX2_dreamtIn : ai_Mi := (yX2_dreamtIn, cX2_dreamtIn, 6, (some .int))
theorem ev_X2_dreamtIn {s0 : Int32} {s1 : Int32} {v : Option Value} {w' : ai_W} : Ev o d zX2_dreamtIn [.ref i, .int s0, .int s1] w v w' = Rn o d zX2_dreamtIn 0 [.ref i, .int s0, .int s1, .null, .null, .null] [] w (v, w') := rfl
def zX2_spoilt : ai_Mi := (yX2_spoilt, cX2_spoilt, 3, (some .int))
theorem ev_X2_spoilt {s0 : Int32} {s1 : Int32} {v : Option Value} {w' : ai_W} : Ev o d zX2_spoilt [.ref i, .int s0, .int s1] w v w' = Rn o d zX2_spoilt 0 [.ref i, .int s0, .int s1] [] w (v, w') := rfl
def zX2_dreamtIfFailed : ai_Mi := (yX2_dreamtIfFailed, cX2_dreamtIfFailed, 5, (some .int))
theorem ev_X2_dreamtIfFailed {s0 : Int32} {v : Option Value} {w' : ai_W} : Ev o d zX2_dreamtIfFailed [.ref i, .int s0] w v w' = Rn o d zX2_dreamtIfFailed 0 [.ref i, .int s0, .null, .null, .null] [] w (v, w') := rfl
def zX2_passNight : ai_Mi := (yX2_passNight, cX2_passNight, 5, (some .int))
theorem ev_X2_passNight  {v : Option Value} {w' : ai_W} : Ev o d zX2_passNight [.ref i] w v w' = Rn o d zX2_passNight 0 [.ref i, .null, .null, .null, .null] [] w (v, w') := rfl
def zX2_sleepIn : ai_Mi := (yX2_sleepIn, cX2_sleepIn, 4, none)
theorem ev_X2_sleepIn {s0 : Int32} {s1 : Int32} {v : Option Value} {w' : ai_W} : Ev o d zX2_sleepIn [.ref i, .int s0, .int s1] w v w' = Rn o d zX2_sleepIn 0 [.ref i, .int s0, .int s1, .null] [] w (v, w') := rfl
def zX2_lieOffLonger : ai_Mi := (yX2_lieOffLonger, cX2_lieOffLonger, 2, none)
theorem ev_X2_lieOffLonger  {v : Option Value} {w' : ai_W} : Ev o d zX2_lieOffLonger [.ref i] w v w' = Rn o d zX2_lieOffLonger 0 [.ref i, .null] [] w (v, w') := rfl
def zX2_bringNightmares : ai_Mi := (yX2_bringNightmares, cX2_bringNightmares, 2, none)
theorem ev_X2_bringNightmares  {v : Option Value} {w' : ai_W} : Ev o d zX2_bringNightmares [.ref i] w v w' = Rn o d zX2_bringNightmares 0 [.ref i, .null] [] w (v, w') := rfl
def zX2_moorInLeast : ai_Mi := (yX2_moorInLeast, cX2_moorInLeast, 3, none)
theorem ev_X2_moorInLeast {s0 : Int32} {v : Option Value} {w' : ai_W} : Ev o d zX2_moorInLeast [.ref i, .int s0] w v w' = Rn o d zX2_moorInLeast 0 [.ref i, .int s0, .null] [] w (v, w') := rfl
def zX2_dredge : ai_Mi := (yX2_dredge, cX2_dredge, 2, none)
theorem ev_X2_dredge  {v : Option Value} {w' : ai_W} : Ev o d zX2_dredge [.ref i] w v w' = Rn o d zX2_dredge 0 [.ref i, .null] [] w (v, w') := rfl
def zX2_does : ai_Mi := (yX2_does, cX2_does, 4, (some .boolean))
theorem ev_X2_does {s0 : Int32} {v : Option Value} {w' : ai_W} : Ev o d zX2_does [.ref i, .int s0] w v w' = Rn o d zX2_does 0 [.ref i, .int s0, .null, .null] [] w (v, w') := rfl
def zX2_drift : ai_Mi := (yX2_drift, cX2_drift, 2, none)
theorem ev_X2_drift {s0 : Int32} {v : Option Value} {w' : ai_W} : Ev o d zX2_drift [.ref i, .int s0] w v w' = Rn o d zX2_drift 0 [.ref i, .int s0] [] w (v, w') := rfl
def zX2_moors : ai_Mi := (yX2_moors, cX2_moors, 3, (some .boolean))
theorem ev_X2_moors {s0 : Int32} {s1 : Int32} {v : Option Value} {w' : ai_W} : Ev o d zX2_moors [.ref i, .int s0, .int s1] w v w' = Rn o d zX2_moors 0 [.ref i, .int s0, .int s1] [] w (v, w') := rfl
def zX2_tows : ai_Mi := (yX2_tows, cX2_tows, 2, (some .boolean))
theorem ev_X2_tows {s0 : Int32} {v : Option Value} {w' : ai_W} : Ev o d zX2_tows [.ref i, .int s0] w v w' = Rn o d zX2_tows 0 [.ref i, .int s0] [] w (v, w') := rfl
def zX0_remember : ai_Mi := (yX0_remember, cX0_remember, 2, none)
theorem ev_X0_remember {s0 : Nat} {v : Option Value} {w' : ai_W} : Ev o d zX0_remember [.ref i, .ref s0] w v w' = Rn o d zX0_remember 0 [.ref i, .ref s0] [] w (v, w') := rfl
def zX0_takeBack : ai_Mi := (yX0_takeBack, cX0_takeBack, 2, none)
theorem ev_X0_takeBack {s0 : Nat} {v : Option Value} {w' : ai_W} : Ev o d zX0_takeBack [.ref i, .ref s0] w v w' = Rn o d zX0_takeBack 0 [.ref i, .ref s0] [] w (v, w') := rfl
def zX0_forget : ai_Mi := (yX0_forget, cX0_forget, 1, none)
theorem ev_X0_forget  {v : Option Value} {w' : ai_W} : Ev o d zX0_forget [.ref i] w v w' = Rn o d zX0_forget 0 [.ref i] [] w (v, w') := rfl
def zX1_isContent : ai_Mi := (yX1_isContent, cX1_isContent, 7, (some .boolean))
theorem ev_X1_isContent {s0 : Int32} {s1 : Int32} {s2 : Int32} {s3 : Int32} {v : Option Value} {w' : ai_W} : Ev o d zX1_isContent [.ref i, .int s0, .int s1, .int s2, .int s3] w v w' = Rn o d zX1_isContent 0 [.ref i, .int s0, .int s1, .int s2, .int s3, .null, .null] [] w (v, w') := rfl
def zX1_gain : ai_Mi := (yX1_gain, cX1_gain, 8, (some .int))
theorem ev_X1_gain {s0 : Int32} {s1 : Int32} {s2 : Int32} {s3 : Int32} {v : Option Value} {w' : ai_W} : Ev o d zX1_gain [.ref i, .int s0, .int s1, .int s2, .int s3] w v w' = Rn o d zX1_gain 0 [.ref i, .int s0, .int s1, .int s2, .int s3, .null, .null, .null] [] w (v, w') := rfl
def zX1_berthChosen : ai_Mi := (yX1_berthChosen, cX1_berthChosen, 3, (some .int))
theorem ev_X1_berthChosen {s0 : Int32} {s1 : Int32} {v : Option Value} {w' : ai_W} : Ev o d zX1_berthChosen [.ref i, .int s0, .int s1] w v w' = Rn o d zX1_berthChosen 0 [.ref i, .int s0, .int s1] [] w (v, w') := rfl
def zX3_search : ai_Mi := (yX3_search, cX3_search, 3, (some .int))
theorem ev_X3_search {s0 : Nat} {s1 : Int32} {v : Option Value} {w' : ai_W} : Ev o d zX3_search [.ref i, .ref s0, .int s1] w v w' = Rn o d zX3_search 0 [.ref i, .ref s0, .int s1] [] w (v, w') := rfl
def zX3_choose : ai_Mi := (yX3_choose, cX3_choose, 5, none)
theorem ev_X3_choose {s0 : Int32} {s1 : Int32} {s2 : Int32} {v : Option Value} {w' : ai_W} : Ev o d zX3_choose [.ref i, .int s0, .int s1, .int s2] w v w' = Rn o d zX3_choose 0 [.ref i, .int s0, .int s1, .int s2, .null] [] w (v, w') := rfl
def zX3_isWorthwhile : ai_Mi := (yX3_isWorthwhile, cX3_isWorthwhile, 3, (some .boolean))
theorem ev_X3_isWorthwhile {s0 : Int32} {s1 : Int32} {v : Option Value} {w' : ai_W} : Ev o d zX3_isWorthwhile [.ref i, .int s0, .int s1] w v w' = Rn o d zX3_isWorthwhile 0 [.ref i, .int s0, .int s1] [] w (v, w') := rfl
def zX3_weigh : ai_Mi := (yX3_weigh, cX3_weigh, 4, none)
theorem ev_X3_weigh {s0 : Int32} {v : Option Value} {w' : ai_W} : Ev o d zX3_weigh [.ref i, .int s0] w v w' = Rn o d zX3_weigh 0 [.ref i, .int s0, .null, .null] [] w (v, w') := rfl
def zX4_add : ai_Mi := (yX4_add, cX4_add, 4, (some .int))
theorem ev_X4_add {s0 : Int32} {s1 : Int32} {s2 : Int32} {v : Option Value} {w' : ai_W} : Ev o d zX4_add [.ref i, .int s0, .int s1, .int s2] w v w' = Rn o d zX4_add 0 [.ref i, .int s0, .int s1, .int s2] [] w (v, w') := rfl
def zX4_empty : ai_Mi := (yX4_empty, cX4_empty, 2, (some .int))
theorem ev_X4_empty  {v : Option Value} {w' : ai_W} : Ev o d zX4_empty [.ref i] w v w' = Rn o d zX4_empty 0 [.ref i, .null] [] w (v, w') := rfl
def zX4_agrees : ai_Mi := (yX4_agrees, cX4_agrees, 7, (some .boolean))
theorem ev_X4_agrees {s0 : Int32} {s1 : Int32} {s2 : Nat} {v : Option Value} {w' : ai_W} : Ev o d zX4_agrees [.ref i, .int s0, .int s1, .ref s2] w v w' = Rn o d zX4_agrees 0 [.ref i, .int s0, .int s1, .ref s2, .null, .null, .null] [] w (v, w') := rfl
def zX5_add : ai_Mi := (yX5_add, cX5_add, 2, (some .int))
theorem ev_X5_add {s0 : Int32} {v : Option Value} {w' : ai_W} : Ev o d zX5_add [.ref i, .int s0] w v w' = Rn o d zX5_add 0 [.ref i, .int s0] [] w (v, w') := rfl
def zX5_empty : ai_Mi := (yX5_empty, cX5_empty, 2, (some .int))
theorem ev_X5_empty  {v : Option Value} {w' : ai_W} : Ev o d zX5_empty [.ref i] w v w' = Rn o d zX5_empty 0 [.ref i, .null] [] w (v, w') := rfl
def zX5_tell : ai_Mi := (yX5_tell, cX5_tell, 3, (some .int))
theorem ev_X5_tell {s0 : Nat} {v : Option Value} {w' : ai_W} : Ev o d zX5_tell [.ref i, .ref s0] w v w' = Rn o d zX5_tell 0 [.ref i, .ref s0, .null] [] w (v, w') := rfl
def zX7_write : ai_Mi := (yX7_write, cX7_write, 2, (some .int))
theorem ev_X7_write {s0 : Int32} {v : Option Value} {w' : ai_W} : Ev o d zX7_write [.ref i, .int s0] w v w' = Rn o d zX7_write 0 [.ref i, .int s0] [] w (v, w') := rfl
def zX7_wipe : ai_Mi := (yX7_wipe, cX7_wipe, 1, (some .int))
theorem ev_X7_wipe  {v : Option Value} {w' : ai_W} : Ev o d zX7_wipe [.ref i] w v w' = Rn o d zX7_wipe 0 [.ref i] [] w (v, w') := rfl
def zX7_fault : ai_Mi := (yX7_fault, cX7_fault, 1, (some .int))
theorem ev_X7_fault  {v : Option Value} {w' : ai_W} : Ev o d zX7_fault [.ref i] w v w' = Rn o d zX7_fault 0 [.ref i] [] w (v, w') := rfl
def zX7_port : ai_Mi := (yX7_port, cX7_port, 2, (some .int))
theorem ev_X7_port  {v : Option Value} {w' : ai_W} : Ev o d zX7_port [.ref i] w v w' = Rn o d zX7_port 0 [.ref i, .null] [] w (v, w') := rfl
def zX7_about : ai_Mi := (yX7_about, cX7_about, 2, (some .int))
theorem ev_X7_about {s0 : Int32} {v : Option Value} {w' : ai_W} : Ev o d zX7_about [.ref i, .int s0] w v w' = Rn o d zX7_about 0 [.ref i, .int s0] [] w (v, w') := rfl
def zX7_berth : ai_Mi := (yX7_berth, cX7_berth, 3, (some .int))
theorem ev_X7_berth {s0 : Int32} {s1 : Int32} {v : Option Value} {w' : ai_W} : Ev o d zX7_berth [.ref i, .int s0, .int s1] w v w' = Rn o d zX7_berth 0 [.ref i, .int s0, .int s1] [] w (v, w') := rfl
def zX7_dream : ai_Mi := (yX7_dream, cX7_dream, 3, (some .int))
theorem ev_X7_dream {s0 : Int32} {s1 : Int32} {v : Option Value} {w' : ai_W} : Ev o d zX7_dream [.ref i, .int s0, .int s1] w v w' = Rn o d zX7_dream 0 [.ref i, .int s0, .int s1] [] w (v, w') := rfl
def zX7_night : ai_Mi := (yX7_night, cX7_night, 1, (some .int))
theorem ev_X7_night  {v : Option Value} {w' : ai_W} : Ev o d zX7_night [.ref i] w v w' = Rn o d zX7_night 0 [.ref i] [] w (v, w') := rfl
def zX7_moor : ai_Mi := (yX7_moor, cX7_moor, 3, (some .int))
theorem ev_X7_moor {s0 : Int32} {s1 : Int32} {v : Option Value} {w' : ai_W} : Ev o d zX7_moor [.ref i, .int s0, .int s1] w v w' = Rn o d zX7_moor 0 [.ref i, .int s0, .int s1] [] w (v, w') := rfl
def zX7_tow : ai_Mi := (yX7_tow, cX7_tow, 3, (some .int))
theorem ev_X7_tow {s0 : Int32} {v : Option Value} {w' : ai_W} : Ev o d zX7_tow [.ref i, .int s0] w v w' = Rn o d zX7_tow 0 [.ref i, .int s0, .null] [] w (v, w') := rfl
def zX7_undo : ai_Mi := (yX7_undo, cX7_undo, 1, (some .int))
theorem ev_X7_undo  {v : Option Value} {w' : ai_W} : Ev o d zX7_undo [.ref i] w v w' = Rn o d zX7_undo 0 [.ref i] [] w (v, w') := rfl
def zX7_later : ai_Mi := (yX7_later, cX7_later, 3, (some .int))
theorem ev_X7_later {s0 : Int32} {s1 : Int32} {v : Option Value} {w' : ai_W} : Ev o d zX7_later [.ref i, .int s0, .int s1] w v w' = Rn o d zX7_later 0 [.ref i, .int s0, .int s1] [] w (v, w') := rfl
def zX7_wakes : ai_Mi := (yX7_wakes, cX7_wakes, 3, (some .int))
theorem ev_X7_wakes {s0 : Int32} {s1 : Int32} {v : Option Value} {w' : ai_W} : Ev o d zX7_wakes [.ref i, .int s0, .int s1] w v w' = Rn o d zX7_wakes 0 [.ref i, .int s0, .int s1] [] w (v, w') := rfl
def zX7_fits : ai_Mi := (yX7_fits, cX7_fits, 3, (some .int))
theorem ev_X7_fits {s0 : Int32} {s1 : Int32} {v : Option Value} {w' : ai_W} : Ev o d zX7_fits [.ref i, .int s0, .int s1] w v w' = Rn o d zX7_fits 0 [.ref i, .int s0, .int s1] [] w (v, w') := rfl
def zX7_soonest : ai_Mi := (yX7_soonest, cX7_soonest, 3, (some .int))
theorem ev_X7_soonest {s0 : Int32} {v : Option Value} {w' : ai_W} : Ev o d zX7_soonest [.ref i, .int s0] w v w' = Rn o d zX7_soonest 0 [.ref i, .int s0, .null] [] w (v, w') := rfl
def zX7_plan : ai_Mi := (yX7_plan, cX7_plan, 2, (some .int))
theorem ev_X7_plan {s0 : Int32} {v : Option Value} {w' : ai_W} : Ev o d zX7_plan [.ref i, .int s0] w v w' = Rn o d zX7_plan 0 [.ref i, .int s0] [] w (v, w') := rfl
def zX7_judge : ai_Mi := (yX7_judge, cX7_judge, 5, (some .int))
theorem ev_X7_judge {s0 : Int32} {s1 : Int64} {v : Option Value} {w' : ai_W} : Ev o d zX7_judge [.ref i, .int s0, .long s1] w v w' = Rn o d zX7_judge 0 [.ref i, .int s0, .long s1, .null, .null] [] w (v, w') := rfl
def zX7_share : ai_Mi := (yX7_share, cX7_share, 7, (some .int))
theorem ev_X7_share {s0 : Int32} {s1 : Int32} {v : Option Value} {w' : ai_W} : Ev o d zX7_share [.ref i, .int s0, .int s1] w v w' = Rn o d zX7_share 0 [.ref i, .int s0, .int s1, .null, .null, .null, .null] [] w (v, w') := rfl
def zX7_sound : ai_Mi := (yX7_sound, cX7_sound, 4, (some .int))
theorem ev_X7_sound {s0 : Int32} {s1 : Int32} {s2 : Int32} {v : Option Value} {w' : ai_W} : Ev o d zX7_sound [.ref i, .int s0, .int s1, .int s2] w v w' = Rn o d zX7_sound 0 [.ref i, .int s0, .int s1, .int s2] [] w (v, w') := rfl
def zX7_unsound : ai_Mi := (yX7_unsound, cX7_unsound, 1, (some .int))
theorem ev_X7_unsound  {v : Option Value} {w' : ai_W} : Ev o d zX7_unsound [.ref i] w v w' = Rn o d zX7_unsound 0 [.ref i] [] w (v, w') := rfl
def zX7_depths : ai_Mi := (yX7_depths, cX7_depths, 6, (some .int))
theorem ev_X7_depths {s0 : Int32} {v : Option Value} {w' : ai_W} : Ev o d zX7_depths [.ref i, .int s0] w v w' = Rn o d zX7_depths 0 [.ref i, .int s0, .null, .null, .null, .null] [] w (v, w') := rfl
def zX7_rests : ai_Mi := (yX7_rests, cX7_rests, 8, (some .int))
theorem ev_X7_rests {s0 : Int32} {s1 : Int32} {s2 : Int32} {v : Option Value} {w' : ai_W} : Ev o d zX7_rests [.ref i, .int s0, .int s1, .int s2] w v w' = Rn o d zX7_rests 0 [.ref i, .int s0, .int s1, .int s2, .null, .null, .null, .null] [] w (v, w') := rfl
def zX7_ebb : ai_Mi := (yX7_ebb, cX7_ebb, 7, (some .int))
theorem ev_X7_ebb {s0 : Int32} {s1 : Int32} {s2 : Int32} {v : Option Value} {w' : ai_W} : Ev o d zX7_ebb [.ref i, .int s0, .int s1, .int s2] w v w' = Rn o d zX7_ebb 0 [.ref i, .int s0, .int s1, .int s2, .null, .null, .null] [] w (v, w') := rfl
def zX7_seed : ai_Mi := (yX7_seed, cX7_seed, 5, (some .long))
theorem ev_X7_seed {s0 : Int64} {v : Option Value} {w' : ai_W} : Ev o d zX7_seed [.ref i, .long s0] w v w' = Rn o d zX7_seed 0 [.ref i, .long s0, .null, .null, .null] [] w (v, w') := rfl
def zX7_years : ai_Mi := (yX7_years, cX7_years, 4, (some .int))
theorem ev_X7_years {s0 : Int32} {v : Option Value} {w' : ai_W} : Ev o d zX7_years [.ref i, .int s0] w v w' = Rn o d zX7_years 0 [.ref i, .int s0, .null, .null] [] w (v, w') := rfl
def zX7_keep : ai_Mi := (yX7_keep, cX7_keep, 2, (some .int))
theorem ev_X7_keep {s0 : Int32} {v : Option Value} {w' : ai_W} : Ev o d zX7_keep [.ref i, .int s0] w v w' = Rn o d zX7_keep 0 [.ref i, .int s0] [] w (v, w') := rfl
def zX7_again : ai_Mi := (yX7_again, cX7_again, 2, (some .int))
theorem ev_X7_again {s0 : Int32} {v : Option Value} {w' : ai_W} : Ev o d zX7_again [.ref i, .int s0] w v w' = Rn o d zX7_again 0 [.ref i, .int s0] [] w (v, w') := rfl
def zX7_isNights : ai_Mi := (yX7_isNights, cX7_isNights, 1, (some .boolean))
theorem ev_X7_isNights {s0 : Int32} {v : Option Value} {w' : ai_W} : Ev o d zX7_isNights [.int s0] w v w' = Rn o d zX7_isNights 0 [.int s0] [] w (v, w') := rfl
def zX7_lookAhead : ai_Mi := (yX7_lookAhead, cX7_lookAhead, 3, none)
theorem ev_X7_lookAhead {s0 : Int32} {v : Option Value} {w' : ai_W} : Ev o d zX7_lookAhead [.ref i, .int s0] w v w' = Rn o d zX7_lookAhead 0 [.ref i, .int s0, .null] [] w (v, w') := rfl
def zX7_withoutLast : ai_Mi := (yX7_withoutLast, cX7_withoutLast, 6, (some .long))
theorem ev_X7_withoutLast {s0 : Int64} {s1 : Int32} {v : Option Value} {w' : ai_W} : Ev o d zX7_withoutLast [.long s0, .int s1] w v w' = Rn o d zX7_withoutLast 0 [.long s0, .null, .int s1, .null, .null, .null] [] w (v, w') := rfl
def zX7_allBerths : ai_Mi := (yX7_allBerths, cX7_allBerths, 1, (some .int))
theorem ev_X7_allBerths  {v : Option Value} {w' : ai_W} : Ev o d zX7_allBerths [.ref i] w v w' = Rn o d zX7_allBerths 0 [.ref i] [] w (v, w') := rfl
def zX7_weightOf : ai_Mi := (yX7_weightOf, cX7_weightOf, 5, (some .int))
theorem ev_X7_weightOf {s0 : Int32} {s1 : Int32} {v : Option Value} {w' : ai_W} : Ev o d zX7_weightOf [.ref i, .int s0, .int s1] w v w' = Rn o d zX7_weightOf 0 [.ref i, .int s0, .int s1, .null, .null] [] w (v, w') := rfl
def zX7_part : ai_Mi := (yX7_part, cX7_part, 4, (some .int))
theorem ev_X7_part {s0 : Int32} {s1 : Int32} {s2 : Int32} {v : Option Value} {w' : ai_W} : Ev o d zX7_part [.int s0, .int s1, .int s2] w v w' = Rn o d zX7_part 0 [.int s0, .int s1, .int s2, .null] [] w (v, w') := rfl
def zX7_commonDivisor : ai_Mi := (yX7_commonDivisor, cX7_commonDivisor, 6, (some .int))
theorem ev_X7_commonDivisor {s0 : Int32} {s1 : Int32} {v : Option Value} {w' : ai_W} : Ev o d zX7_commonDivisor [.int s0, .int s1] w v w' = Rn o d zX7_commonDivisor 0 [.int s0, .int s1, .null, .null, .null, .null] [] w (v, w') := rfl
def zX8_in : ai_Mi := (yX8_in, cX8_in, 6, (some .boolean))
theorem ev_X8_in {s0 : Int64} {s1 : Int64} {s2 : Int64} {v : Option Value} {w' : ai_W} : Ev o d zX8_in [.long s0, .long s1, .long s2] w v w' = Rn o d zX8_in 0 [.long s0, .null, .long s1, .null, .long s2, .null] [] w (v, w') := rfl
def zX8_has : ai_Mi := (yX8_has, cX8_has, 2, (some .boolean))
theorem ev_X8_has {s0 : Int32} {s1 : Int32} {v : Option Value} {w' : ai_W} : Ev o d zX8_has [.int s0, .int s1] w v w' = Rn o d zX8_has 0 [.int s0, .int s1] [] w (v, w') := rfl
def zX8_many : ai_Mi := (yX8_many, cX8_many, 3, (some .int))
theorem ev_X8_many {s0 : Int32} {v : Option Value} {w' : ai_W} : Ev o d zX8_many [.int s0] w v w' = Rn o d zX8_many 0 [.int s0, .null, .null] [] w (v, w') := rfl
def zX8_power : ai_Mi := (yX8_power, cX8_power, 4, (some .int))
theorem ev_X8_power {s0 : Int32} {s1 : Int32} {v : Option Value} {w' : ai_W} : Ev o d zX8_power [.int s0, .int s1] w v w' = Rn o d zX8_power 0 [.int s0, .int s1, .null, .null] [] w (v, w') := rfl
def zX8_noBerth : ai_Mi := (yX8_noBerth, cX8_noBerth, 2, (some .boolean))
theorem ev_X8_noBerth {s0 : Int32} {v : Option Value} {w' : ai_W} : Ev o d zX8_noBerth [.ref i, .int s0] w v w' = Rn o d zX8_noBerth 0 [.ref i, .int s0] [] w (v, w') := rfl
def zX8_noDream : ai_Mi := (yX8_noDream, cX8_noDream, 2, (some .boolean))
theorem ev_X8_noDream {s0 : Int32} {v : Option Value} {w' : ai_W} : Ev o d zX8_noDream [.ref i, .int s0] w v w' = Rn o d zX8_noDream 0 [.ref i, .int s0] [] w (v, w') := rfl
def zX8_write : ai_Mi := (yX8_write, cX8_write, 2, (some .int))
theorem ev_X8_write {s0 : Int32} {v : Option Value} {w' : ai_W} : Ev o d zX8_write [.ref i, .int s0] w v w' = Rn o d zX8_write 0 [.ref i, .int s0] [] w (v, w') := rfl
def zX8_wipe : ai_Mi := (yX8_wipe, cX8_wipe, 2, (some .int))
theorem ev_X8_wipe  {v : Option Value} {w' : ai_W} : Ev o d zX8_wipe [.ref i] w v w' = Rn o d zX8_wipe 0 [.ref i, .null] [] w (v, w') := rfl
def zX8_figure : ai_Mi := (yX8_figure, cX8_figure, 3, (some .int))
theorem ev_X8_figure {s0 : Int32} {s1 : Int32} {v : Option Value} {w' : ai_W} : Ev o d zX8_figure [.ref i, .int s0, .int s1] w v w' = Rn o d zX8_figure 0 [.ref i, .int s0, .int s1] [] w (v, w') := rfl
def zX8_readOneTide : ai_Mi := (yX8_readOneTide, cX8_readOneTide, 2, (some .boolean))
theorem ev_X8_readOneTide  {v : Option Value} {w' : ai_W} : Ev o d zX8_readOneTide [.ref i] w v w' = Rn o d zX8_readOneTide 0 [.ref i, .null] [] w (v, w') := rfl
def zX8_readOneBerth : ai_Mi := (yX8_readOneBerth, cX8_readOneBerth, 3, (some .boolean))
theorem ev_X8_readOneBerth  {v : Option Value} {w' : ai_W} : Ev o d zX8_readOneBerth [.ref i] w v w' = Rn o d zX8_readOneBerth 0 [.ref i, .null, .null] [] w (v, w') := rfl
def zX8_readOneDream : ai_Mi := (yX8_readOneDream, cX8_readOneDream, 3, (some .boolean))
theorem ev_X8_readOneDream  {v : Option Value} {w' : ai_W} : Ev o d zX8_readOneDream [.ref i] w v w' = Rn o d zX8_readOneDream 0 [.ref i, .null, .null] [] w (v, w') := rfl
def zX8_readThing : ai_Mi := (yX8_readThing, cX8_readThing, 2, (some .boolean))
theorem ev_X8_readThing  {v : Option Value} {w' : ai_W} : Ev o d zX8_readThing [.ref i] w v w' = Rn o d zX8_readThing 0 [.ref i, .null] [] w (v, w') := rfl
def zX8_readPort : ai_Mi := (yX8_readPort, cX8_readPort, 1, (some .int))
theorem ev_X8_readPort  {v : Option Value} {w' : ai_W} : Ev o d zX8_readPort [.ref i] w v w' = Rn o d zX8_readPort 0 [.ref i] [] w (v, w') := rfl
def zX8_fault : ai_Mi := (yX8_fault, cX8_fault, 1, (some .int))
theorem ev_X8_fault  {v : Option Value} {w' : ai_W} : Ev o d zX8_fault [.ref i] w v w' = Rn o d zX8_fault 0 [.ref i] [] w (v, w') := rfl
def zX8_port : ai_Mi := (yX8_port, cX8_port, 2, (some .int))
theorem ev_X8_port  {v : Option Value} {w' : ai_W} : Ev o d zX8_port [.ref i] w v w' = Rn o d zX8_port 0 [.ref i, .null] [] w (v, w') := rfl
def zX8_tideOf : ai_Mi := (yX8_tideOf, cX8_tideOf, 2, (some .int))
theorem ev_X8_tideOf {s0 : Int32} {v : Option Value} {w' : ai_W} : Ev o d zX8_tideOf [.ref i, .int s0] w v w' = Rn o d zX8_tideOf 0 [.ref i, .int s0] [] w (v, w') := rfl
def zX8_waterOf : ai_Mi := (yX8_waterOf, cX8_waterOf, 3, (some .int))
theorem ev_X8_waterOf {s0 : Nat} {s1 : Int32} {v : Option Value} {w' : ai_W} : Ev o d zX8_waterOf [.ref i, .ref s0, .int s1] w v w' = Rn o d zX8_waterOf 0 [.ref i, .ref s0, .int s1] [] w (v, w') := rfl
def zX8_dreamsAt : ai_Mi := (yX8_dreamsAt, cX8_dreamsAt, 5, (some .int))
theorem ev_X8_dreamsAt {s0 : Nat} {s1 : Int32} {v : Option Value} {w' : ai_W} : Ev o d zX8_dreamsAt [.ref i, .ref s0, .int s1] w v w' = Rn o d zX8_dreamsAt 0 [.ref i, .ref s0, .int s1, .null, .null] [] w (v, w') := rfl
def zX8_berthed : ai_Mi := (yX8_berthed, cX8_berthed, 4, (some .int))
theorem ev_X8_berthed {s0 : Nat} {v : Option Value} {w' : ai_W} : Ev o d zX8_berthed [.ref i, .ref s0] w v w' = Rn o d zX8_berthed 0 [.ref i, .ref s0, .null, .null] [] w (v, w') := rfl
def zX8_suits : ai_Mi := (yX8_suits, cX8_suits, 4, (some .boolean))
theorem ev_X8_suits {s0 : Nat} {s1 : Int32} {s2 : Int32} {v : Option Value} {w' : ai_W} : Ev o d zX8_suits [.ref i, .ref s0, .int s1, .int s2] w v w' = Rn o d zX8_suits 0 [.ref i, .ref s0, .int s1, .int s2] [] w (v, w') := rfl
def zX8_canBe : ai_Mi := (yX8_canBe, cX8_canBe, 4, (some .boolean))
theorem ev_X8_canBe {s0 : Nat} {s1 : Int32} {s2 : Int32} {v : Option Value} {w' : ai_W} : Ev o d zX8_canBe [.ref i, .ref s0, .int s1, .int s2] w v w' = Rn o d zX8_canBe 0 [.ref i, .ref s0, .int s1, .int s2] [] w (v, w') := rfl
def zX8_mayBe : ai_Mi := (yX8_mayBe, cX8_mayBe, 5, (some .int))
theorem ev_X8_mayBe {s0 : Nat} {s1 : Int32} {v : Option Value} {w' : ai_W} : Ev o d zX8_mayBe [.ref i, .ref s0, .int s1] w v w' = Rn o d zX8_mayBe 0 [.ref i, .ref s0, .int s1, .null, .null] [] w (v, w') := rfl
def zX8_goSleep : ai_Mi := (yX8_goSleep, cX8_goSleep, 6, (some .int))
theorem ev_X8_goSleep {s0 : Nat} {v : Option Value} {w' : ai_W} : Ev o d zX8_goSleep [.ref i, .ref s0] w v w' = Rn o d zX8_goSleep 0 [.ref i, .ref s0, .null, .null, .null, .null] [] w (v, w') := rfl
def zX8_goWait : ai_Mi := (yX8_goWait, cX8_goWait, 6, none)
theorem ev_X8_goWait {s0 : Nat} {v : Option Value} {w' : ai_W} : Ev o d zX8_goWait [.ref i, .ref s0] w v w' = Rn o d zX8_goWait 0 [.ref i, .ref s0, .null, .null, .null, .null] [] w (v, w') := rfl
def zX8_goNight : ai_Mi := (yX8_goNight, cX8_goNight, 4, (some .int))
theorem ev_X8_goNight {s0 : Nat} {v : Option Value} {w' : ai_W} : Ev o d zX8_goNight [.ref i, .ref s0] w v w' = Rn o d zX8_goNight 0 [.ref i, .ref s0, .null, .null] [] w (v, w') := rfl
def zX8_woke : ai_Mi := (yX8_woke, cX8_woke, 3, (some .int))
theorem ev_X8_woke  {v : Option Value} {w' : ai_W} : Ev o d zX8_woke [.ref i] w v w' = Rn o d zX8_woke 0 [.ref i, .null, .null] [] w (v, w') := rfl
def zX8_plainly : ai_Mi := (yX8_plainly, cX8_plainly, 1, none)
theorem ev_X8_plainly  {v : Option Value} {w' : ai_W} : Ev o d zX8_plainly [.ref i] w v w' = Rn o d zX8_plainly 0 [.ref i] [] w (v, w') := rfl
def zX8_about : ai_Mi := (yX8_about, cX8_about, 2, (some .int))
theorem ev_X8_about {s0 : Int32} {v : Option Value} {w' : ai_W} : Ev o d zX8_about [.ref i, .int s0] w v w' = Rn o d zX8_about 0 [.ref i, .int s0] [] w (v, w') := rfl
def zX8_berth : ai_Mi := (yX8_berth, cX8_berth, 3, (some .int))
theorem ev_X8_berth {s0 : Int32} {s1 : Int32} {v : Option Value} {w' : ai_W} : Ev o d zX8_berth [.ref i, .int s0, .int s1] w v w' = Rn o d zX8_berth 0 [.ref i, .int s0, .int s1] [] w (v, w') := rfl
def zX8_dream : ai_Mi := (yX8_dream, cX8_dream, 3, (some .int))
theorem ev_X8_dream {s0 : Int32} {s1 : Int32} {v : Option Value} {w' : ai_W} : Ev o d zX8_dream [.ref i, .int s0, .int s1] w v w' = Rn o d zX8_dream 0 [.ref i, .int s0, .int s1] [] w (v, w') := rfl
def zX8_note : ai_Mi := (yX8_note, cX8_note, 2, none)
theorem ev_X8_note  {v : Option Value} {w' : ai_W} : Ev o d zX8_note [.ref i] w v w' = Rn o d zX8_note 0 [.ref i, .null] [] w (v, w') := rfl
def zX8_night : ai_Mi := (yX8_night, cX8_night, 1, (some .int))
theorem ev_X8_night  {v : Option Value} {w' : ai_W} : Ev o d zX8_night [.ref i] w v w' = Rn o d zX8_night 0 [.ref i] [] w (v, w') := rfl
def zX8_moor : ai_Mi := (yX8_moor, cX8_moor, 3, (some .int))
theorem ev_X8_moor {s0 : Int32} {s1 : Int32} {v : Option Value} {w' : ai_W} : Ev o d zX8_moor [.ref i, .int s0, .int s1] w v w' = Rn o d zX8_moor 0 [.ref i, .int s0, .int s1] [] w (v, w') := rfl
def zX8_goTow : ai_Mi := (yX8_goTow, cX8_goTow, 2, none)
theorem ev_X8_goTow {s0 : Nat} {s1 : Int32} {v : Option Value} {w' : ai_W} : Ev o d zX8_goTow [.ref s0, .int s1] w v w' = Rn o d zX8_goTow 0 [.ref s0, .int s1] [] w (v, w') := rfl
def zX8_tow : ai_Mi := (yX8_tow, cX8_tow, 3, (some .int))
theorem ev_X8_tow {s0 : Int32} {v : Option Value} {w' : ai_W} : Ev o d zX8_tow [.ref i, .int s0] w v w' = Rn o d zX8_tow 0 [.ref i, .int s0, .null] [] w (v, w') := rfl
def zX8_undo : ai_Mi := (yX8_undo, cX8_undo, 2, (some .int))
theorem ev_X8_undo  {v : Option Value} {w' : ai_W} : Ev o d zX8_undo [.ref i] w v w' = Rn o d zX8_undo 0 [.ref i, .null] [] w (v, w') := rfl
def zX8_begin : ai_Mi := (yX8_begin, cX8_begin, 2, none)
theorem ev_X8_begin  {v : Option Value} {w' : ai_W} : Ev o d zX8_begin [.ref i] w v w' = Rn o d zX8_begin 0 [.ref i, .null] [] w (v, w') := rfl
def zX8_goNights : ai_Mi := (yX8_goNights, cX8_goNights, 3, none)
theorem ev_X8_goNights {s0 : Int32} {v : Option Value} {w' : ai_W} : Ev o d zX8_goNights [.ref i, .int s0] w v w' = Rn o d zX8_goNights 0 [.ref i, .int s0, .null] [] w (v, w') := rfl
def zX8_later : ai_Mi := (yX8_later, cX8_later, 3, (some .int))
theorem ev_X8_later {s0 : Int32} {s1 : Int32} {v : Option Value} {w' : ai_W} : Ev o d zX8_later [.ref i, .int s0, .int s1] w v w' = Rn o d zX8_later 0 [.ref i, .int s0, .int s1] [] w (v, w') := rfl
def zX8_wakes : ai_Mi := (yX8_wakes, cX8_wakes, 3, (some .int))
theorem ev_X8_wakes {s0 : Int32} {s1 : Int32} {v : Option Value} {w' : ai_W} : Ev o d zX8_wakes [.ref i, .int s0, .int s1] w v w' = Rn o d zX8_wakes 0 [.ref i, .int s0, .int s1] [] w (v, w') := rfl
def zX8_fitsThen : ai_Mi := (yX8_fitsThen, cX8_fitsThen, 4, (some .int))
theorem ev_X8_fitsThen {s0 : Int32} {v : Option Value} {w' : ai_W} : Ev o d zX8_fitsThen [.ref i, .int s0] w v w' = Rn o d zX8_fitsThen 0 [.ref i, .int s0, .null, .null] [] w (v, w') := rfl
def zX8_fits : ai_Mi := (yX8_fits, cX8_fits, 3, (some .int))
theorem ev_X8_fits {s0 : Int32} {s1 : Int32} {v : Option Value} {w' : ai_W} : Ev o d zX8_fits [.ref i, .int s0, .int s1] w v w' = Rn o d zX8_fits 0 [.ref i, .int s0, .int s1] [] w (v, w') := rfl
def zX8_soonest : ai_Mi := (yX8_soonest, cX8_soonest, 3, (some .int))
theorem ev_X8_soonest {s0 : Int32} {v : Option Value} {w' : ai_W} : Ev o d zX8_soonest [.ref i, .int s0] w v w' = Rn o d zX8_soonest 0 [.ref i, .int s0, .null] [] w (v, w') := rfl
def zX8_berthsBy : ai_Mi := (yX8_berthsBy, cX8_berthsBy, 6, (some .boolean))
theorem ev_X8_berthsBy {s0 : Int32} {s1 : Int32} {v : Option Value} {w' : ai_W} : Ev o d zX8_berthsBy [.ref i, .int s0, .int s1] w v w' = Rn o d zX8_berthsBy 0 [.ref i, .int s0, .int s1, .null, .null, .null] [] w (v, w') := rfl
def zX8_findPlan : ai_Mi := (yX8_findPlan, cX8_findPlan, 6, (some .int))
theorem ev_X8_findPlan  {v : Option Value} {w' : ai_W} : Ev o d zX8_findPlan [.ref i] w v w' = Rn o d zX8_findPlan 0 [.ref i, .null, .null, .null, .null, .null] [] w (v, w') := rfl
def zX8_plan : ai_Mi := (yX8_plan, cX8_plan, 2, (some .int))
theorem ev_X8_plan {s0 : Int32} {v : Option Value} {w' : ai_W} : Ev o d zX8_plan [.ref i, .int s0] w v w' = Rn o d zX8_plan 0 [.ref i, .int s0] [] w (v, w') := rfl
def zX8_longPower : ai_Mi := (yX8_longPower, cX8_longPower, 6, (some .long))
theorem ev_X8_longPower {s0 : Int64} {s1 : Int32} {v : Option Value} {w' : ai_W} : Ev o d zX8_longPower [.long s0, .int s1] w v w' = Rn o d zX8_longPower 0 [.long s0, .null, .int s1, .null, .null, .null] [] w (v, w') := rfl
def zX8_does : ai_Mi := (yX8_does, cX8_does, 6, (some .boolean))
theorem ev_X8_does {s0 : Int32} {v : Option Value} {w' : ai_W} : Ev o d zX8_does [.ref i, .int s0] w v w' = Rn o d zX8_does 0 [.ref i, .int s0, .null, .null, .null, .null] [] w (v, w') := rfl
def zX8_judge : ai_Mi := (yX8_judge, cX8_judge, 5, (some .int))
theorem ev_X8_judge {s0 : Int32} {s1 : Int64} {v : Option Value} {w' : ai_W} : Ev o d zX8_judge [.ref i, .int s0, .long s1] w v w' = Rn o d zX8_judge 0 [.ref i, .int s0, .long s1, .null, .null] [] w (v, w') := rfl
def zX8_ways : ai_Mi := (yX8_ways, cX8_ways, 3, (some .int))
theorem ev_X8_ways {s0 : Int32} {v : Option Value} {w' : ai_W} : Ev o d zX8_ways [.int s0] w v w' = Rn o d zX8_ways 0 [.int s0, .null, .null] [] w (v, w') := rfl
def zX8_divisor : ai_Mi := (yX8_divisor, cX8_divisor, 5, (some .int))
theorem ev_X8_divisor {s0 : Int32} {s1 : Int32} {v : Option Value} {w' : ai_W} : Ev o d zX8_divisor [.int s0, .int s1] w v w' = Rn o d zX8_divisor 0 [.int s0, .int s1, .null, .null, .null] [] w (v, w') := rfl
def zX8_fraction : ai_Mi := (yX8_fraction, cX8_fraction, 4, (some .int))
theorem ev_X8_fraction {s0 : Int32} {s1 : Int32} {s2 : Int32} {v : Option Value} {w' : ai_W} : Ev o d zX8_fraction [.int s0, .int s1, .int s2] w v w' = Rn o d zX8_fraction 0 [.int s0, .int s1, .int s2, .null] [] w (v, w') := rfl
def zX8_share : ai_Mi := (yX8_share, cX8_share, 6, (some .int))
theorem ev_X8_share {s0 : Int32} {s1 : Int32} {v : Option Value} {w' : ai_W} : Ev o d zX8_share [.ref i, .int s0, .int s1] w v w' = Rn o d zX8_share 0 [.ref i, .int s0, .int s1, .null, .null, .null] [] w (v, w') := rfl
def zX8_sound : ai_Mi := (yX8_sound, cX8_sound, 4, (some .int))
theorem ev_X8_sound {s0 : Int32} {s1 : Int32} {s2 : Int32} {v : Option Value} {w' : ai_W} : Ev o d zX8_sound [.ref i, .int s0, .int s1, .int s2] w v w' = Rn o d zX8_sound 0 [.ref i, .int s0, .int s1, .int s2] [] w (v, w') := rfl
def zX8_unsound : ai_Mi := (yX8_unsound, cX8_unsound, 2, (some .int))
theorem ev_X8_unsound  {v : Option Value} {w' : ai_W} : Ev o d zX8_unsound [.ref i] w v w' = Rn o d zX8_unsound 0 [.ref i, .null] [] w (v, w') := rfl
def zX8_explains : ai_Mi := (yX8_explains, cX8_explains, 6, (some .boolean))
theorem ev_X8_explains {s0 : Int32} {s1 : Int32} {v : Option Value} {w' : ai_W} : Ev o d zX8_explains [.ref i, .int s0, .int s1] w v w' = Rn o d zX8_explains 0 [.ref i, .int s0, .int s1, .null, .null, .null] [] w (v, w') := rfl
def zX8_depths : ai_Mi := (yX8_depths, cX8_depths, 4, (some .int))
theorem ev_X8_depths {s0 : Int32} {v : Option Value} {w' : ai_W} : Ev o d zX8_depths [.ref i, .int s0] w v w' = Rn o d zX8_depths 0 [.ref i, .int s0, .null, .null] [] w (v, w') := rfl
def zX8_chosen : ai_Mi := (yX8_chosen, cX8_chosen, 3, (some .int))
theorem ev_X8_chosen {s0 : Int32} {s1 : Int32} {v : Option Value} {w' : ai_W} : Ev o d zX8_chosen [.ref i, .int s0, .int s1] w v w' = Rn o d zX8_chosen 0 [.ref i, .int s0, .int s1] [] w (v, w') := rfl
def zX8_layGains : ai_Mi := (yX8_layGains, cX8_layGains, 9, none)
theorem ev_X8_layGains {s0 : Int32} {s1 : Int32} {s2 : Int32} {v : Option Value} {w' : ai_W} : Ev o d zX8_layGains [.ref i, .int s0, .int s1, .int s2] w v w' = Rn o d zX8_layGains 0 [.ref i, .int s0, .int s1, .int s2, .null, .null, .null, .null, .null] [] w (v, w') := rfl
def zX8_rests : ai_Mi := (yX8_rests, cX8_rests, 7, (some .int))
theorem ev_X8_rests {s0 : Int32} {s1 : Int32} {s2 : Int32} {v : Option Value} {w' : ai_W} : Ev o d zX8_rests [.ref i, .int s0, .int s1, .int s2] w v w' = Rn o d zX8_rests 0 [.ref i, .int s0, .int s1, .int s2, .null, .null, .null] [] w (v, w') := rfl
def zX8_ebb : ai_Mi := (yX8_ebb, cX8_ebb, 7, (some .int))
theorem ev_X8_ebb {s0 : Int32} {s1 : Int32} {s2 : Int32} {v : Option Value} {w' : ai_W} : Ev o d zX8_ebb [.ref i, .int s0, .int s1, .int s2] w v w' = Rn o d zX8_ebb 0 [.ref i, .int s0, .int s1, .int s2, .null, .null, .null] [] w (v, w') := rfl
def zX8_seed : ai_Mi := (yX8_seed, cX8_seed, 5, (some .long))
theorem ev_X8_seed {s0 : Int64} {v : Option Value} {w' : ai_W} : Ev o d zX8_seed [.ref i, .long s0] w v w' = Rn o d zX8_seed 0 [.ref i, .long s0, .null, .null, .null] [] w (v, w') := rfl
def zX8_years : ai_Mi := (yX8_years, cX8_years, 5, (some .int))
theorem ev_X8_years {s0 : Int32} {v : Option Value} {w' : ai_W} : Ev o d zX8_years [.ref i, .int s0] w v w' = Rn o d zX8_years 0 [.ref i, .int s0, .null, .null, .null] [] w (v, w') := rfl
def zX8_keep : ai_Mi := (yX8_keep, cX8_keep, 3, (some .int))
theorem ev_X8_keep {s0 : Int32} {v : Option Value} {w' : ai_W} : Ev o d zX8_keep [.ref i, .int s0] w v w' = Rn o d zX8_keep 0 [.ref i, .int s0, .null] [] w (v, w') := rfl
def zX8_again : ai_Mi := (yX8_again, cX8_again, 3, (some .int))
theorem ev_X8_again {s0 : Int32} {v : Option Value} {w' : ai_W} : Ev o d zX8_again [.ref i, .int s0] w v w' = Rn o d zX8_again 0 [.ref i, .int s0, .null] [] w (v, w') := rfl
def zL_law : ai_Mi := (yL_law, cL_law, 4, (some .boolean))
theorem ev_L_law {s0 : Nat} {v : Option Value} {w' : ai_W} : Ev o d zL_law [.ref s0] w v w' = Rn o d zL_law 0 [.ref s0, .null, .null, .null] [] w (v, w') := rfl
end HDS
