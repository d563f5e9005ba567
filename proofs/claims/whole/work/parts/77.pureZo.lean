section PZo
theorem x11_0 (S : gSt) (v : Int32) : (sI S 0 v).1 11 = S.1 11 := rfl
theorem x11_1 (S : gSt) (v : Int32) : (sI S 1 v).1 11 = S.1 11 := rfl
theorem x11_2 (S : gSt) (v : Int32) : (sI S 2 v).1 11 = S.1 11 := rfl
theorem x11_3 (S : gSt) (v : Int32) : (sI S 3 v).1 11 = S.1 11 := rfl
theorem x11_4 (S : gSt) (v : Int32) : (sI S 4 v).1 11 = S.1 11 := rfl
theorem x11_5 (S : gSt) (v : Int32) : (sI S 5 v).1 11 = S.1 11 := rfl
theorem x11_6 (S : gSt) (v : Int32) : (sI S 6 v).1 11 = S.1 11 := rfl
theorem x11_7 (S : gSt) (v : Int32) : (sI S 7 v).1 11 = S.1 11 := rfl
theorem x11_8 (S : gSt) (v : Int32) : (sI S 8 v).1 11 = S.1 11 := rfl
theorem x11_9 (S : gSt) (v : Int32) : (sI S 9 v).1 11 = S.1 11 := rfl
theorem x11_10 (S : gSt) (v : Int32) : (sI S 10 v).1 11 = S.1 11 := rfl
theorem x11_12 (S : gSt) (v : Int32) : (sI S 12 v).1 11 = S.1 11 := rfl
theorem x11_13 (S : gSt) (v : Int32) : (sI S 13 v).1 11 = S.1 11 := rfl
theorem x11_14 (S : gSt) (v : Int32) : (sI S 14 v).1 11 = S.1 11 := rfl
theorem x11_15 (S : gSt) (v : Int32) : (sI S 15 v).1 11 = S.1 11 := rfl
theorem x11_16 (S : gSt) (v : Int32) : (sI S 16 v).1 11 = S.1 11 := rfl
theorem x11_17 (S : gSt) (v : Int32) : (sI S 17 v).1 11 = S.1 11 := rfl
theorem x11_18 (S : gSt) (v : Int32) : (sI S 18 v).1 11 = S.1 11 := rfl
theorem x11_19 (S : gSt) (v : Int32) : (sI S 19 v).1 11 = S.1 11 := rfl
theorem x11_20 (S : gSt) (v : Int32) : (sI S 20 v).1 11 = S.1 11 := rfl
theorem x11_21 (S : gSt) (v : Int32) : (sI S 21 v).1 11 = S.1 11 := rfl
theorem x11_22 (S : gSt) (v : Int32) : (sI S 22 v).1 11 = S.1 11 := rfl
theorem x11_23 (S : gSt) (v : Int32) : (sI S 23 v).1 11 = S.1 11 := rfl
theorem x11_24 (S : gSt) (v : Int32) : (sI S 24 v).1 11 = S.1 11 := rfl
theorem x11_25 (S : gSt) (v : Int32) : (sI S 25 v).1 11 = S.1 11 := rfl
theorem x11_26 (S : gSt) (v : Int32) : (sI S 26 v).1 11 = S.1 11 := rfl
theorem x11_27 (S : gSt) (v : Int32) : (sI S 27 v).1 11 = S.1 11 := rfl
theorem x11_28 (S : gSt) (v : Int32) : (sI S 28 v).1 11 = S.1 11 := rfl
theorem x11_29 (S : gSt) (v : Int32) : (sI S 29 v).1 11 = S.1 11 := rfl
theorem x11_30 (S : gSt) (v : Int32) : (sI S 30 v).1 11 = S.1 11 := rfl
theorem x11_31 (S : gSt) (v : Int32) : (sI S 31 v).1 11 = S.1 11 := rfl
theorem x11_32 (S : gSt) (v : Int32) : (sI S 32 v).1 11 = S.1 11 := rfl
theorem x11_33 (S : gSt) (v : Int32) : (sI S 33 v).1 11 = S.1 11 := rfl
theorem x11_Z (S : gSt) (j : Nat) (b : Bool) : (sZ S j b).1 11 = S.1 11 := rfl
theorem x11_A (S : gSt) (q : Nat) (i v : Int32) : (aP S q i v).1 11 = S.1 11 := rfl
theorem f11_X1_romByte  (a0 : Int32) (S : gSt) : (sp_X1_romByte false a0 S).2.1 11 = S.1 11 := by
  unfold sp_X1_romByte
  try simp only [gB, gL]
  repeat' split
  all_goals (try rfl)
  all_goals simp only [x11_Z, x11_A]
theorem f11_X1_chrByte  (a0 : Int32) (S : gSt) : (sp_X1_chrByte false a0 S).2.1 11 = S.1 11 := by
  unfold sp_X1_chrByte
  try simp only [gB, gL]
  repeat' split
  all_goals (try rfl)
  all_goals simp only [x11_Z, x11_A]
theorem f11_X1_setRomBanks  (a0 : Int32) (a1 : Int32) (a2 : Int32) (a3 : Int32) (S : gSt) : (sp_X1_setRomBanks false a0 a1 a2 a3 S).2.1 11 = S.1 11 := by
  unfold sp_X1_setRomBanks
  try simp only [gB, gL]
  repeat' split
  all_goals (try rfl)
  all_goals simp only [x11_Z, x11_A]
theorem f11_X1_setFourChrBanks  (a0 : Int32) (a1 : Int32) (a2 : Int32) (a3 : Int32) (a4 : Int32) (S : gSt) : (sp_X1_setFourChrBanks false a0 a1 a2 a3 a4 S).2.1 11 = S.1 11 := by
  unfold sp_X1_setFourChrBanks
  try simp only [gB, gL]
  repeat' split
  all_goals (try rfl)
  all_goals simp only [x11_Z, x11_A]
theorem f11_X3_forgetShifted  (S : gSt) : (sp_X3_forgetShifted S).2.1 11 = S.1 11 := by
  unfold sp_X3_forgetShifted
  try simp only [gB, gL]
  repeat' split
  all_goals (try rfl)
  all_goals simp only [x11_2, x11_3, x11_Z, x11_A]
theorem f11_X3_noteLine  (S : gSt) : (sp_X3_noteLine S).2.1 11 = S.1 11 := by
  unfold sp_X3_noteLine
  try simp only [gB, gL]
  repeat' split
  all_goals (try rfl)
  all_goals simp only [x11_Z, x11_A]
theorem f11_X3_lineCounter  (S : gSt) : (sp_X3_lineCounter S).2.1 11 = S.1 11 := by
  unfold sp_X3_lineCounter
  try simp only [gB, gL]
  repeat' split
  all_goals (try rfl)
  all_goals simp only [x11_Z, x11_A]
theorem f11_X3_setRegister (a0 : Int32) (a1 : Int32) (S : gSt) : (sp_X3_setRegister a0 a1 S).2.1 11 = S.1 11 := by
  unfold sp_X3_setRegister
  try simp only [gB, gL]
  repeat' split
  all_goals (try rfl)
  all_goals simp only [x11_1, x11_4, x11_5, x11_6, x11_7, x11_8, x11_Z, x11_A]
theorem f11_X3_mapRom  (S : gSt) : (sp_X3_mapRom S).2.1 11 = S.1 11 := by
  unfold sp_X3_mapRom
  try simp only [gB, gL]
  repeat' split
  all_goals (try rfl)
  all_goals simp only [x11_Z, x11_A, f11_X1_setRomBanks]
theorem f11_X3_mapChr  (S : gSt) : (sp_X3_mapChr S).2.1 11 = S.1 11 := by
  unfold sp_X3_mapChr
  try simp only [gB, gL]
  repeat' split
  all_goals (try rfl)
  all_goals simp only [x11_Z, x11_A, f11_X1_setFourChrBanks]
theorem f11_X3_storeRegister (a0 : Int32) (a1 : Int32) (S : gSt) : (sp_X3_storeRegister a0 a1 S).2.1 11 = S.1 11 := by
  unfold sp_X3_storeRegister
  try simp only [gB, gL]
  repeat' split
  all_goals (try rfl)
  all_goals simp only [x11_2, x11_3, x11_4, x11_Z, x11_A, f11_X3_forgetShifted, f11_X3_setRegister, f11_X3_mapRom, f11_X3_mapChr]
theorem f11_K_storeRegister  (a0 : Int32) (a1 : Int32) (S : gSt) : (sp_K_storeRegister false a0 a1 S).2.1 11 = S.1 11 := f11_X3_storeRegister a0 a1 S
theorem f11_K_noteLine   (S : gSt) : (sp_K_noteLine false S).2.1 11 = S.1 11 := f11_X3_noteLine S
theorem f11_K_forgetShifted   (S : gSt) : (sp_K_forgetShifted false S).2.1 11 = S.1 11 := f11_X3_forgetShifted S
theorem f11_K_lineCounter   (S : gSt) : (sp_K_lineCounter false S).2.1 11 = S.1 11 := f11_X3_lineCounter S
theorem f11_X6_setStrobe  (a0 : Bool) (S : gSt) : (sp_X6_setStrobe false a0 S).2.1 11 = S.1 11 := by
  unfold sp_X6_setStrobe
  try simp only [gB, gL]
  repeat' split
  all_goals (try rfl)
  all_goals simp only [x11_Z, x11_A]
theorem f11_X6_nextBit  (a0 : Int32) (S : gSt) : (sp_X6_nextBit false a0 S).2.1 11 = S.1 11 := by
  unfold sp_X6_nextBit
  try simp only [gB, gL]
  repeat' split
  all_goals (try rfl)
  all_goals simp only [x11_Z, x11_A]
theorem f11_lp_X8_countLengths_2 (n : Nat) : ∀ (x0 : Int32) (S : gSt), (lp_X8_countLengths_2 false n x0 S).2.1 11 = S.1 11 := by
  induction n with
  | zero => intros; rfl
  | succ n ih =>
    intro x0 S
    rw [lp_X8_countLengths_2]
    try simp only [gB, gL]
    repeat' split
    all_goals (try rfl)
    all_goals simp only [ih, x11_Z, x11_A]
theorem f11_X8_countLengths   (S : gSt) : (sp_X8_countLengths false S).2.1 11 = S.1 11 := by
  unfold sp_X8_countLengths
  try simp only [gB, gL]
  repeat' split
  all_goals (try rfl)
  all_goals simp only [x11_Z, x11_A, f11_lp_X8_countLengths_2]
theorem f11_lp_X8_enable_7 (n : Nat) : ∀ (x0 : Int32) (x1 : Int32) (S : gSt), (lp_X8_enable_7 false n x0 x1 S).2.1 11 = S.1 11 := by
  induction n with
  | zero => intros; rfl
  | succ n ih =>
    intro x0 x1 S
    rw [lp_X8_enable_7]
    try simp only [gB, gL]
    repeat' split
    all_goals (try rfl)
    all_goals simp only [ih, x11_Z, x11_A]
theorem f11_X8_enable  (a0 : Int32) (S : gSt) : (sp_X8_enable false a0 S).2.1 11 = S.1 11 := by
  unfold sp_X8_enable
  try simp only [gB, gL]
  repeat' split
  all_goals (try rfl)
  all_goals simp only [x11_24, x11_Z, x11_A, f11_lp_X8_enable_7]
theorem f11_X8_restart   (S : gSt) : (sp_X8_restart false S).2.1 11 = S.1 11 := by
  unfold sp_X8_restart
  try simp only [gB, gL]
  repeat' split
  all_goals (try rfl)
  all_goals simp only [x11_Z, x11_A, f11_X8_enable]
theorem f11_lp_X8_loadStatus_21 (n : Nat) : ∀ (x0 : Int32) (x1 : Int32) (S : gSt), (lp_X8_loadStatus_21 false n x0 x1 S).2.1 11 = S.1 11 := by
  induction n with
  | zero => intros; rfl
  | succ n ih =>
    intro x0 x1 S
    rw [lp_X8_loadStatus_21]
    try simp only [gB, gL]
    repeat' split
    all_goals (try rfl)
    all_goals simp only [ih, x11_Z, x11_A]
theorem f11_X8_loadStatus   (S : gSt) : (sp_X8_loadStatus false S).2.1 11 = S.1 11 := by
  unfold sp_X8_loadStatus
  try simp only [gB, gL]
  repeat' split
  all_goals (try rfl)
  all_goals simp only [x11_Z, x11_A, f11_lp_X8_loadStatus_21]
theorem f11_X8_restartFrame  (a0 : Int32) (S : gSt) : (sp_X8_restartFrame false a0 S).2.1 11 = S.1 11 := by
  unfold sp_X8_restartFrame
  try simp only [gB, gL]
  repeat' split
  all_goals (try rfl)
  all_goals simp only [x11_25, x11_Z, x11_A, f11_X8_countLengths]
theorem f11_X8_storeChannel  (a0 : Int32) (a1 : Int32) (a2 : Int32) (S : gSt) : (sp_X8_storeChannel false a0 a1 a2 S).2.1 11 = S.1 11 := by
  unfold sp_X8_storeChannel
  try simp only [gB, gL]
  repeat' split
  all_goals (try rfl)
  all_goals simp only [x11_23, x11_Z, x11_A]
theorem f11_X8_store  (a0 : Int32) (a1 : Int32) (S : gSt) : (sp_X8_store false a0 a1 S).2.1 11 = S.1 11 := by
  unfold sp_X8_store
  try simp only [gB, gL]
  repeat' split
  all_goals (try rfl)
  all_goals simp only [x11_Z, x11_A, f11_X8_enable, f11_X8_restartFrame, f11_X8_storeChannel]
theorem f11_X8_frameEnd   (S : gSt) : (sp_X8_frameEnd false S).2.1 11 = S.1 11 := by
  unfold sp_X8_frameEnd
  try simp only [gB, gL]
  repeat' split
  all_goals (try rfl)
  all_goals simp only [x11_Z, x11_A]
theorem f11_X8_nextMark   (S : gSt) : (sp_X8_nextMark false S).2.1 11 = S.1 11 := by
  unfold sp_X8_nextMark
  try simp only [gB, gL]
  repeat' split
  all_goals (try rfl)
  all_goals simp only [x11_Z, x11_A, f11_X8_frameEnd]
theorem f11_X8_comeToMark   (S : gSt) : (sp_X8_comeToMark false S).2.1 11 = S.1 11 := by
  unfold sp_X8_comeToMark
  try simp only [gB, gL]
  repeat' split
  all_goals (try rfl)
  all_goals simp only [x11_25, x11_Z, x11_A, f11_X8_countLengths, f11_X8_frameEnd]
theorem f11_lp_X8_advance_4 (n : Nat) : ∀ (x0 : Int32) (x1 : Int32) (x2 : Int32) (S : gSt), (lp_X8_advance_4 false n x0 x1 x2 S).2.1 11 = S.1 11 := by
  induction n with
  | zero => intros; rfl
  | succ n ih =>
    intro x0 x1 x2 S
    rw [lp_X8_advance_4]
    try simp only [gB, gL]
    repeat' split
    all_goals (try rfl)
    all_goals simp only [ih, x11_25, x11_Z, x11_A, f11_X8_nextMark, f11_X8_comeToMark]
theorem f11_X8_advance  (a0 : Int32) (S : gSt) : (sp_X8_advance false a0 S).2.1 11 = S.1 11 := by
  unfold sp_X8_advance
  try simp only [gB, gL]
  repeat' split
  all_goals (try rfl)
  all_goals simp only [x11_Z, x11_A, f11_lp_X8_advance_4]
theorem f11_X7_restart   (S : gSt) : (sp_X7_restart false S).2.1 11 = S.1 11 := by
  unfold sp_X7_restart
  try simp only [gB, gL]
  repeat' split
  all_goals (try rfl)
  all_goals simp only [x11_12, x11_13, x11_19, x11_Z, x11_A]
theorem f11_X7_takeNmi   (S : gSt) : (sp_X7_takeNmi false S).2.1 11 = S.1 11 := by
  unfold sp_X7_takeNmi
  try simp only [gB, gL]
  repeat' split
  all_goals (try rfl)
  all_goals simp only [x11_Z, x11_A]
theorem f11_X7_storeControl  (a0 : Int32) (S : gSt) : (sp_X7_storeControl false a0 S).2.1 11 = S.1 11 := by
  unfold sp_X7_storeControl
  try simp only [gB, gL]
  repeat' split
  all_goals (try rfl)
  all_goals simp only [x11_12, x11_17, x11_Z, x11_A]
theorem f11_X7_storeScroll  (a0 : Int32) (S : gSt) : (sp_X7_storeScroll false a0 S).2.1 11 = S.1 11 := by
  unfold sp_X7_storeScroll
  try simp only [gB, gL]
  repeat' split
  all_goals (try rfl)
  all_goals simp only [x11_17, x11_18, x11_19, x11_Z, x11_A]
theorem f11_X7_storeAddress  (a0 : Int32) (S : gSt) : (sp_X7_storeAddress false a0 S).2.1 11 = S.1 11 := by
  unfold sp_X7_storeAddress
  try simp only [gB, gL]
  repeat' split
  all_goals (try rfl)
  all_goals simp only [x11_16, x11_17, x11_19, x11_Z, x11_A]
theorem f11_X7_growV   (S : gSt) : (sp_X7_growV false S).2.1 11 = S.1 11 := by
  unfold sp_X7_growV
  try simp only [gB, gL]
  repeat' split
  all_goals (try rfl)
  all_goals simp only [x11_16, x11_Z, x11_A]
theorem f11_X7_nameTablePlace  (a0 : Int32) (S : gSt) : (sp_X7_nameTablePlace false a0 S).2.1 11 = S.1 11 := by
  unfold sp_X7_nameTablePlace
  try simp only [gB, gL]
  repeat' split
  all_goals (try rfl)
  all_goals simp only [x11_Z, x11_A]
theorem f11_X7_palettePlace  (a0 : Int32) (S : gSt) : (sp_X7_palettePlace false a0 S).2.1 11 = S.1 11 := by
  unfold sp_X7_palettePlace
  try simp only [gB, gL]
  repeat' split
  all_goals (try rfl)
  all_goals simp only [x11_Z, x11_A]
theorem f11_X7_byteAt  (a0 : Int32) (S : gSt) : (sp_X7_byteAt false a0 S).2.1 11 = S.1 11 := by
  unfold sp_X7_byteAt
  try simp only [gB, gL]
  repeat' split
  all_goals (try rfl)
  all_goals simp only [x11_Z, x11_A, f11_X1_chrByte, f11_X7_nameTablePlace, f11_X7_palettePlace]
theorem f11_X7_storeByte  (a0 : Int32) (a1 : Int32) (S : gSt) : (sp_X7_storeByte false a0 a1 S).2.1 11 = S.1 11 := by
  unfold sp_X7_storeByte
  try simp only [gB, gL]
  repeat' split
  all_goals (try rfl)
  all_goals simp only [x11_Z, x11_A, f11_X7_nameTablePlace, f11_X7_palettePlace]
theorem f11_X7_load  (a0 : Int32) (S : gSt) : (sp_X7_load false a0 S).2.1 11 = S.1 11 := by
  unfold sp_X7_load
  try simp only [gB, gL]
  repeat' split
  all_goals (try rfl)
  all_goals simp only [x11_14, x11_19, x11_20, x11_Z, x11_A, f11_X7_growV, f11_X7_nameTablePlace, f11_X7_byteAt]
theorem f11_X7_store  (a0 : Int32) (a1 : Int32) (S : gSt) : (sp_X7_store false a0 a1 S).2.1 11 = S.1 11 := by
  unfold sp_X7_store
  try simp only [gB, gL]
  repeat' split
  all_goals (try rfl)
  all_goals simp only [x11_13, x11_15, x11_Z, x11_A, f11_X7_storeControl, f11_X7_storeScroll, f11_X7_storeAddress, f11_X7_growV, f11_X7_storeByte]
theorem f11_X7_comeToDotOne   (S : gSt) : (sp_X7_comeToDotOne false S).2.1 11 = S.1 11 := by
  unfold sp_X7_comeToDotOne
  try simp only [gB, gL]
  repeat' split
  all_goals (try rfl)
  all_goals simp only [x11_14, x11_Z, x11_A]
theorem f11_X7_tellLine   (S : gSt) : (sp_X7_tellLine false S).2.1 11 = S.1 11 := by
  unfold sp_X7_tellLine
  try simp only [gB, gL]
  repeat' split
  all_goals (try rfl)
  all_goals simp only [x11_Z, x11_A, f11_K_noteLine]
theorem f11_lp_X7_advance_4 (n : Nat) : ∀ (x0 : Int32) (x1 : Int32) (x2 : Int32) (S : gSt), (lp_X7_advance_4 false n x0 x1 x2 S).2.1 11 = S.1 11 := by
  induction n with
  | zero => intros; rfl
  | succ n ih =>
    intro x0 x1 x2 S
    rw [lp_X7_advance_4]
    generalize (if (341 - (S.1 22)) < x1 then (341 - (S.1 22)) else x1) = d
    try simp only [gB, gL]
    repeat' split
    all_goals (try rfl)
    all_goals simp only [ih, x11_21, x11_22, x11_Z, x11_A, f11_X7_comeToDotOne, f11_X7_tellLine]
theorem f11_X7_advance  (a0 : Int32) (S : gSt) : (sp_X7_advance false a0 S).2.1 11 = S.1 11 := by
  unfold sp_X7_advance
  try simp only [gB, gL]
  repeat' split
  all_goals (try rfl)
  all_goals simp only [x11_Z, x11_A, f11_lp_X7_advance_4]
theorem f11_X0_loadInput  (a0 : Int32) (S : gSt) : (sp_X0_loadInput false a0 S).2.1 11 = S.1 11 := by
  unfold sp_X0_loadInput
  try simp only [gB, gL]
  repeat' split
  all_goals (try rfl)
  all_goals simp only [x11_Z, x11_A, f11_X6_nextBit, f11_X8_loadStatus]
theorem f11_X0_load  (a0 : Int32) (S : gSt) : (sp_X0_load false a0 S).2.1 11 = S.1 11 := by
  unfold sp_X0_load
  try simp only [gB, gL]
  repeat' split
  all_goals (try rfl)
  all_goals simp only [x11_Z, x11_A, f11_X1_romByte, f11_X7_load, f11_X0_loadInput]
theorem f11_X0_store  (a0 : Int32) (a1 : Int32) (S : gSt) : (sp_X0_store false a0 a1 S).2.1 11 = S.1 11 := by
  unfold sp_X0_store
  try simp only [gB, gL]
  repeat' split
  all_goals (try rfl)
  all_goals simp only [x11_26, x11_Z, x11_A, f11_K_storeRegister, f11_X6_setStrobe, f11_X8_store, f11_X7_store]
theorem f11_lp_X0_copyPageAsked_25 (n : Nat) : ∀ (x0 : Int32) (x1 : Int32) (x2 : Int32) (S : gSt), (lp_X0_copyPageAsked_25 false n x0 x1 x2 S).2.1 11 = S.1 11 := by
  induction n with
  | zero => intros; rfl
  | succ n ih =>
    intro x0 x1 x2 S
    rw [lp_X0_copyPageAsked_25]
    try simp only [gB, gL]
    repeat' split
    all_goals (try rfl)
    all_goals simp only [ih, x11_Z, x11_A, f11_X7_store, f11_X0_load]
theorem f11_X0_copyPageAsked  (a0 : Int32) (S : gSt) : (sp_X0_copyPageAsked false a0 S).2.1 11 = S.1 11 := by
  unfold sp_X0_copyPageAsked
  try simp only [gB, gL]
  repeat' split
  all_goals skip
  all_goals try simp only [x11_26, x11_Z, x11_A, f11_lp_X0_copyPageAsked_25]
theorem f11_X0_storeStack  (a0 : Int32) (a1 : Int32) (S : gSt) : (sp_X0_storeStack false a0 a1 S).2.1 11 = S.1 11 := by
  unfold sp_X0_storeStack
  try simp only [gB, gL]
  repeat' split
  all_goals (try rfl)
  all_goals simp only [x11_Z, x11_A]
theorem f11_X0_loadStack  (a0 : Int32) (S : gSt) : (sp_X0_loadStack false a0 S).2.1 11 = S.1 11 := by
  unfold sp_X0_loadStack
  try simp only [gB, gL]
  repeat' split
  all_goals (try rfl)
  all_goals simp only [x11_Z, x11_A]
theorem f11_X0_vector  (a0 : Int32) (S : gSt) : (sp_X0_vector false a0 S).2.1 11 = S.1 11 := by
  unfold sp_X0_vector
  try simp only [gB, gL]
  repeat' split
  all_goals (try rfl)
  all_goals simp only [x11_Z, x11_A, f11_X1_romByte]
theorem f11_X2_setFlag  (a0 : Int32) (a1 : Bool) (S : gSt) : (sp_X2_setFlag false a0 a1 S).2.1 11 = S.1 11 := by
  unfold sp_X2_setFlag
  try simp only [gB, gL]
  repeat' split
  all_goals (try rfl)
  all_goals simp only [x11_31, x11_Z, x11_A]
theorem f11_X2_judged  (a0 : Int32) (S : gSt) : (sp_X2_judged false a0 S).2.1 11 = S.1 11 := by
  unfold sp_X2_judged
  try simp only [gB, gL]
  repeat' split
  all_goals (try rfl)
  all_goals simp only [x11_Z, x11_A, f11_X2_setFlag]
theorem f11_X2_push  (a0 : Int32) (S : gSt) : (sp_X2_push false a0 S).2.1 11 = S.1 11 := by
  unfold sp_X2_push
  try simp only [gB, gL]
  repeat' split
  all_goals (try rfl)
  all_goals simp only [x11_30, x11_Z, x11_A, f11_X0_storeStack]
theorem f11_X2_pushWord  (a0 : Int32) (S : gSt) : (sp_X2_pushWord false a0 S).2.1 11 = S.1 11 := by
  unfold sp_X2_pushWord
  try simp only [gB, gL]
  repeat' split
  all_goals (try rfl)
  all_goals simp only [x11_Z, x11_A, f11_X2_push]
theorem f11_X2_pull   (S : gSt) : (sp_X2_pull false S).2.1 11 = S.1 11 := by
  unfold sp_X2_pull
  try simp only [gB, gL]
  repeat' split
  all_goals (try rfl)
  all_goals simp only [x11_30, x11_Z, x11_A, f11_X0_loadStack]
theorem f11_X2_pullWord   (S : gSt) : (sp_X2_pullWord false S).2.1 11 = S.1 11 := by
  unfold sp_X2_pullWord
  try simp only [gB, gL]
  repeat' split
  all_goals (try rfl)
  all_goals simp only [x11_Z, x11_A, f11_X2_pull]
theorem f11_X2_pullFlags   (S : gSt) : (sp_X2_pullFlags false S).2.1 11 = S.1 11 := by
  unfold sp_X2_pullFlags
  try simp only [gB, gL]
  repeat' split
  all_goals (try rfl)
  all_goals simp only [x11_31, x11_Z, x11_A, f11_X2_pull]
theorem f11_X2_enter  (a0 : Int32) (a1 : Int32) (a2 : Int32) (S : gSt) : (sp_X2_enter false a0 a1 a2 S).2.1 11 = S.1 11 := by
  unfold sp_X2_enter
  try simp only [gB, gL]
  repeat' split
  all_goals (try rfl)
  all_goals simp only [x11_31, x11_32, x11_Z, x11_A, f11_X0_vector, f11_X2_push, f11_X2_pushWord]
theorem f11_X2_restart   (S : gSt) : (sp_X2_restart false S).2.1 11 = S.1 11 := by
  unfold sp_X2_restart
  try simp only [gB, gL]
  repeat' split
  all_goals (try rfl)
  all_goals simp only [x11_30, x11_31, x11_32, x11_Z, x11_A, f11_X0_vector]
theorem f11_X2_fetch   (S : gSt) : (sp_X2_fetch false S).2.1 11 = S.1 11 := by
  unfold sp_X2_fetch
  try simp only [gB, gL]
  repeat' split
  all_goals (try rfl)
  all_goals simp only [x11_32, x11_Z, x11_A, f11_X0_load]
theorem f11_X2_fetchOperand  (a0 : Int32) (S : gSt) : (sp_X2_fetchOperand false a0 S).2.1 11 = S.1 11 := by
  unfold sp_X2_fetchOperand
  try simp only [gB, gL]
  repeat' split
  all_goals (try rfl)
  all_goals simp only [x11_Z, x11_A, f11_X2_fetch]
theorem f11_X2_wordWithinPage  (a0 : Int32) (S : gSt) : (sp_X2_wordWithinPage false a0 S).2.1 11 = S.1 11 := by
  unfold sp_X2_wordWithinPage
  try simp only [gB, gL]
  repeat' split
  all_goals (try rfl)
  all_goals simp only [x11_Z, x11_A, f11_X0_load]
theorem f11_X2_otherPage  (a0 : Int32) (a1 : Int32) (S : gSt) : (sp_X2_otherPage false a0 a1 S).2.1 11 = S.1 11 := by
  unfold sp_X2_otherPage
  try simp only [gB, gL]
  repeat' split
  all_goals (try rfl)
  all_goals simp only [x11_Z, x11_A]
theorem f11_X2_indexed  (a0 : Int32) (a1 : Int32) (S : gSt) : (sp_X2_indexed false a0 a1 S).2.1 11 = S.1 11 := by
  unfold sp_X2_indexed
  try simp only [gB, gL]
  repeat' split
  all_goals (try rfl)
  all_goals simp only [x11_33, x11_Z, x11_A, f11_X2_otherPage]
theorem f11_X2_addressOf  (a0 : Int32) (a1 : Int32) (S : gSt) : (sp_X2_addressOf false a0 a1 S).2.1 11 = S.1 11 := by
  unfold sp_X2_addressOf
  try simp only [gB, gL]
  repeat' split
  all_goals (try rfl)
  all_goals simp only [x11_33, x11_Z, x11_A, f11_X2_wordWithinPage, f11_X2_indexed]
theorem f11_X2_add  (a0 : Int32) (S : gSt) : (sp_X2_add false a0 S).2.1 11 = S.1 11 := by
  unfold sp_X2_add
  try simp only [gB, gL]
  repeat' split
  all_goals (try rfl)
  all_goals simp only [x11_27, x11_Z, x11_A, f11_X2_setFlag, f11_X2_judged]
theorem f11_X2_compare  (a0 : Int32) (a1 : Int32) (S : gSt) : (sp_X2_compare false a0 a1 S).2.1 11 = S.1 11 := by
  unfold sp_X2_compare
  try simp only [gB, gL]
  repeat' split
  all_goals (try rfl)
  all_goals simp only [x11_Z, x11_A, f11_X2_setFlag, f11_X2_judged]
theorem f11_X2_testBits  (a0 : Int32) (S : gSt) : (sp_X2_testBits false a0 S).2.1 11 = S.1 11 := by
  unfold sp_X2_testBits
  try simp only [gB, gL]
  repeat' split
  all_goals (try rfl)
  all_goals simp only [x11_Z, x11_A, f11_X2_setFlag]
theorem f11_X2_combine  (a0 : Int32) (a1 : Int32) (S : gSt) : (sp_X2_combine false a0 a1 S).2.1 11 = S.1 11 := by
  unfold sp_X2_combine
  try simp only [gB, gL]
  repeat' split
  all_goals (try rfl)
  all_goals simp only [x11_27, x11_28, x11_29, x11_Z, x11_A, f11_X2_judged, f11_X2_add, f11_X2_compare, f11_X2_testBits]
theorem f11_X2_stored  (a0 : Int32) (S : gSt) : (sp_X2_stored false a0 S).2.1 11 = S.1 11 := by
  unfold sp_X2_stored
  try simp only [gB, gL]
  repeat' split
  all_goals (try rfl)
  all_goals simp only [x11_Z, x11_A]
theorem f11_X2_shiftedUp  (a0 : Int32) (a1 : Int32) (S : gSt) : (sp_X2_shiftedUp false a0 a1 S).2.1 11 = S.1 11 := by
  unfold sp_X2_shiftedUp
  try simp only [gB, gL]
  repeat' split
  all_goals (try rfl)
  all_goals simp only [x11_Z, x11_A, f11_X2_setFlag, f11_X2_judged]
theorem f11_X2_shiftedDown  (a0 : Int32) (a1 : Int32) (S : gSt) : (sp_X2_shiftedDown false a0 a1 S).2.1 11 = S.1 11 := by
  unfold sp_X2_shiftedDown
  try simp only [gB, gL]
  repeat' split
  all_goals (try rfl)
  all_goals simp only [x11_Z, x11_A, f11_X2_setFlag, f11_X2_judged]
theorem f11_X2_changed  (a0 : Int32) (a1 : Int32) (S : gSt) : (sp_X2_changed false a0 a1 S).2.1 11 = S.1 11 := by
  unfold sp_X2_changed
  try simp only [gB, gL]
  repeat' split
  all_goals (try rfl)
  all_goals simp only [x11_Z, x11_A, f11_X2_judged, f11_X2_shiftedUp, f11_X2_shiftedDown]
theorem f11_X2_change  (a0 : Int32) (a1 : Int32) (a2 : Int32) (S : gSt) : (sp_X2_change false a0 a1 a2 S).2.1 11 = S.1 11 := by
  unfold sp_X2_change
  try simp only [gB, gL]
  repeat' split
  all_goals (try rfl)
  all_goals simp only [x11_27, x11_Z, x11_A, f11_X0_load, f11_X0_store, f11_X2_changed]
theorem f11_X2_branchTaken  (a0 : Int32) (S : gSt) : (sp_X2_branchTaken false a0 S).2.1 11 = S.1 11 := by
  unfold sp_X2_branchTaken
  try simp only [gB, gL]
  repeat' split
  all_goals (try rfl)
  all_goals simp only [x11_Z, x11_A]
theorem f11_X2_branch  (a0 : Int32) (a1 : Int32) (S : gSt) : (sp_X2_branch false a0 a1 S).2.1 11 = S.1 11 := by
  unfold sp_X2_branch
  try simp only [gB, gL]
  repeat' split
  all_goals (try rfl)
  all_goals simp only [x11_32, x11_Z, x11_A, f11_X2_otherPage, f11_X2_branchTaken]
theorem f11_X2_changeRegister  (a0 : Int32) (S : gSt) : (sp_X2_changeRegister false a0 S).2.1 11 = S.1 11 := by
  unfold sp_X2_changeRegister
  try simp only [gB, gL]
  repeat' split
  all_goals (try rfl)
  all_goals simp only [x11_27, x11_28, x11_29, x11_30, x11_Z, x11_A, f11_X2_judged]
theorem f11_X2_changeFlag  (a0 : Int32) (S : gSt) : (sp_X2_changeFlag false a0 S).2.1 11 = S.1 11 := by
  unfold sp_X2_changeFlag
  try simp only [gB, gL]
  repeat' split
  all_goals (try rfl)
  all_goals simp only [x11_Z, x11_A, f11_X2_setFlag]
theorem f11_X2_useStack  (a0 : Int32) (S : gSt) : (sp_X2_useStack false a0 S).2.1 11 = S.1 11 := by
  unfold sp_X2_useStack
  try simp only [gB, gL]
  repeat' split
  all_goals (try rfl)
  all_goals simp only [x11_27, x11_Z, x11_A, f11_X2_judged, f11_X2_push, f11_X2_pull, f11_X2_pullFlags]
theorem f11_X2_jump  (a0 : Int32) (a1 : Int32) (S : gSt) : (sp_X2_jump false a0 a1 S).2.1 11 = S.1 11 := by
  unfold sp_X2_jump
  try simp only [gB, gL]
  repeat' split
  all_goals (try rfl)
  all_goals simp only [x11_32, x11_Z, x11_A, f11_X2_pushWord, f11_X2_pullWord, f11_X2_pullFlags, f11_X2_enter]
theorem f11_X2_perform  (a0 : Int32) (a1 : Int32) (a2 : Int32) (S : gSt) : (sp_X2_perform false a0 a1 a2 S).2.1 11 = S.1 11 := by
  unfold sp_X2_perform
  try simp only [gB, gL]
  repeat' split
  all_goals (try rfl)
  all_goals simp only [x11_Z, x11_A, f11_X0_load, f11_X0_store, f11_X2_combine, f11_X2_stored, f11_X2_change, f11_X2_branch, f11_X2_changeRegister, f11_X2_changeFlag, f11_X2_useStack, f11_X2_jump]
theorem f11_X2_takeStep  (a0 : Bool) (a1 : Bool) (S : gSt) : (sp_X2_takeStep false a0 a1 S).2.1 11 = S.1 11 := by
  unfold sp_X2_takeStep
  try simp only [gB, gL]
  repeat' split
  all_goals (try rfl)
  all_goals simp only [x11_32, x11_Z, x11_A, f11_X2_enter, f11_X2_fetch, f11_X2_fetchOperand, f11_X2_addressOf, f11_X2_perform]
theorem f11_X9_irqLines   (S : gSt) : (sp_X9_irqLines false S).2.1 11 = S.1 11 := by
  unfold sp_X9_irqLines
  try simp only [gB, gL]
  repeat' split
  all_goals (try rfl)
  all_goals simp only [x11_Z, x11_A]
theorem f11_X9_letTimePass  (a0 : Int32) (S : gSt) : (sp_X9_letTimePass false a0 S).2.1 11 = S.1 11 := by
  unfold sp_X9_letTimePass
  try simp only [gB, gL]
  repeat' split
  all_goals (try rfl)
  all_goals simp only [x11_0, x11_Z, x11_A, f11_X8_advance, f11_X7_advance]
theorem f11_X9_settle  (a0 : Int32) (S : gSt) : (sp_X9_settle false a0 S).2.1 11 = S.1 11 := by
  unfold sp_X9_settle
  try simp only [gB, gL]
  repeat' split
  all_goals (try rfl)
  all_goals simp only [x11_Z, x11_A, f11_X0_copyPageAsked, f11_X9_letTimePass]
theorem f11_X9_reset   (S : gSt) : (sp_X9_reset false S).2.1 11 = S.1 11 := by
  unfold sp_X9_reset
  try simp only [gB, gL]
  repeat' split
  all_goals (try rfl)
  all_goals simp only [x11_Z, x11_A, f11_K_forgetShifted, f11_X8_restart, f11_X7_restart, f11_X2_restart]
theorem f11_X9_step   (S : gSt) : (sp_X9_step false S).2.1 11 = S.1 11 := by
  unfold sp_X9_step
  try simp only [gB, gL]
  repeat' split
  all_goals (try rfl)
  all_goals simp only [x11_Z, x11_A, f11_X7_takeNmi, f11_X2_takeStep, f11_X9_irqLines, f11_X9_settle]
theorem f11_lp_X9_run_17 (n : Nat) : ∀ (x0 : Int32) (x1 : Int32) (x2 : Int32) (S : gSt), (lp_X9_run_17 false n x0 x1 x2 S).2.1 11 = S.1 11 := by
  induction n with
  | zero => intros; rfl
  | succ n ih =>
    intro x0 x1 x2 S
    rw [lp_X9_run_17]
    try simp only [gB, gL]
    repeat' split
    all_goals (try rfl)
    all_goals simp only [ih, x11_Z, x11_A, f11_X7_takeNmi, f11_X2_takeStep, f11_X9_irqLines, f11_X9_settle]
theorem f11_X9_run  (a0 : Int32) (S : gSt) : (sp_X9_run false a0 S).2.1 11 = S.1 11 := by
  unfold sp_X9_run
  try simp only [gB, gL]
  repeat' split
  all_goals (try rfl)
  all_goals simp only [x11_Z, x11_A, f11_lp_X9_run_17]
theorem f11_X9_pass  (a0 : Int32) (S : gSt) : (sp_X9_pass false a0 S).2.1 11 = S.1 11 := by
  unfold sp_X9_pass
  try simp only [gB, gL]
  repeat' split
  all_goals (try rfl)
  all_goals simp only [x11_Z, x11_A, f11_X9_letTimePass]
theorem f11_X9_read  (a0 : Int32) (S : gSt) : (sp_X9_read false a0 S).2.1 11 = S.1 11 := by
  unfold sp_X9_read
  try simp only [gB, gL]
  repeat' split
  all_goals (try rfl)
  all_goals simp only [x11_Z, x11_A, f11_X0_load]
theorem f11_X9_write  (a0 : Int32) (a1 : Int32) (S : gSt) : (sp_X9_write false a0 a1 S).2.1 11 = S.1 11 := by
  unfold sp_X9_write
  try simp only [gB, gL]
  repeat' split
  all_goals (try rfl)
  all_goals simp only [x11_Z, x11_A, f11_X0_store, f11_X9_settle]
theorem f11_X9_memory  (a0 : Int32) (S : gSt) : (sp_X9_memory false a0 S).2.1 11 = S.1 11 := by
  unfold sp_X9_memory
  try simp only [gB, gL]
  repeat' split
  all_goals (try rfl)
  all_goals simp only [x11_Z, x11_A, f11_X7_byteAt]
end PZo
