section PW
theorem x0_I (S : gSt) (j : Nat) (v : Int32) : (sI S (j + 1) v).1 0 = S.1 0 := rfl
theorem x0_Z (S : gSt) (j : Nat) (b : Bool) : (sZ S j b).1 0 = S.1 0 := rfl
theorem x0_A (S : gSt) (q : Nat) (i v : Int32) : (aP S q i v).1 0 = S.1 0 := rfl
theorem f0_X1_romByte (k : Bool) (a0 : Int32) (S : gSt) : (sp_X1_romByte k a0 S).2.1 0 = S.1 0 := by
  unfold sp_X1_romByte
  try simp only [gB, gL]
  repeat' split
  all_goals (try rfl)
  all_goals simp only [x0_I, x0_Z, x0_A]
theorem f0_X1_chrByte (k : Bool) (a0 : Int32) (S : gSt) : (sp_X1_chrByte k a0 S).2.1 0 = S.1 0 := by
  unfold sp_X1_chrByte
  try simp only [gB, gL]
  repeat' split
  all_goals (try rfl)
  all_goals simp only [x0_I, x0_Z, x0_A]
theorem f0_X1_setRomBanks (k : Bool) (a0 : Int32) (a1 : Int32) (a2 : Int32) (a3 : Int32) (S : gSt) : (sp_X1_setRomBanks k a0 a1 a2 a3 S).2.1 0 = S.1 0 := by
  unfold sp_X1_setRomBanks
  try simp only [gB, gL]
  repeat' split
  all_goals (try rfl)
  all_goals simp only [x0_I, x0_Z, x0_A]
theorem f0_X1_setFourChrBanks (k : Bool) (a0 : Int32) (a1 : Int32) (a2 : Int32) (a3 : Int32) (a4 : Int32) (S : gSt) : (sp_X1_setFourChrBanks k a0 a1 a2 a3 a4 S).2.1 0 = S.1 0 := by
  unfold sp_X1_setFourChrBanks
  try simp only [gB, gL]
  repeat' split
  all_goals (try rfl)
  all_goals simp only [x0_I, x0_Z, x0_A]
theorem f0_X3_forgetShifted  (S : gSt) : (sp_X3_forgetShifted S).2.1 0 = S.1 0 := by
  unfold sp_X3_forgetShifted
  try simp only [gB, gL]
  repeat' split
  all_goals (try rfl)
  all_goals simp only [x0_I, x0_Z, x0_A]
theorem f0_X3_noteLine  (S : gSt) : (sp_X3_noteLine S).2.1 0 = S.1 0 := by
  unfold sp_X3_noteLine
  try simp only [gB, gL]
  repeat' split
  all_goals (try rfl)
  all_goals simp only [x0_I, x0_Z, x0_A]
theorem f0_X3_lineCounter  (S : gSt) : (sp_X3_lineCounter S).2.1 0 = S.1 0 := by
  unfold sp_X3_lineCounter
  try simp only [gB, gL]
  repeat' split
  all_goals (try rfl)
  all_goals simp only [x0_I, x0_Z, x0_A]
theorem f0_X3_setRegister (a0 : Int32) (a1 : Int32) (S : gSt) : (sp_X3_setRegister a0 a1 S).2.1 0 = S.1 0 := by
  unfold sp_X3_setRegister
  try simp only [gB, gL]
  repeat' split
  all_goals (try rfl)
  all_goals simp only [x0_I, x0_Z, x0_A]
theorem f0_X3_mapRom  (S : gSt) : (sp_X3_mapRom S).2.1 0 = S.1 0 := by
  unfold sp_X3_mapRom
  try simp only [gB, gL]
  repeat' split
  all_goals (try rfl)
  all_goals simp only [x0_I, x0_Z, x0_A, f0_X1_setRomBanks]
theorem f0_X3_mapChr  (S : gSt) : (sp_X3_mapChr S).2.1 0 = S.1 0 := by
  unfold sp_X3_mapChr
  try simp only [gB, gL]
  repeat' split
  all_goals (try rfl)
  all_goals simp only [x0_I, x0_Z, x0_A, f0_X1_setFourChrBanks]
theorem f0_X3_storeRegister (a0 : Int32) (a1 : Int32) (S : gSt) : (sp_X3_storeRegister a0 a1 S).2.1 0 = S.1 0 := by
  unfold sp_X3_storeRegister
  try simp only [gB, gL]
  repeat' split
  all_goals (try rfl)
  all_goals simp only [x0_I, x0_Z, x0_A, f0_X3_forgetShifted, f0_X3_setRegister, f0_X3_mapRom, f0_X3_mapChr]
theorem f0_X4_forgetShifted  (S : gSt) : (sp_X4_forgetShifted S).2.1 0 = S.1 0 := by
  unfold sp_X4_forgetShifted
  try simp only [gB, gL]
  repeat' split
  all_goals (try rfl)
  all_goals simp only [x0_I, x0_Z, x0_A]
theorem f0_X4_noteLine  (S : gSt) : (sp_X4_noteLine S).2.1 0 = S.1 0 := by
  unfold sp_X4_noteLine
  try simp only [gB, gL]
  repeat' split
  all_goals (try rfl)
  all_goals simp only [x0_I, x0_Z, x0_A]
theorem f0_X4_lineCounter  (S : gSt) : (sp_X4_lineCounter S).2.1 0 = S.1 0 := by
  unfold sp_X4_lineCounter
  try simp only [gB, gL]
  repeat' split
  all_goals (try rfl)
  all_goals simp only [x0_I, x0_Z, x0_A]
theorem f0_X4_mapRom  (S : gSt) : (sp_X4_mapRom S).2.1 0 = S.1 0 := by
  unfold sp_X4_mapRom
  try simp only [gB, gL]
  repeat' split
  all_goals (try rfl)
  all_goals simp only [x0_I, x0_Z, x0_A, f0_X1_setRomBanks]
theorem f0_X4_mapChr  (S : gSt) : (sp_X4_mapChr S).2.1 0 = S.1 0 := by
  unfold sp_X4_mapChr
  try simp only [gB, gL]
  repeat' split
  all_goals (try rfl)
  all_goals simp only [x0_I, x0_Z, x0_A, f0_X1_setFourChrBanks]
theorem f0_X4_storeRegister (a0 : Int32) (a1 : Int32) (S : gSt) : (sp_X4_storeRegister a0 a1 S).2.1 0 = S.1 0 := by
  unfold sp_X4_storeRegister
  try simp only [gB, gL]
  repeat' split
  all_goals (try rfl)
  all_goals simp only [x0_I, x0_Z, x0_A, f0_X4_mapRom, f0_X4_mapChr]
theorem f0_K_storeRegister (k : Bool) (a0 : Int32) (a1 : Int32) (S : gSt) : (sp_K_storeRegister k a0 a1 S).2.1 0 = S.1 0 := by
  unfold sp_K_storeRegister
  try simp only [gB, gL]
  repeat' split
  all_goals (try rfl)
  all_goals simp only [x0_I, x0_Z, x0_A, f0_X3_storeRegister, f0_X4_storeRegister]
theorem f0_K_noteLine (k : Bool)  (S : gSt) : (sp_K_noteLine k S).2.1 0 = S.1 0 := by
  unfold sp_K_noteLine
  try simp only [gB, gL]
  repeat' split
  all_goals (try rfl)
  all_goals simp only [x0_I, x0_Z, x0_A, f0_X3_noteLine, f0_X4_noteLine]
theorem f0_K_forgetShifted (k : Bool)  (S : gSt) : (sp_K_forgetShifted k S).2.1 0 = S.1 0 := by
  unfold sp_K_forgetShifted
  try simp only [gB, gL]
  repeat' split
  all_goals (try rfl)
  all_goals simp only [x0_I, x0_Z, x0_A, f0_X3_forgetShifted, f0_X4_forgetShifted]
theorem f0_K_lineCounter (k : Bool)  (S : gSt) : (sp_K_lineCounter k S).2.1 0 = S.1 0 := by
  unfold sp_K_lineCounter
  try simp only [gB, gL]
  repeat' split
  all_goals (try rfl)
  all_goals simp only [x0_I, x0_Z, x0_A, f0_X3_lineCounter, f0_X4_lineCounter]
theorem f0_X6_setStrobe (k : Bool) (a0 : Bool) (S : gSt) : (sp_X6_setStrobe k a0 S).2.1 0 = S.1 0 := by
  unfold sp_X6_setStrobe
  try simp only [gB, gL]
  repeat' split
  all_goals (try rfl)
  all_goals simp only [x0_I, x0_Z, x0_A]
theorem f0_X6_nextBit (k : Bool) (a0 : Int32) (S : gSt) : (sp_X6_nextBit k a0 S).2.1 0 = S.1 0 := by
  unfold sp_X6_nextBit
  try simp only [gB, gL]
  repeat' split
  all_goals (try rfl)
  all_goals simp only [x0_I, x0_Z, x0_A]
theorem f0_lp_X8_countLengths_2 (k : Bool) (n : Nat) : ∀ (x0 : Int32) (S : gSt), (lp_X8_countLengths_2 k n x0 S).2.1 0 = S.1 0 := by
  induction n with
  | zero => intros; rfl
  | succ n ih =>
    intro x0 S
    rw [lp_X8_countLengths_2]
    try simp only [gB, gL]
    repeat' split
    all_goals (try rfl)
    all_goals simp only [ih, x0_I, x0_Z, x0_A]
theorem f0_X8_countLengths (k : Bool)  (S : gSt) : (sp_X8_countLengths k S).2.1 0 = S.1 0 := by
  unfold sp_X8_countLengths
  try simp only [gB, gL]
  repeat' split
  all_goals (try rfl)
  all_goals simp only [x0_I, x0_Z, x0_A, f0_lp_X8_countLengths_2]
theorem f0_lp_X8_enable_7 (k : Bool) (n : Nat) : ∀ (x0 : Int32) (x1 : Int32) (S : gSt), (lp_X8_enable_7 k n x0 x1 S).2.1 0 = S.1 0 := by
  induction n with
  | zero => intros; rfl
  | succ n ih =>
    intro x0 x1 S
    rw [lp_X8_enable_7]
    try simp only [gB, gL]
    repeat' split
    all_goals (try rfl)
    all_goals simp only [ih, x0_I, x0_Z, x0_A]
theorem f0_X8_enable (k : Bool) (a0 : Int32) (S : gSt) : (sp_X8_enable k a0 S).2.1 0 = S.1 0 := by
  unfold sp_X8_enable
  try simp only [gB, gL]
  repeat' split
  all_goals (try rfl)
  all_goals simp only [x0_I, x0_Z, x0_A, f0_lp_X8_enable_7]
theorem f0_X8_restart (k : Bool)  (S : gSt) : (sp_X8_restart k S).2.1 0 = S.1 0 := by
  unfold sp_X8_restart
  try simp only [gB, gL]
  repeat' split
  all_goals (try rfl)
  all_goals simp only [x0_I, x0_Z, x0_A, f0_X8_enable]
theorem f0_lp_X8_loadStatus_21 (k : Bool) (n : Nat) : ∀ (x0 : Int32) (x1 : Int32) (S : gSt), (lp_X8_loadStatus_21 k n x0 x1 S).2.1 0 = S.1 0 := by
  induction n with
  | zero => intros; rfl
  | succ n ih =>
    intro x0 x1 S
    rw [lp_X8_loadStatus_21]
    try simp only [gB, gL]
    repeat' split
    all_goals (try rfl)
    all_goals simp only [ih, x0_I, x0_Z, x0_A]
theorem f0_X8_loadStatus (k : Bool)  (S : gSt) : (sp_X8_loadStatus k S).2.1 0 = S.1 0 := by
  unfold sp_X8_loadStatus
  try simp only [gB, gL]
  repeat' split
  all_goals (try rfl)
  all_goals simp only [x0_I, x0_Z, x0_A, f0_lp_X8_loadStatus_21]
theorem f0_X8_restartFrame (k : Bool) (a0 : Int32) (S : gSt) : (sp_X8_restartFrame k a0 S).2.1 0 = S.1 0 := by
  unfold sp_X8_restartFrame
  try simp only [gB, gL]
  repeat' split
  all_goals (try rfl)
  all_goals simp only [x0_I, x0_Z, x0_A, f0_X8_countLengths]
theorem f0_X8_storeChannel (k : Bool) (a0 : Int32) (a1 : Int32) (a2 : Int32) (S : gSt) : (sp_X8_storeChannel k a0 a1 a2 S).2.1 0 = S.1 0 := by
  unfold sp_X8_storeChannel
  try simp only [gB, gL]
  repeat' split
  all_goals (try rfl)
  all_goals simp only [x0_I, x0_Z, x0_A]
theorem f0_X8_store (k : Bool) (a0 : Int32) (a1 : Int32) (S : gSt) : (sp_X8_store k a0 a1 S).2.1 0 = S.1 0 := by
  unfold sp_X8_store
  try simp only [gB, gL]
  repeat' split
  all_goals (try rfl)
  all_goals simp only [x0_I, x0_Z, x0_A, f0_X8_enable, f0_X8_restartFrame, f0_X8_storeChannel]
theorem f0_X8_frameEnd (k : Bool)  (S : gSt) : (sp_X8_frameEnd k S).2.1 0 = S.1 0 := by
  unfold sp_X8_frameEnd
  try simp only [gB, gL]
  repeat' split
  all_goals (try rfl)
  all_goals simp only [x0_I, x0_Z, x0_A]
theorem f0_X8_nextMark (k : Bool)  (S : gSt) : (sp_X8_nextMark k S).2.1 0 = S.1 0 := by
  unfold sp_X8_nextMark
  try simp only [gB, gL]
  repeat' split
  all_goals (try rfl)
  all_goals simp only [x0_I, x0_Z, x0_A, f0_X8_frameEnd]
theorem f0_X8_comeToMark (k : Bool)  (S : gSt) : (sp_X8_comeToMark k S).2.1 0 = S.1 0 := by
  unfold sp_X8_comeToMark
  try simp only [gB, gL]
  repeat' split
  all_goals (try rfl)
  all_goals simp only [x0_I, x0_Z, x0_A, f0_X8_countLengths, f0_X8_frameEnd]
theorem f0_lp_X8_advance_4 (k : Bool) (n : Nat) : ∀ (x0 : Int32) (x1 : Int32) (x2 : Int32) (S : gSt), (lp_X8_advance_4 k n x0 x1 x2 S).2.1 0 = S.1 0 := by
  induction n with
  | zero => intros; rfl
  | succ n ih =>
    intro x0 x1 x2 S
    rw [lp_X8_advance_4]
    try simp only [gB, gL]
    repeat' split
    all_goals (try rfl)
    all_goals simp only [ih, x0_I, x0_Z, x0_A, f0_X8_nextMark, f0_X8_comeToMark]
theorem f0_X8_advance (k : Bool) (a0 : Int32) (S : gSt) : (sp_X8_advance k a0 S).2.1 0 = S.1 0 := by
  unfold sp_X8_advance
  try simp only [gB, gL]
  repeat' split
  all_goals (try rfl)
  all_goals simp only [x0_I, x0_Z, x0_A, f0_lp_X8_advance_4]
theorem f0_X7_restart (k : Bool)  (S : gSt) : (sp_X7_restart k S).2.1 0 = S.1 0 := by
  unfold sp_X7_restart
  try simp only [gB, gL]
  repeat' split
  all_goals (try rfl)
  all_goals simp only [x0_I, x0_Z, x0_A]
theorem f0_X7_takeNmi (k : Bool)  (S : gSt) : (sp_X7_takeNmi k S).2.1 0 = S.1 0 := by
  unfold sp_X7_takeNmi
  try simp only [gB, gL]
  repeat' split
  all_goals (try rfl)
  all_goals simp only [x0_I, x0_Z, x0_A]
theorem f0_X7_storeControl (k : Bool) (a0 : Int32) (S : gSt) : (sp_X7_storeControl k a0 S).2.1 0 = S.1 0 := by
  unfold sp_X7_storeControl
  try simp only [gB, gL]
  repeat' split
  all_goals (try rfl)
  all_goals simp only [x0_I, x0_Z, x0_A]
theorem f0_X7_storeScroll (k : Bool) (a0 : Int32) (S : gSt) : (sp_X7_storeScroll k a0 S).2.1 0 = S.1 0 := by
  unfold sp_X7_storeScroll
  try simp only [gB, gL]
  repeat' split
  all_goals (try rfl)
  all_goals simp only [x0_I, x0_Z, x0_A]
theorem f0_X7_storeAddress (k : Bool) (a0 : Int32) (S : gSt) : (sp_X7_storeAddress k a0 S).2.1 0 = S.1 0 := by
  unfold sp_X7_storeAddress
  try simp only [gB, gL]
  repeat' split
  all_goals (try rfl)
  all_goals simp only [x0_I, x0_Z, x0_A]
theorem f0_X7_growV (k : Bool)  (S : gSt) : (sp_X7_growV k S).2.1 0 = S.1 0 := by
  unfold sp_X7_growV
  try simp only [gB, gL]
  repeat' split
  all_goals (try rfl)
  all_goals simp only [x0_I, x0_Z, x0_A]
theorem f0_X7_nameTablePlace (k : Bool) (a0 : Int32) (S : gSt) : (sp_X7_nameTablePlace k a0 S).2.1 0 = S.1 0 := by
  unfold sp_X7_nameTablePlace
  try simp only [gB, gL]
  repeat' split
  all_goals (try rfl)
  all_goals simp only [x0_I, x0_Z, x0_A]
theorem f0_X7_palettePlace (k : Bool) (a0 : Int32) (S : gSt) : (sp_X7_palettePlace k a0 S).2.1 0 = S.1 0 := by
  unfold sp_X7_palettePlace
  try simp only [gB, gL]
  repeat' split
  all_goals (try rfl)
  all_goals simp only [x0_I, x0_Z, x0_A]
theorem f0_X7_byteAt (k : Bool) (a0 : Int32) (S : gSt) : (sp_X7_byteAt k a0 S).2.1 0 = S.1 0 := by
  unfold sp_X7_byteAt
  try simp only [gB, gL]
  repeat' split
  all_goals (try rfl)
  all_goals simp only [x0_I, x0_Z, x0_A, f0_X1_chrByte, f0_X7_nameTablePlace, f0_X7_palettePlace]
theorem f0_X7_storeByte (k : Bool) (a0 : Int32) (a1 : Int32) (S : gSt) : (sp_X7_storeByte k a0 a1 S).2.1 0 = S.1 0 := by
  unfold sp_X7_storeByte
  try simp only [gB, gL]
  repeat' split
  all_goals (try rfl)
  all_goals simp only [x0_I, x0_Z, x0_A, f0_X7_nameTablePlace, f0_X7_palettePlace]
theorem f0_X7_load (k : Bool) (a0 : Int32) (S : gSt) : (sp_X7_load k a0 S).2.1 0 = S.1 0 := by
  unfold sp_X7_load
  try simp only [gB, gL]
  repeat' split
  all_goals (try rfl)
  all_goals simp only [x0_I, x0_Z, x0_A, f0_X7_growV, f0_X7_nameTablePlace, f0_X7_byteAt]
theorem f0_X7_store (k : Bool) (a0 : Int32) (a1 : Int32) (S : gSt) : (sp_X7_store k a0 a1 S).2.1 0 = S.1 0 := by
  unfold sp_X7_store
  try simp only [gB, gL]
  repeat' split
  all_goals (try rfl)
  all_goals simp only [x0_I, x0_Z, x0_A, f0_X7_storeControl, f0_X7_storeScroll, f0_X7_storeAddress, f0_X7_growV, f0_X7_storeByte]
theorem f0_X7_comeToDotOne (k : Bool)  (S : gSt) : (sp_X7_comeToDotOne k S).2.1 0 = S.1 0 := by
  unfold sp_X7_comeToDotOne
  try simp only [gB, gL]
  repeat' split
  all_goals (try rfl)
  all_goals simp only [x0_I, x0_Z, x0_A]
theorem f0_X7_tellLine (k : Bool)  (S : gSt) : (sp_X7_tellLine k S).2.1 0 = S.1 0 := by
  unfold sp_X7_tellLine
  try simp only [gB, gL]
  repeat' split
  all_goals (try rfl)
  all_goals simp only [x0_I, x0_Z, x0_A, f0_K_noteLine]
theorem f0_lp_X7_advance_4 (k : Bool) (n : Nat) : ∀ (x0 : Int32) (x1 : Int32) (x2 : Int32) (S : gSt), (lp_X7_advance_4 k n x0 x1 x2 S).2.1 0 = S.1 0 := by
  induction n with
  | zero => intros; rfl
  | succ n ih =>
    intro x0 x1 x2 S
    rw [lp_X7_advance_4]
    generalize (if (341 - (S.1 22)) < x1 then (341 - (S.1 22)) else x1) = d
    try simp only [gB, gL]
    repeat' split
    all_goals (try rfl)
    all_goals simp only [ih, x0_I, x0_Z, x0_A, f0_X7_comeToDotOne, f0_X7_tellLine]
theorem f0_X7_advance (k : Bool) (a0 : Int32) (S : gSt) : (sp_X7_advance k a0 S).2.1 0 = S.1 0 := by
  unfold sp_X7_advance
  try simp only [gB, gL]
  repeat' split
  all_goals (try rfl)
  all_goals simp only [x0_I, x0_Z, x0_A, f0_lp_X7_advance_4]
theorem f0_X0_loadInput (k : Bool) (a0 : Int32) (S : gSt) : (sp_X0_loadInput k a0 S).2.1 0 = S.1 0 := by
  unfold sp_X0_loadInput
  try simp only [gB, gL]
  repeat' split
  all_goals (try rfl)
  all_goals simp only [x0_I, x0_Z, x0_A, f0_X6_nextBit, f0_X8_loadStatus]
theorem f0_X0_load (k : Bool) (a0 : Int32) (S : gSt) : (sp_X0_load k a0 S).2.1 0 = S.1 0 := by
  unfold sp_X0_load
  try simp only [gB, gL]
  repeat' split
  all_goals (try rfl)
  all_goals simp only [x0_I, x0_Z, x0_A, f0_X1_romByte, f0_X7_load, f0_X0_loadInput]
theorem f0_X0_store (k : Bool) (a0 : Int32) (a1 : Int32) (S : gSt) : (sp_X0_store k a0 a1 S).2.1 0 = S.1 0 := by
  unfold sp_X0_store
  try simp only [gB, gL]
  repeat' split
  all_goals (try rfl)
  all_goals simp only [x0_I, x0_Z, x0_A, f0_K_storeRegister, f0_X6_setStrobe, f0_X8_store, f0_X7_store]
theorem f0_lp_X0_copyPageAsked_25 (k : Bool) (n : Nat) : ∀ (x0 : Int32) (x1 : Int32) (x2 : Int32) (S : gSt), (lp_X0_copyPageAsked_25 k n x0 x1 x2 S).2.1 0 = S.1 0 := by
  induction n with
  | zero => intros; rfl
  | succ n ih =>
    intro x0 x1 x2 S
    rw [lp_X0_copyPageAsked_25]
    try simp only [gB, gL]
    repeat' split
    all_goals (try rfl)
    all_goals simp only [ih, x0_I, x0_Z, x0_A, f0_X7_store, f0_X0_load]
theorem f0_X0_copyPageAsked (k : Bool) (a0 : Int32) (S : gSt) : (sp_X0_copyPageAsked k a0 S).2.1 0 = S.1 0 := by
  unfold sp_X0_copyPageAsked
  try simp only [gB, gL]
  repeat' split
  all_goals skip
  all_goals try simp only [x0_I, x0_Z, x0_A, f0_lp_X0_copyPageAsked_25]
theorem f0_X0_storeStack (k : Bool) (a0 : Int32) (a1 : Int32) (S : gSt) : (sp_X0_storeStack k a0 a1 S).2.1 0 = S.1 0 := by
  unfold sp_X0_storeStack
  try simp only [gB, gL]
  repeat' split
  all_goals (try rfl)
  all_goals simp only [x0_I, x0_Z, x0_A]
theorem f0_X0_loadStack (k : Bool) (a0 : Int32) (S : gSt) : (sp_X0_loadStack k a0 S).2.1 0 = S.1 0 := by
  unfold sp_X0_loadStack
  try simp only [gB, gL]
  repeat' split
  all_goals (try rfl)
  all_goals simp only [x0_I, x0_Z, x0_A]
theorem f0_X0_vector (k : Bool) (a0 : Int32) (S : gSt) : (sp_X0_vector k a0 S).2.1 0 = S.1 0 := by
  unfold sp_X0_vector
  try simp only [gB, gL]
  repeat' split
  all_goals (try rfl)
  all_goals simp only [x0_I, x0_Z, x0_A, f0_X1_romByte]
theorem f0_X2_setFlag (k : Bool) (a0 : Int32) (a1 : Bool) (S : gSt) : (sp_X2_setFlag k a0 a1 S).2.1 0 = S.1 0 := by
  unfold sp_X2_setFlag
  try simp only [gB, gL]
  repeat' split
  all_goals (try rfl)
  all_goals simp only [x0_I, x0_Z, x0_A]
theorem f0_X2_judged (k : Bool) (a0 : Int32) (S : gSt) : (sp_X2_judged k a0 S).2.1 0 = S.1 0 := by
  unfold sp_X2_judged
  try simp only [gB, gL]
  repeat' split
  all_goals (try rfl)
  all_goals simp only [x0_I, x0_Z, x0_A, f0_X2_setFlag]
theorem f0_X2_push (k : Bool) (a0 : Int32) (S : gSt) : (sp_X2_push k a0 S).2.1 0 = S.1 0 := by
  unfold sp_X2_push
  try simp only [gB, gL]
  repeat' split
  all_goals (try rfl)
  all_goals simp only [x0_I, x0_Z, x0_A, f0_X0_storeStack]
theorem f0_X2_pushWord (k : Bool) (a0 : Int32) (S : gSt) : (sp_X2_pushWord k a0 S).2.1 0 = S.1 0 := by
  unfold sp_X2_pushWord
  try simp only [gB, gL]
  repeat' split
  all_goals (try rfl)
  all_goals simp only [x0_I, x0_Z, x0_A, f0_X2_push]
theorem f0_X2_pull (k : Bool)  (S : gSt) : (sp_X2_pull k S).2.1 0 = S.1 0 := by
  unfold sp_X2_pull
  try simp only [gB, gL]
  repeat' split
  all_goals (try rfl)
  all_goals simp only [x0_I, x0_Z, x0_A, f0_X0_loadStack]
theorem f0_X2_pullWord (k : Bool)  (S : gSt) : (sp_X2_pullWord k S).2.1 0 = S.1 0 := by
  unfold sp_X2_pullWord
  try simp only [gB, gL]
  repeat' split
  all_goals (try rfl)
  all_goals simp only [x0_I, x0_Z, x0_A, f0_X2_pull]
theorem f0_X2_pullFlags (k : Bool)  (S : gSt) : (sp_X2_pullFlags k S).2.1 0 = S.1 0 := by
  unfold sp_X2_pullFlags
  try simp only [gB, gL]
  repeat' split
  all_goals (try rfl)
  all_goals simp only [x0_I, x0_Z, x0_A, f0_X2_pull]
theorem f0_X2_enter (k : Bool) (a0 : Int32) (a1 : Int32) (a2 : Int32) (S : gSt) : (sp_X2_enter k a0 a1 a2 S).2.1 0 = S.1 0 := by
  unfold sp_X2_enter
  try simp only [gB, gL]
  repeat' split
  all_goals (try rfl)
  all_goals simp only [x0_I, x0_Z, x0_A, f0_X0_vector, f0_X2_push, f0_X2_pushWord]
theorem f0_X2_restart (k : Bool)  (S : gSt) : (sp_X2_restart k S).2.1 0 = S.1 0 := by
  unfold sp_X2_restart
  try simp only [gB, gL]
  repeat' split
  all_goals (try rfl)
  all_goals simp only [x0_I, x0_Z, x0_A, f0_X0_vector]
theorem f0_X2_fetch (k : Bool)  (S : gSt) : (sp_X2_fetch k S).2.1 0 = S.1 0 := by
  unfold sp_X2_fetch
  try simp only [gB, gL]
  repeat' split
  all_goals (try rfl)
  all_goals simp only [x0_I, x0_Z, x0_A, f0_X0_load]
theorem f0_X2_fetchOperand (k : Bool) (a0 : Int32) (S : gSt) : (sp_X2_fetchOperand k a0 S).2.1 0 = S.1 0 := by
  unfold sp_X2_fetchOperand
  try simp only [gB, gL]
  repeat' split
  all_goals (try rfl)
  all_goals simp only [x0_I, x0_Z, x0_A, f0_X2_fetch]
theorem f0_X2_wordWithinPage (k : Bool) (a0 : Int32) (S : gSt) : (sp_X2_wordWithinPage k a0 S).2.1 0 = S.1 0 := by
  unfold sp_X2_wordWithinPage
  try simp only [gB, gL]
  repeat' split
  all_goals (try rfl)
  all_goals simp only [x0_I, x0_Z, x0_A, f0_X0_load]
theorem f0_X2_otherPage (k : Bool) (a0 : Int32) (a1 : Int32) (S : gSt) : (sp_X2_otherPage k a0 a1 S).2.1 0 = S.1 0 := by
  unfold sp_X2_otherPage
  try simp only [gB, gL]
  repeat' split
  all_goals (try rfl)
  all_goals simp only [x0_I, x0_Z, x0_A]
theorem f0_X2_indexed (k : Bool) (a0 : Int32) (a1 : Int32) (S : gSt) : (sp_X2_indexed k a0 a1 S).2.1 0 = S.1 0 := by
  unfold sp_X2_indexed
  try simp only [gB, gL]
  repeat' split
  all_goals (try rfl)
  all_goals simp only [x0_I, x0_Z, x0_A, f0_X2_otherPage]
theorem f0_X2_addressOf (k : Bool) (a0 : Int32) (a1 : Int32) (S : gSt) : (sp_X2_addressOf k a0 a1 S).2.1 0 = S.1 0 := by
  unfold sp_X2_addressOf
  try simp only [gB, gL]
  repeat' split
  all_goals (try rfl)
  all_goals simp only [x0_I, x0_Z, x0_A, f0_X2_wordWithinPage, f0_X2_indexed]
theorem f0_X2_add (k : Bool) (a0 : Int32) (S : gSt) : (sp_X2_add k a0 S).2.1 0 = S.1 0 := by
  unfold sp_X2_add
  try simp only [gB, gL]
  repeat' split
  all_goals (try rfl)
  all_goals simp only [x0_I, x0_Z, x0_A, f0_X2_setFlag, f0_X2_judged]
theorem f0_X2_compare (k : Bool) (a0 : Int32) (a1 : Int32) (S : gSt) : (sp_X2_compare k a0 a1 S).2.1 0 = S.1 0 := by
  unfold sp_X2_compare
  try simp only [gB, gL]
  repeat' split
  all_goals (try rfl)
  all_goals simp only [x0_I, x0_Z, x0_A, f0_X2_setFlag, f0_X2_judged]
theorem f0_X2_testBits (k : Bool) (a0 : Int32) (S : gSt) : (sp_X2_testBits k a0 S).2.1 0 = S.1 0 := by
  unfold sp_X2_testBits
  try simp only [gB, gL]
  repeat' split
  all_goals (try rfl)
  all_goals simp only [x0_I, x0_Z, x0_A, f0_X2_setFlag]
theorem f0_X2_combine (k : Bool) (a0 : Int32) (a1 : Int32) (S : gSt) : (sp_X2_combine k a0 a1 S).2.1 0 = S.1 0 := by
  unfold sp_X2_combine
  try simp only [gB, gL]
  repeat' split
  all_goals (try rfl)
  all_goals simp only [x0_I, x0_Z, x0_A, f0_X2_judged, f0_X2_add, f0_X2_compare, f0_X2_testBits]
theorem f0_X2_stored (k : Bool) (a0 : Int32) (S : gSt) : (sp_X2_stored k a0 S).2.1 0 = S.1 0 := by
  unfold sp_X2_stored
  try simp only [gB, gL]
  repeat' split
  all_goals (try rfl)
  all_goals simp only [x0_I, x0_Z, x0_A]
theorem f0_X2_shiftedUp (k : Bool) (a0 : Int32) (a1 : Int32) (S : gSt) : (sp_X2_shiftedUp k a0 a1 S).2.1 0 = S.1 0 := by
  unfold sp_X2_shiftedUp
  try simp only [gB, gL]
  repeat' split
  all_goals (try rfl)
  all_goals simp only [x0_I, x0_Z, x0_A, f0_X2_setFlag, f0_X2_judged]
theorem f0_X2_shiftedDown (k : Bool) (a0 : Int32) (a1 : Int32) (S : gSt) : (sp_X2_shiftedDown k a0 a1 S).2.1 0 = S.1 0 := by
  unfold sp_X2_shiftedDown
  try simp only [gB, gL]
  repeat' split
  all_goals (try rfl)
  all_goals simp only [x0_I, x0_Z, x0_A, f0_X2_setFlag, f0_X2_judged]
theorem f0_X2_changed (k : Bool) (a0 : Int32) (a1 : Int32) (S : gSt) : (sp_X2_changed k a0 a1 S).2.1 0 = S.1 0 := by
  unfold sp_X2_changed
  try simp only [gB, gL]
  repeat' split
  all_goals (try rfl)
  all_goals simp only [x0_I, x0_Z, x0_A, f0_X2_judged, f0_X2_shiftedUp, f0_X2_shiftedDown]
theorem f0_X2_change (k : Bool) (a0 : Int32) (a1 : Int32) (a2 : Int32) (S : gSt) : (sp_X2_change k a0 a1 a2 S).2.1 0 = S.1 0 := by
  unfold sp_X2_change
  try simp only [gB, gL]
  repeat' split
  all_goals (try rfl)
  all_goals simp only [x0_I, x0_Z, x0_A, f0_X0_load, f0_X0_store, f0_X2_changed]
theorem f0_X2_branchTaken (k : Bool) (a0 : Int32) (S : gSt) : (sp_X2_branchTaken k a0 S).2.1 0 = S.1 0 := by
  unfold sp_X2_branchTaken
  try simp only [gB, gL]
  repeat' split
  all_goals (try rfl)
  all_goals simp only [x0_I, x0_Z, x0_A]
theorem f0_X2_branch (k : Bool) (a0 : Int32) (a1 : Int32) (S : gSt) : (sp_X2_branch k a0 a1 S).2.1 0 = S.1 0 := by
  unfold sp_X2_branch
  try simp only [gB, gL]
  repeat' split
  all_goals (try rfl)
  all_goals simp only [x0_I, x0_Z, x0_A, f0_X2_otherPage, f0_X2_branchTaken]
theorem f0_X2_changeRegister (k : Bool) (a0 : Int32) (S : gSt) : (sp_X2_changeRegister k a0 S).2.1 0 = S.1 0 := by
  unfold sp_X2_changeRegister
  try simp only [gB, gL]
  repeat' split
  all_goals (try rfl)
  all_goals simp only [x0_I, x0_Z, x0_A, f0_X2_judged]
theorem f0_X2_changeFlag (k : Bool) (a0 : Int32) (S : gSt) : (sp_X2_changeFlag k a0 S).2.1 0 = S.1 0 := by
  unfold sp_X2_changeFlag
  try simp only [gB, gL]
  repeat' split
  all_goals (try rfl)
  all_goals simp only [x0_I, x0_Z, x0_A, f0_X2_setFlag]
theorem f0_X2_useStack (k : Bool) (a0 : Int32) (S : gSt) : (sp_X2_useStack k a0 S).2.1 0 = S.1 0 := by
  unfold sp_X2_useStack
  try simp only [gB, gL]
  repeat' split
  all_goals (try rfl)
  all_goals simp only [x0_I, x0_Z, x0_A, f0_X2_judged, f0_X2_push, f0_X2_pull, f0_X2_pullFlags]
theorem f0_X2_jump (k : Bool) (a0 : Int32) (a1 : Int32) (S : gSt) : (sp_X2_jump k a0 a1 S).2.1 0 = S.1 0 := by
  unfold sp_X2_jump
  try simp only [gB, gL]
  repeat' split
  all_goals (try rfl)
  all_goals simp only [x0_I, x0_Z, x0_A, f0_X2_pushWord, f0_X2_pullWord, f0_X2_pullFlags, f0_X2_enter]
theorem f0_X2_perform (k : Bool) (a0 : Int32) (a1 : Int32) (a2 : Int32) (S : gSt) : (sp_X2_perform k a0 a1 a2 S).2.1 0 = S.1 0 := by
  unfold sp_X2_perform
  try simp only [gB, gL]
  repeat' split
  all_goals (try rfl)
  all_goals simp only [x0_I, x0_Z, x0_A, f0_X0_load, f0_X0_store, f0_X2_combine, f0_X2_stored, f0_X2_change, f0_X2_branch, f0_X2_changeRegister, f0_X2_changeFlag, f0_X2_useStack, f0_X2_jump]
theorem f0_X2_takeStep (k : Bool) (a0 : Bool) (a1 : Bool) (S : gSt) : (sp_X2_takeStep k a0 a1 S).2.1 0 = S.1 0 := by
  unfold sp_X2_takeStep
  try simp only [gB, gL]
  repeat' split
  all_goals (try rfl)
  all_goals simp only [x0_I, x0_Z, x0_A, f0_X2_enter, f0_X2_fetch, f0_X2_fetchOperand, f0_X2_addressOf, f0_X2_perform]
theorem f0_X9_irqLines (k : Bool)  (S : gSt) : (sp_X9_irqLines k S).2.1 0 = S.1 0 := by
  unfold sp_X9_irqLines
  try simp only [gB, gL]
  repeat' split
  all_goals (try rfl)
  all_goals simp only [x0_I, x0_Z, x0_A]
theorem f0_X9_read (k : Bool) (a0 : Int32) (S : gSt) : (sp_X9_read k a0 S).2.1 0 = S.1 0 := by
  unfold sp_X9_read
  try simp only [gB, gL]
  repeat' split
  all_goals (try rfl)
  all_goals simp only [x0_I, x0_Z, x0_A, f0_X0_load]
theorem f0_X9_memory (k : Bool) (a0 : Int32) (S : gSt) : (sp_X9_memory k a0 S).2.1 0 = S.1 0 := by
  unfold sp_X9_memory
  try simp only [gB, gL]
  repeat' split
  all_goals (try rfl)
  all_goals simp only [x0_I, x0_Z, x0_A, f0_X7_byteAt]
theorem f0_cStep (k : Bool) (S : gSt) : (cStep k S).2.1 0 = S.1 0 := by
  unfold cStep
  split <;> exact f0_X2_takeStep k _ _ (sZ S 2 false)
end PW
