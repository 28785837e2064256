/-! floats: the values that occur, checked one by one -/
def nn (x : UInt32) : Bool := decide (x &&& 0x7fffffff ≤ 0x7f800000)
/-- the speeds that a map can hold: the first ones, and those that the law sets -/
def FV : List UInt32 := [0, 0x40a00000, 0x41000000, 0x41200000, 0x41400000, 0x41700000, 0x41a00000, 0x41f00000, 0x42080000, 0x42200000, 0x42340000, 0x42480000, 0x424c0000, 0x42700000, 0x42780000, 0x42960000, 0x42b40000, 0x42c80000, 0x42dc0000, 0x43020000, 0x43160000, 0x43340000, 0x43520000, 0x43960000]
def FS : List UInt32 := [0, 0x41200000, 0x41a00000, 0x42080000, 0x42480000, 0x424c0000, 0x42780000, 0x42b40000, 0x42c80000, 0x43160000, 0x43520000, 0x43960000]
def FPd : List UInt32 := [0, 0x3e800000, 0x3f000000, 0x3f733333, 0x3f800000]
theorem FS_FV : ∀ x ∈ FS, x ∈ FV := by decide +kernel
def fcl (a b : UInt32) : Int32 := Op.cmpValue (FP.fcmp a b) CmpOp.l
def fcg (a b : UInt32) : Int32 := Op.cmpValue (FP.fcmp a b) CmpOp.g
theorem fp_self : ∀ x ∈ FS, fcl x x = 0 := by decide +kernel
theorem fp_tot : ∀ x ∈ FS, ∀ y ∈ FV, (fcl x y ≤ 0 → ¬ fcl y x < 0) ∧ (¬ fcl x y ≤ 0 → ¬ 0 ≤ fcg y x) := by decide +kernel
theorem fp_up : ∀ lo ∈ FV, ∀ hi ∈ FV, nn (FP.fsub hi lo) = true ∧ ∀ p ∈ FPd, nn (FP.fmul (FP.fsub hi lo) p) = true ∧ nn (FP.fadd lo (FP.fmul (FP.fsub hi lo) p)) = true := by decide +kernel
theorem fp_of : ∀ k ∈ ([0, 1, 2, 3, 4, 5, 6, 7, 8, 9, 10, 11] : List Int32), mf_X5_floatOf (mf_L_speed k) = some (mf_L_fast k) ∧ mf_L_fast k ∈ FS ∧ mf_X5_isSpeed (mf_L_speed k) = 1 := by decide +kernel
theorem fp_ofp : ∀ k ∈ ([0, 1, 2, 3, 4] : List Int32), mf_X5_floatOf (mf_L_pedal k) = some (mf_L_deep k) ∧ mf_L_deep k ∈ FPd ∧ mf_X5_isPedal (mf_L_pedal k) = 1 := by decide +kernel
