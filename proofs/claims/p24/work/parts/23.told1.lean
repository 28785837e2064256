theorem fcl_00 : Op.cmpValue (FP.fcmp FP.fconst0 FP.fconst0) CmpOp.l = 0 := by decide +kernel
theorem fcl_11 : Op.cmpValue (FP.fcmp FP.fconst1 FP.fconst1) CmpOp.l = 0 := by decide +kernel
theorem b141_0 (V : CarV) (z1 z2 z3 z4 z5 : Int32) (z6 y0 : UInt32) : mf_L_told_B141_0 V z1 z2 z3 z4 z5 z6 y0 = mf_L_told_B158_0 V z1 z2 z3 z4 z5 y0 (fpx z6 y0) := by
  unfold mf_L_told_B141_0 fpx fcl
  split <;> rfl
theorem st_same_0 (V : CarV) (z1 z2 z3 z4 z5 : Int32) (z6 : UInt32) (hz : z2 = -5 ∨ mf_L_isClosed z1 0 = mf_L_isClosed z2 0) (hp : mf_X5_pressed V 0 = if mf_L_isClosed z1 0 = 0 then some FP.fconst0 else some FP.fconst1) : mf_L_told_B48_0 V z1 z2 z3 z4 z5 z6 = mf_L_told_B48_1 V z1 z2 z3 z4 z5 z6 := by
  unfold mf_L_told_B48_0 mf_L_told_B68_0 mf_L_told_B186_0
  simp only [bnd]
  by_cases hc : mf_L_isClosed z1 0 = 0
  · rw [if_pos hc] at hp ⊢
    rw [hp]
    rcases hz with hz | hz
    · rw [if_pos hz]
      rw [Option.bind_some, if_pos fcl_00]
    · by_cases h5 : z2 = -5
      · rw [if_pos h5]
        rw [Option.bind_some, if_pos fcl_00]
      · rw [if_neg h5, if_pos hz]
        rw [Option.bind_some, if_pos fcl_00]
  · rw [if_neg hc] at hp ⊢
    rw [hp]
    rcases hz with hz | hz
    · rw [if_pos hz]
      rw [Option.bind_some, if_pos fcl_11]
    · by_cases h5 : z2 = -5
      · rw [if_pos h5]
        rw [Option.bind_some, if_pos fcl_11]
      · rw [if_neg h5, if_pos hz]
        rw [Option.bind_some, if_pos fcl_11]
theorem st_open_0 (V : CarV) (z1 z2 z3 z4 z5 : Int32) (z6 : UInt32) (h5 : ¬ z2 = -5) (hne : ¬ mf_L_isClosed z1 0 = mf_L_isClosed z2 0) (hc : ¬ mf_L_isClosed z1 0 = 0) (h1 : (FP.fdiv (FP.i2f z3) (FP.i2f z4)) &&& 0x7fffffff ≤ 0x7f800000) (h2 : (FP.fdiv (FP.i2f (z3 - z5)) (FP.i2f (z4 - z5))) &&& 0x7fffffff ≤ 0x7f800000) (h3 : (FP.fsub FP.fconst1 (FP.fdiv (FP.i2f z3) (FP.i2f z4))) &&& 0x7fffffff ≤ 0x7f800000) (hcar : mf_X5_car V 5 = 0) (hp : mf_X5_pressed V 0 = some (FP.fsub FP.fconst1 (FP.fdiv (FP.i2f z3) (FP.i2f z4)))) (h4 : Op.cmpValue (FP.fcmp (FP.fsub FP.fconst1 (FP.fdiv (FP.i2f z3) (FP.i2f z4))) (FP.fsub FP.fconst1 (FP.fdiv (FP.i2f z3) (FP.i2f z4)))) CmpOp.l = 0) : mf_L_told_B48_0 V z1 z2 z3 z4 z5 z6 = mf_L_told_B48_1 V z1 z2 z3 z4 z5 (fpx z6 (FP.fsub FP.fconst1 (FP.fdiv (FP.i2f z3) (FP.i2f z4)))) := by
  unfold mf_L_told_B48_0 mf_L_told_B68_0
  simp only [bnd, if_neg h5, if_neg hne, if_pos h1, if_pos h2, if_neg hc, if_pos h3, ite_self, b141_0]
  unfold mf_L_told_B158_0 mf_L_told_B176_0 mf_L_told_B186_0
  simp only [bnd, if_neg hc]
  rw [if_pos hcar, hp, Option.bind_some, if_pos h4]
theorem st_close_0a (V : CarV) (z1 z2 z3 z4 z5 : Int32) (z6 : UInt32) (h5 : ¬ z2 = -5) (hne : ¬ mf_L_isClosed z1 0 = mf_L_isClosed z2 0) (hc : mf_L_isClosed z1 0 = 0) (hk : z5 < z3) (h1 : (FP.fdiv (FP.i2f z3) (FP.i2f z4)) &&& 0x7fffffff ≤ 0x7f800000) (h2 : (FP.fdiv (FP.i2f (z3 - z5)) (FP.i2f (z4 - z5))) &&& 0x7fffffff ≤ 0x7f800000) (hcar : mf_X5_car V 6 = 0) (hp : mf_X5_pressed V 0 = some (FP.fdiv (FP.i2f (z3 - z5)) (FP.i2f (z4 - z5)))) (h4 : Op.cmpValue (FP.fcmp (FP.fdiv (FP.i2f (z3 - z5)) (FP.i2f (z4 - z5))) (FP.fdiv (FP.i2f (z3 - z5)) (FP.i2f (z4 - z5)))) CmpOp.l = 0) : mf_L_told_B48_0 V z1 z2 z3 z4 z5 z6 = mf_L_told_B48_1 V z1 z2 z3 z4 z5 (fpx z6 (FP.fdiv (FP.i2f (z3 - z5)) (FP.i2f (z4 - z5)))) := by
  unfold mf_L_told_B48_0 mf_L_told_B68_0
  simp only [bnd, if_neg h5, if_neg hne, if_pos h1, if_pos h2, if_pos hc, if_pos hk, ite_self, b141_0]
  unfold mf_L_told_B158_0 mf_L_told_B176_0 mf_L_told_B186_0
  simp only [bnd, if_pos hc]
  rw [if_pos hcar, hp, Option.bind_some, if_pos h4]
theorem st_close_0b (V : CarV) (z1 z2 z3 z4 z5 : Int32) (z6 : UInt32) (h5 : ¬ z2 = -5) (hne : ¬ mf_L_isClosed z1 0 = mf_L_isClosed z2 0) (hc : mf_L_isClosed z1 0 = 0) (hk : ¬ z5 < z3) (h1 : (FP.fdiv (FP.i2f z3) (FP.i2f z4)) &&& 0x7fffffff ≤ 0x7f800000) (h2 : (FP.fdiv (FP.i2f (z3 - z5)) (FP.i2f (z4 - z5))) &&& 0x7fffffff ≤ 0x7f800000) (hcar : mf_X5_car V 6 = 0) (hp : mf_X5_pressed V 0 = some FP.fconst0) (h4 : Op.cmpValue (FP.fcmp FP.fconst0 FP.fconst0) CmpOp.l = 0) : mf_L_told_B48_0 V z1 z2 z3 z4 z5 z6 = mf_L_told_B48_1 V z1 z2 z3 z4 z5 (fpx z6 FP.fconst0) := by
  unfold mf_L_told_B48_0 mf_L_told_B68_0
  simp only [bnd, if_neg h5, if_neg hne, if_pos h1, if_pos h2, if_pos hc, if_neg hk, ite_self, b141_0]
  unfold mf_L_told_B158_0 mf_L_told_B176_0 mf_L_told_B186_0
  simp only [bnd, if_pos hc]
  rw [if_pos hcar, hp, Option.bind_some, if_pos h4]
theorem pr_no_0 (V : CarV) (h : v4_target (v5_now V) = 0) : mf_X5_pressed V 0 = if mf_X4_isClosed 0 (v4_gear (v5_now V)) = 0 then some FP.fconst0 else some FP.fconst1 := by
  simp [mf_X5_pressed, mf_X4_pressureOf, mf_X4_pressureOf_B20, mf_X4_pressureOf_B40, mf_X4_isChanging, bnd, h]
  try (split <;> rfl)
theorem pr_ch_0 (V : CarV) (h : ¬ v4_target (v5_now V) = 0) : mf_X5_pressed V 0 = if 0 = mf_X4_closedOnlyIn (v4_gear (v5_now V)) (v4_target (v5_now V)) then mf_X4_openingPressure (v5_now V) else if 0 = mf_X4_closedOnlyIn (v4_target (v5_now V)) (v4_gear (v5_now V)) then mf_X4_closingPressure (v5_now V) else if mf_X4_isClosed 0 (v4_gear (v5_now V)) = 0 then some FP.fconst0 else some FP.fconst1 := by
  simp [mf_X5_pressed, mf_X4_pressureOf, mf_X4_pressureOf_B20, mf_X4_pressureOf_B40, mf_X4_isChanging, mf_X4_opening, mf_X4_closing, bnd, h]
theorem b141_1 (V : CarV) (z1 z2 z3 z4 z5 : Int32) (z6 y0 : UInt32) : mf_L_told_B141_1 V z1 z2 z3 z4 z5 z6 y0 = mf_L_told_B158_1 V z1 z2 z3 z4 z5 y0 (fpx z6 y0) := by
  unfold mf_L_told_B141_1 fpx fcl
  split <;> rfl
theorem st_same_1 (V : CarV) (z1 z2 z3 z4 z5 : Int32) (z6 : UInt32) (hz : z2 = -5 ∨ mf_L_isClosed z1 1 = mf_L_isClosed z2 1) (hp : mf_X5_pressed V 1 = if mf_L_isClosed z1 1 = 0 then some FP.fconst0 else some FP.fconst1) : mf_L_told_B48_1 V z1 z2 z3 z4 z5 z6 = mf_L_told_B48_2 V z1 z2 z3 z4 z5 z6 := by
  unfold mf_L_told_B48_1 mf_L_told_B68_1 mf_L_told_B186_1
  simp only [bnd]
  by_cases hc : mf_L_isClosed z1 1 = 0
  · rw [if_pos hc] at hp ⊢
    rw [hp]
    rcases hz with hz | hz
    · rw [if_pos hz]
      rw [Option.bind_some, if_pos fcl_00]
    · by_cases h5 : z2 = -5
      · rw [if_pos h5]
        rw [Option.bind_some, if_pos fcl_00]
      · rw [if_neg h5, if_pos hz]
        rw [Option.bind_some, if_pos fcl_00]
  · rw [if_neg hc] at hp ⊢
    rw [hp]
    rcases hz with hz | hz
    · rw [if_pos hz]
      rw [Option.bind_some, if_pos fcl_11]
    · by_cases h5 : z2 = -5
      · rw [if_pos h5]
        rw [Option.bind_some, if_pos fcl_11]
      · rw [if_neg h5, if_pos hz]
        rw [Option.bind_some, if_pos fcl_11]
theorem st_open_1 (V : CarV) (z1 z2 z3 z4 z5 : Int32) (z6 : UInt32) (h5 : ¬ z2 = -5) (hne : ¬ mf_L_isClosed z1 1 = mf_L_isClosed z2 1) (hc : ¬ mf_L_isClosed z1 1 = 0) (h1 : (FP.fdiv (FP.i2f z3) (FP.i2f z4)) &&& 0x7fffffff ≤ 0x7f800000) (h2 : (FP.fdiv (FP.i2f (z3 - z5)) (FP.i2f (z4 - z5))) &&& 0x7fffffff ≤ 0x7f800000) (h3 : (FP.fsub FP.fconst1 (FP.fdiv (FP.i2f z3) (FP.i2f z4))) &&& 0x7fffffff ≤ 0x7f800000) (hcar : mf_X5_car V 5 = 1) (hp : mf_X5_pressed V 1 = some (FP.fsub FP.fconst1 (FP.fdiv (FP.i2f z3) (FP.i2f z4)))) (h4 : Op.cmpValue (FP.fcmp (FP.fsub FP.fconst1 (FP.fdiv (FP.i2f z3) (FP.i2f z4))) (FP.fsub FP.fconst1 (FP.fdiv (FP.i2f z3) (FP.i2f z4)))) CmpOp.l = 0) : mf_L_told_B48_1 V z1 z2 z3 z4 z5 z6 = mf_L_told_B48_2 V z1 z2 z3 z4 z5 (fpx z6 (FP.fsub FP.fconst1 (FP.fdiv (FP.i2f z3) (FP.i2f z4)))) := by
  unfold mf_L_told_B48_1 mf_L_told_B68_1
  simp only [bnd, if_neg h5, if_neg hne, if_pos h1, if_pos h2, if_neg hc, if_pos h3, ite_self, b141_1]
  unfold mf_L_told_B158_1 mf_L_told_B176_1 mf_L_told_B186_1
  simp only [bnd, if_neg hc]
  rw [if_pos hcar, hp, Option.bind_some, if_pos h4]
theorem st_close_1a (V : CarV) (z1 z2 z3 z4 z5 : Int32) (z6 : UInt32) (h5 : ¬ z2 = -5) (hne : ¬ mf_L_isClosed z1 1 = mf_L_isClosed z2 1) (hc : mf_L_isClosed z1 1 = 0) (hk : z5 < z3) (h1 : (FP.fdiv (FP.i2f z3) (FP.i2f z4)) &&& 0x7fffffff ≤ 0x7f800000) (h2 : (FP.fdiv (FP.i2f (z3 - z5)) (FP.i2f (z4 - z5))) &&& 0x7fffffff ≤ 0x7f800000) (hcar : mf_X5_car V 6 = 1) (hp : mf_X5_pressed V 1 = some (FP.fdiv (FP.i2f (z3 - z5)) (FP.i2f (z4 - z5)))) (h4 : Op.cmpValue (FP.fcmp (FP.fdiv (FP.i2f (z3 - z5)) (FP.i2f (z4 - z5))) (FP.fdiv (FP.i2f (z3 - z5)) (FP.i2f (z4 - z5)))) CmpOp.l = 0) : mf_L_told_B48_1 V z1 z2 z3 z4 z5 z6 = mf_L_told_B48_2 V z1 z2 z3 z4 z5 (fpx z6 (FP.fdiv (FP.i2f (z3 - z5)) (FP.i2f (z4 - z5)))) := by
  unfold mf_L_told_B48_1 mf_L_told_B68_1
  simp only [bnd, if_neg h5, if_neg hne, if_pos h1, if_pos h2, if_pos hc, if_pos hk, ite_self, b141_1]
  unfold mf_L_told_B158_1 mf_L_told_B176_1 mf_L_told_B186_1
  simp only [bnd, if_pos hc]
  rw [if_pos hcar, hp, Option.bind_some, if_pos h4]
theorem st_close_1b (V : CarV) (z1 z2 z3 z4 z5 : Int32) (z6 : UInt32) (h5 : ¬ z2 = -5) (hne : ¬ mf_L_isClosed z1 1 = mf_L_isClosed z2 1) (hc : mf_L_isClosed z1 1 = 0) (hk : ¬ z5 < z3) (h1 : (FP.fdiv (FP.i2f z3) (FP.i2f z4)) &&& 0x7fffffff ≤ 0x7f800000) (h2 : (FP.fdiv (FP.i2f (z3 - z5)) (FP.i2f (z4 - z5))) &&& 0x7fffffff ≤ 0x7f800000) (hcar : mf_X5_car V 6 = 1) (hp : mf_X5_pressed V 1 = some FP.fconst0) (h4 : Op.cmpValue (FP.fcmp FP.fconst0 FP.fconst0) CmpOp.l = 0) : mf_L_told_B48_1 V z1 z2 z3 z4 z5 z6 = mf_L_told_B48_2 V z1 z2 z3 z4 z5 (fpx z6 FP.fconst0) := by
  unfold mf_L_told_B48_1 mf_L_told_B68_1
  simp only [bnd, if_neg h5, if_neg hne, if_pos h1, if_pos h2, if_pos hc, if_neg hk, ite_self, b141_1]
  unfold mf_L_told_B158_1 mf_L_told_B176_1 mf_L_told_B186_1
  simp only [bnd, if_pos hc]
  rw [if_pos hcar, hp, Option.bind_some, if_pos h4]
theorem pr_no_1 (V : CarV) (h : v4_target (v5_now V) = 0) : mf_X5_pressed V 1 = if mf_X4_isClosed 1 (v4_gear (v5_now V)) = 0 then some FP.fconst0 else some FP.fconst1 := by
  simp [mf_X5_pressed, mf_X4_pressureOf, mf_X4_pressureOf_B20, mf_X4_pressureOf_B40, mf_X4_isChanging, bnd, h]
  try (split <;> rfl)
theorem pr_ch_1 (V : CarV) (h : ¬ v4_target (v5_now V) = 0) : mf_X5_pressed V 1 = if 1 = mf_X4_closedOnlyIn (v4_gear (v5_now V)) (v4_target (v5_now V)) then mf_X4_openingPressure (v5_now V) else if 1 = mf_X4_closedOnlyIn (v4_target (v5_now V)) (v4_gear (v5_now V)) then mf_X4_closingPressure (v5_now V) else if mf_X4_isClosed 1 (v4_gear (v5_now V)) = 0 then some FP.fconst0 else some FP.fconst1 := by
  simp [mf_X5_pressed, mf_X4_pressureOf, mf_X4_pressureOf_B20, mf_X4_pressureOf_B40, mf_X4_isChanging, mf_X4_opening, mf_X4_closing, bnd, h]
theorem b141_2 (V : CarV) (z1 z2 z3 z4 z5 : Int32) (z6 y0 : UInt32) : mf_L_told_B141_2 V z1 z2 z3 z4 z5 z6 y0 = mf_L_told_B158_2 V z1 z2 z3 z4 z5 y0 (fpx z6 y0) := by
  unfold mf_L_told_B141_2 fpx fcl
  split <;> rfl
theorem st_same_2 (V : CarV) (z1 z2 z3 z4 z5 : Int32) (z6 : UInt32) (hz : z2 = -5 ∨ mf_L_isClosed z1 2 = mf_L_isClosed z2 2) (hp : mf_X5_pressed V 2 = if mf_L_isClosed z1 2 = 0 then some FP.fconst0 else some FP.fconst1) : mf_L_told_B48_2 V z1 z2 z3 z4 z5 z6 = mf_L_told_B48_3 V z1 z2 z3 z4 z5 z6 := by
  unfold mf_L_told_B48_2 mf_L_told_B68_2 mf_L_told_B186_2
  simp only [bnd]
  by_cases hc : mf_L_isClosed z1 2 = 0
  · rw [if_pos hc] at hp ⊢
    rw [hp]
    rcases hz with hz | hz
    · rw [if_pos hz]
      rw [Option.bind_some, if_pos fcl_00]
    · by_cases h5 : z2 = -5
      · rw [if_pos h5]
        rw [Option.bind_some, if_pos fcl_00]
      · rw [if_neg h5, if_pos hz]
        rw [Option.bind_some, if_pos fcl_00]
  · rw [if_neg hc] at hp ⊢
    rw [hp]
    rcases hz with hz | hz
    · rw [if_pos hz]
      rw [Option.bind_some, if_pos fcl_11]
    · by_cases h5 : z2 = -5
      · rw [if_pos h5]
        rw [Option.bind_some, if_pos fcl_11]
      · rw [if_neg h5, if_pos hz]
        rw [Option.bind_some, if_pos fcl_11]
theorem st_open_2 (V : CarV) (z1 z2 z3 z4 z5 : Int32) (z6 : UInt32) (h5 : ¬ z2 = -5) (hne : ¬ mf_L_isClosed z1 2 = mf_L_isClosed z2 2) (hc : ¬ mf_L_isClosed z1 2 = 0) (h1 : (FP.fdiv (FP.i2f z3) (FP.i2f z4)) &&& 0x7fffffff ≤ 0x7f800000) (h2 : (FP.fdiv (FP.i2f (z3 - z5)) (FP.i2f (z4 - z5))) &&& 0x7fffffff ≤ 0x7f800000) (h3 : (FP.fsub FP.fconst1 (FP.fdiv (FP.i2f z3) (FP.i2f z4))) &&& 0x7fffffff ≤ 0x7f800000) (hcar : mf_X5_car V 5 = 2) (hp : mf_X5_pressed V 2 = some (FP.fsub FP.fconst1 (FP.fdiv (FP.i2f z3) (FP.i2f z4)))) (h4 : Op.cmpValue (FP.fcmp (FP.fsub FP.fconst1 (FP.fdiv (FP.i2f z3) (FP.i2f z4))) (FP.fsub FP.fconst1 (FP.fdiv (FP.i2f z3) (FP.i2f z4)))) CmpOp.l = 0) : mf_L_told_B48_2 V z1 z2 z3 z4 z5 z6 = mf_L_told_B48_3 V z1 z2 z3 z4 z5 (fpx z6 (FP.fsub FP.fconst1 (FP.fdiv (FP.i2f z3) (FP.i2f z4)))) := by
  unfold mf_L_told_B48_2 mf_L_told_B68_2
  simp only [bnd, if_neg h5, if_neg hne, if_pos h1, if_pos h2, if_neg hc, if_pos h3, ite_self, b141_2]
  unfold mf_L_told_B158_2 mf_L_told_B176_2 mf_L_told_B186_2
  simp only [bnd, if_neg hc]
  rw [if_pos hcar, hp, Option.bind_some, if_pos h4]
theorem st_close_2a (V : CarV) (z1 z2 z3 z4 z5 : Int32) (z6 : UInt32) (h5 : ¬ z2 = -5) (hne : ¬ mf_L_isClosed z1 2 = mf_L_isClosed z2 2) (hc : mf_L_isClosed z1 2 = 0) (hk : z5 < z3) (h1 : (FP.fdiv (FP.i2f z3) (FP.i2f z4)) &&& 0x7fffffff ≤ 0x7f800000) (h2 : (FP.fdiv (FP.i2f (z3 - z5)) (FP.i2f (z4 - z5))) &&& 0x7fffffff ≤ 0x7f800000) (hcar : mf_X5_car V 6 = 2) (hp : mf_X5_pressed V 2 = some (FP.fdiv (FP.i2f (z3 - z5)) (FP.i2f (z4 - z5)))) (h4 : Op.cmpValue (FP.fcmp (FP.fdiv (FP.i2f (z3 - z5)) (FP.i2f (z4 - z5))) (FP.fdiv (FP.i2f (z3 - z5)) (FP.i2f (z4 - z5)))) CmpOp.l = 0) : mf_L_told_B48_2 V z1 z2 z3 z4 z5 z6 = mf_L_told_B48_3 V z1 z2 z3 z4 z5 (fpx z6 (FP.fdiv (FP.i2f (z3 - z5)) (FP.i2f (z4 - z5)))) := by
  unfold mf_L_told_B48_2 mf_L_told_B68_2
  simp only [bnd, if_neg h5, if_neg hne, if_pos h1, if_pos h2, if_pos hc, if_pos hk, ite_self, b141_2]
  unfold mf_L_told_B158_2 mf_L_told_B176_2 mf_L_told_B186_2
  simp only [bnd, if_pos hc]
  rw [if_pos hcar, hp, Option.bind_some, if_pos h4]
theorem st_close_2b (V : CarV) (z1 z2 z3 z4 z5 : Int32) (z6 : UInt32) (h5 : ¬ z2 = -5) (hne : ¬ mf_L_isClosed z1 2 = mf_L_isClosed z2 2) (hc : mf_L_isClosed z1 2 = 0) (hk : ¬ z5 < z3) (h1 : (FP.fdiv (FP.i2f z3) (FP.i2f z4)) &&& 0x7fffffff ≤ 0x7f800000) (h2 : (FP.fdiv (FP.i2f (z3 - z5)) (FP.i2f (z4 - z5))) &&& 0x7fffffff ≤ 0x7f800000) (hcar : mf_X5_car V 6 = 2) (hp : mf_X5_pressed V 2 = some FP.fconst0) (h4 : Op.cmpValue (FP.fcmp FP.fconst0 FP.fconst0) CmpOp.l = 0) : mf_L_told_B48_2 V z1 z2 z3 z4 z5 z6 = mf_L_told_B48_3 V z1 z2 z3 z4 z5 (fpx z6 FP.fconst0) := by
  unfold mf_L_told_B48_2 mf_L_told_B68_2
  simp only [bnd, if_neg h5, if_neg hne, if_pos h1, if_pos h2, if_pos hc, if_neg hk, ite_self, b141_2]
  unfold mf_L_told_B158_2 mf_L_told_B176_2 mf_L_told_B186_2
  simp only [bnd, if_pos hc]
  rw [if_pos hcar, hp, Option.bind_some, if_pos h4]
theorem pr_no_2 (V : CarV) (h : v4_target (v5_now V) = 0) : mf_X5_pressed V 2 = if mf_X4_isClosed 2 (v4_gear (v5_now V)) = 0 then some FP.fconst0 else some FP.fconst1 := by
  simp [mf_X5_pressed, mf_X4_pressureOf, mf_X4_pressureOf_B20, mf_X4_pressureOf_B40, mf_X4_isChanging, bnd, h]
  try (split <;> rfl)
theorem pr_ch_2 (V : CarV) (h : ¬ v4_target (v5_now V) = 0) : mf_X5_pressed V 2 = if 2 = mf_X4_closedOnlyIn (v4_gear (v5_now V)) (v4_target (v5_now V)) then mf_X4_openingPressure (v5_now V) else if 2 = mf_X4_closedOnlyIn (v4_target (v5_now V)) (v4_gear (v5_now V)) then mf_X4_closingPressure (v5_now V) else if mf_X4_isClosed 2 (v4_gear (v5_now V)) = 0 then some FP.fconst0 else some FP.fconst1 := by
  simp [mf_X5_pressed, mf_X4_pressureOf, mf_X4_pressureOf_B20, mf_X4_pressureOf_B40, mf_X4_isChanging, mf_X4_opening, mf_X4_closing, bnd, h]
theorem b141_3 (V : CarV) (z1 z2 z3 z4 z5 : Int32) (z6 y0 : UInt32) : mf_L_told_B141_3 V z1 z2 z3 z4 z5 z6 y0 = mf_L_told_B158_3 V z1 z2 z3 z4 z5 y0 (fpx z6 y0) := by
  unfold mf_L_told_B141_3 fpx fcl
  split <;> rfl
theorem st_same_3 (V : CarV) (z1 z2 z3 z4 z5 : Int32) (z6 : UInt32) (hz : z2 = -5 ∨ mf_L_isClosed z1 3 = mf_L_isClosed z2 3) (hp : mf_X5_pressed V 3 = if mf_L_isClosed z1 3 = 0 then some FP.fconst0 else some FP.fconst1) : mf_L_told_B48_3 V z1 z2 z3 z4 z5 z6 = mf_L_told_B48_4 V z1 z2 z3 z4 z5 z6 := by
  unfold mf_L_told_B48_3 mf_L_told_B68_3 mf_L_told_B186_3
  simp only [bnd]
  by_cases hc : mf_L_isClosed z1 3 = 0
  · rw [if_pos hc] at hp ⊢
    rw [hp]
    rcases hz with hz | hz
    · rw [if_pos hz]
      rw [Option.bind_some, if_pos fcl_00]
    · by_cases h5 : z2 = -5
      · rw [if_pos h5]
        rw [Option.bind_some, if_pos fcl_00]
      · rw [if_neg h5, if_pos hz]
        rw [Option.bind_some, if_pos fcl_00]
  · rw [if_neg hc] at hp ⊢
    rw [hp]
    rcases hz with hz | hz
    · rw [if_pos hz]
      rw [Option.bind_some, if_pos fcl_11]
    · by_cases h5 : z2 = -5
      · rw [if_pos h5]
        rw [Option.bind_some, if_pos fcl_11]
      · rw [if_neg h5, if_pos hz]
        rw [Option.bind_some, if_pos fcl_11]
theorem st_open_3 (V : CarV) (z1 z2 z3 z4 z5 : Int32) (z6 : UInt32) (h5 : ¬ z2 = -5) (hne : ¬ mf_L_isClosed z1 3 = mf_L_isClosed z2 3) (hc : ¬ mf_L_isClosed z1 3 = 0) (h1 : (FP.fdiv (FP.i2f z3) (FP.i2f z4)) &&& 0x7fffffff ≤ 0x7f800000) (h2 : (FP.fdiv (FP.i2f (z3 - z5)) (FP.i2f (z4 - z5))) &&& 0x7fffffff ≤ 0x7f800000) (h3 : (FP.fsub FP.fconst1 (FP.fdiv (FP.i2f z3) (FP.i2f z4))) &&& 0x7fffffff ≤ 0x7f800000) (hcar : mf_X5_car V 5 = 3) (hp : mf_X5_pressed V 3 = some (FP.fsub FP.fconst1 (FP.fdiv (FP.i2f z3) (FP.i2f z4)))) (h4 : Op.cmpValue (FP.fcmp (FP.fsub FP.fconst1 (FP.fdiv (FP.i2f z3) (FP.i2f z4))) (FP.fsub FP.fconst1 (FP.fdiv (FP.i2f z3) (FP.i2f z4)))) CmpOp.l = 0) : mf_L_told_B48_3 V z1 z2 z3 z4 z5 z6 = mf_L_told_B48_4 V z1 z2 z3 z4 z5 (fpx z6 (FP.fsub FP.fconst1 (FP.fdiv (FP.i2f z3) (FP.i2f z4)))) := by
  unfold mf_L_told_B48_3 mf_L_told_B68_3
  simp only [bnd, if_neg h5, if_neg hne, if_pos h1, if_pos h2, if_neg hc, if_pos h3, ite_self, b141_3]
  unfold mf_L_told_B158_3 mf_L_told_B176_3 mf_L_told_B186_3
  simp only [bnd, if_neg hc]
  rw [if_pos hcar, hp, Option.bind_some, if_pos h4]
theorem st_close_3a (V : CarV) (z1 z2 z3 z4 z5 : Int32) (z6 : UInt32) (h5 : ¬ z2 = -5) (hne : ¬ mf_L_isClosed z1 3 = mf_L_isClosed z2 3) (hc : mf_L_isClosed z1 3 = 0) (hk : z5 < z3) (h1 : (FP.fdiv (FP.i2f z3) (FP.i2f z4)) &&& 0x7fffffff ≤ 0x7f800000) (h2 : (FP.fdiv (FP.i2f (z3 - z5)) (FP.i2f (z4 - z5))) &&& 0x7fffffff ≤ 0x7f800000) (hcar : mf_X5_car V 6 = 3) (hp : mf_X5_pressed V 3 = some (FP.fdiv (FP.i2f (z3 - z5)) (FP.i2f (z4 - z5)))) (h4 : Op.cmpValue (FP.fcmp (FP.fdiv (FP.i2f (z3 - z5)) (FP.i2f (z4 - z5))) (FP.fdiv (FP.i2f (z3 - z5)) (FP.i2f (z4 - z5)))) CmpOp.l = 0) : mf_L_told_B48_3 V z1 z2 z3 z4 z5 z6 = mf_L_told_B48_4 V z1 z2 z3 z4 z5 (fpx z6 (FP.fdiv (FP.i2f (z3 - z5)) (FP.i2f (z4 - z5)))) := by
  unfold mf_L_told_B48_3 mf_L_told_B68_3
  simp only [bnd, if_neg h5, if_neg hne, if_pos h1, if_pos h2, if_pos hc, if_pos hk, ite_self, b141_3]
  unfold mf_L_told_B158_3 mf_L_told_B176_3 mf_L_told_B186_3
  simp only [bnd, if_pos hc]
  rw [if_pos hcar, hp, Option.bind_some, if_pos h4]
theorem st_close_3b (V : CarV) (z1 z2 z3 z4 z5 : Int32) (z6 : UInt32) (h5 : ¬ z2 = -5) (hne : ¬ mf_L_isClosed z1 3 = mf_L_isClosed z2 3) (hc : mf_L_isClosed z1 3 = 0) (hk : ¬ z5 < z3) (h1 : (FP.fdiv (FP.i2f z3) (FP.i2f z4)) &&& 0x7fffffff ≤ 0x7f800000) (h2 : (FP.fdiv (FP.i2f (z3 - z5)) (FP.i2f (z4 - z5))) &&& 0x7fffffff ≤ 0x7f800000) (hcar : mf_X5_car V 6 = 3) (hp : mf_X5_pressed V 3 = some FP.fconst0) (h4 : Op.cmpValue (FP.fcmp FP.fconst0 FP.fconst0) CmpOp.l = 0) : mf_L_told_B48_3 V z1 z2 z3 z4 z5 z6 = mf_L_told_B48_4 V z1 z2 z3 z4 z5 (fpx z6 FP.fconst0) := by
  unfold mf_L_told_B48_3 mf_L_told_B68_3
  simp only [bnd, if_neg h5, if_neg hne, if_pos h1, if_pos h2, if_pos hc, if_neg hk, ite_self, b141_3]
  unfold mf_L_told_B158_3 mf_L_told_B176_3 mf_L_told_B186_3
  simp only [bnd, if_pos hc]
  rw [if_pos hcar, hp, Option.bind_some, if_pos h4]
theorem pr_no_3 (V : CarV) (h : v4_target (v5_now V) = 0) : mf_X5_pressed V 3 = if mf_X4_isClosed 3 (v4_gear (v5_now V)) = 0 then some FP.fconst0 else some FP.fconst1 := by
  simp [mf_X5_pressed, mf_X4_pressureOf, mf_X4_pressureOf_B20, mf_X4_pressureOf_B40, mf_X4_isChanging, bnd, h]
  try (split <;> rfl)
theorem pr_ch_3 (V : CarV) (h : ¬ v4_target (v5_now V) = 0) : mf_X5_pressed V 3 = if 3 = mf_X4_closedOnlyIn (v4_gear (v5_now V)) (v4_target (v5_now V)) then mf_X4_openingPressure (v5_now V) else if 3 = mf_X4_closedOnlyIn (v4_target (v5_now V)) (v4_gear (v5_now V)) then mf_X4_closingPressure (v5_now V) else if mf_X4_isClosed 3 (v4_gear (v5_now V)) = 0 then some FP.fconst0 else some FP.fconst1 := by
  simp [mf_X5_pressed, mf_X4_pressureOf, mf_X4_pressureOf_B20, mf_X4_pressureOf_B40, mf_X4_isChanging, mf_X4_opening, mf_X4_closing, bnd, h]
theorem b141_4 (V : CarV) (z1 z2 z3 z4 z5 : Int32) (z6 y0 : UInt32) : mf_L_told_B141_4 V z1 z2 z3 z4 z5 z6 y0 = mf_L_told_B158_4 V z1 z2 z3 z4 z5 y0 (fpx z6 y0) := by
  unfold mf_L_told_B141_4 fpx fcl
  split <;> rfl
theorem st_same_4 (V : CarV) (z1 z2 z3 z4 z5 : Int32) (z6 : UInt32) (hz : z2 = -5 ∨ mf_L_isClosed z1 4 = mf_L_isClosed z2 4) (hp : mf_X5_pressed V 4 = if mf_L_isClosed z1 4 = 0 then some FP.fconst0 else some FP.fconst1) : mf_L_told_B48_4 V z1 z2 z3 z4 z5 z6 = mf_L_told_B48_5 V z1 z2 z3 z4 z5 z6 := by
  unfold mf_L_told_B48_4 mf_L_told_B68_4 mf_L_told_B186_4
  simp only [bnd]
  by_cases hc : mf_L_isClosed z1 4 = 0
  · rw [if_pos hc] at hp ⊢
    rw [hp]
    rcases hz with hz | hz
    · rw [if_pos hz]
      rw [Option.bind_some, if_pos fcl_00]
    · by_cases h5 : z2 = -5
      · rw [if_pos h5]
        rw [Option.bind_some, if_pos fcl_00]
      · rw [if_neg h5, if_pos hz]
        rw [Option.bind_some, if_pos fcl_00]
  · rw [if_neg hc] at hp ⊢
    rw [hp]
    rcases hz with hz | hz
    · rw [if_pos hz]
      rw [Option.bind_some, if_pos fcl_11]
    · by_cases h5 : z2 = -5
      · rw [if_pos h5]
        rw [Option.bind_some, if_pos fcl_11]
      · rw [if_neg h5, if_pos hz]
        rw [Option.bind_some, if_pos fcl_11]
theorem st_open_4 (V : CarV) (z1 z2 z3 z4 z5 : Int32) (z6 : UInt32) (h5 : ¬ z2 = -5) (hne : ¬ mf_L_isClosed z1 4 = mf_L_isClosed z2 4) (hc : ¬ mf_L_isClosed z1 4 = 0) (h1 : (FP.fdiv (FP.i2f z3) (FP.i2f z4)) &&& 0x7fffffff ≤ 0x7f800000) (h2 : (FP.fdiv (FP.i2f (z3 - z5)) (FP.i2f (z4 - z5))) &&& 0x7fffffff ≤ 0x7f800000) (h3 : (FP.fsub FP.fconst1 (FP.fdiv (FP.i2f z3) (FP.i2f z4))) &&& 0x7fffffff ≤ 0x7f800000) (hcar : mf_X5_car V 5 = 4) (hp : mf_X5_pressed V 4 = some (FP.fsub FP.fconst1 (FP.fdiv (FP.i2f z3) (FP.i2f z4)))) (h4 : Op.cmpValue (FP.fcmp (FP.fsub FP.fconst1 (FP.fdiv (FP.i2f z3) (FP.i2f z4))) (FP.fsub FP.fconst1 (FP.fdiv (FP.i2f z3) (FP.i2f z4)))) CmpOp.l = 0) : mf_L_told_B48_4 V z1 z2 z3 z4 z5 z6 = mf_L_told_B48_5 V z1 z2 z3 z4 z5 (fpx z6 (FP.fsub FP.fconst1 (FP.fdiv (FP.i2f z3) (FP.i2f z4)))) := by
  unfold mf_L_told_B48_4 mf_L_told_B68_4
  simp only [bnd, if_neg h5, if_neg hne, if_pos h1, if_pos h2, if_neg hc, if_pos h3, ite_self, b141_4]
  unfold mf_L_told_B158_4 mf_L_told_B176_4 mf_L_told_B186_4
  simp only [bnd, if_neg hc]
  rw [if_pos hcar, hp, Option.bind_some, if_pos h4]
theorem st_close_4a (V : CarV) (z1 z2 z3 z4 z5 : Int32) (z6 : UInt32) (h5 : ¬ z2 = -5) (hne : ¬ mf_L_isClosed z1 4 = mf_L_isClosed z2 4) (hc : mf_L_isClosed z1 4 = 0) (hk : z5 < z3) (h1 : (FP.fdiv (FP.i2f z3) (FP.i2f z4)) &&& 0x7fffffff ≤ 0x7f800000) (h2 : (FP.fdiv (FP.i2f (z3 - z5)) (FP.i2f (z4 - z5))) &&& 0x7fffffff ≤ 0x7f800000) (hcar : mf_X5_car V 6 = 4) (hp : mf_X5_pressed V 4 = some (FP.fdiv (FP.i2f (z3 - z5)) (FP.i2f (z4 - z5)))) (h4 : Op.cmpValue (FP.fcmp (FP.fdiv (FP.i2f (z3 - z5)) (FP.i2f (z4 - z5))) (FP.fdiv (FP.i2f (z3 - z5)) (FP.i2f (z4 - z5)))) CmpOp.l = 0) : mf_L_told_B48_4 V z1 z2 z3 z4 z5 z6 = mf_L_told_B48_5 V z1 z2 z3 z4 z5 (fpx z6 (FP.fdiv (FP.i2f (z3 - z5)) (FP.i2f (z4 - z5)))) := by
  unfold mf_L_told_B48_4 mf_L_told_B68_4
  simp only [bnd, if_neg h5, if_neg hne, if_pos h1, if_pos h2, if_pos hc, if_pos hk, ite_self, b141_4]
  unfold mf_L_told_B158_4 mf_L_told_B176_4 mf_L_told_B186_4
  simp only [bnd, if_pos hc]
  rw [if_pos hcar, hp, Option.bind_some, if_pos h4]
theorem st_close_4b (V : CarV) (z1 z2 z3 z4 z5 : Int32) (z6 : UInt32) (h5 : ¬ z2 = -5) (hne : ¬ mf_L_isClosed z1 4 = mf_L_isClosed z2 4) (hc : mf_L_isClosed z1 4 = 0) (hk : ¬ z5 < z3) (h1 : (FP.fdiv (FP.i2f z3) (FP.i2f z4)) &&& 0x7fffffff ≤ 0x7f800000) (h2 : (FP.fdiv (FP.i2f (z3 - z5)) (FP.i2f (z4 - z5))) &&& 0x7fffffff ≤ 0x7f800000) (hcar : mf_X5_car V 6 = 4) (hp : mf_X5_pressed V 4 = some FP.fconst0) (h4 : Op.cmpValue (FP.fcmp FP.fconst0 FP.fconst0) CmpOp.l = 0) : mf_L_told_B48_4 V z1 z2 z3 z4 z5 z6 = mf_L_told_B48_5 V z1 z2 z3 z4 z5 (fpx z6 FP.fconst0) := by
  unfold mf_L_told_B48_4 mf_L_told_B68_4
  simp only [bnd, if_neg h5, if_neg hne, if_pos h1, if_pos h2, if_pos hc, if_neg hk, ite_self, b141_4]
  unfold mf_L_told_B158_4 mf_L_told_B176_4 mf_L_told_B186_4
  simp only [bnd, if_pos hc]
  rw [if_pos hcar, hp, Option.bind_some, if_pos h4]
theorem pr_no_4 (V : CarV) (h : v4_target (v5_now V) = 0) : mf_X5_pressed V 4 = if mf_X4_isClosed 4 (v4_gear (v5_now V)) = 0 then some FP.fconst0 else some FP.fconst1 := by
  simp [mf_X5_pressed, mf_X4_pressureOf, mf_X4_pressureOf_B20, mf_X4_pressureOf_B40, mf_X4_isChanging, bnd, h]
  try (split <;> rfl)
theorem pr_ch_4 (V : CarV) (h : ¬ v4_target (v5_now V) = 0) : mf_X5_pressed V 4 = if 4 = mf_X4_closedOnlyIn (v4_gear (v5_now V)) (v4_target (v5_now V)) then mf_X4_openingPressure (v5_now V) else if 4 = mf_X4_closedOnlyIn (v4_target (v5_now V)) (v4_gear (v5_now V)) then mf_X4_closingPressure (v5_now V) else if mf_X4_isClosed 4 (v4_gear (v5_now V)) = 0 then some FP.fconst0 else some FP.fconst1 := by
  simp [mf_X5_pressed, mf_X4_pressureOf, mf_X4_pressureOf_B20, mf_X4_pressureOf_B40, mf_X4_isChanging, mf_X4_opening, mf_X4_closing, bnd, h]
theorem op_pr (S : St) {k n : Int32} (hn : v4_settings S 0 = n) (hk : v4_done S = k) (hn0 : ¬ n ≤ 0) (h1 : FP.fdiv (FP.i2f k) (FP.i2f n) &&& 0x7fffffff ≤ 0x7f800000) (h3 : FP.fsub FP.fconst1 (FP.fdiv (FP.i2f k) (FP.i2f n)) &&& 0x7fffffff ≤ 0x7f800000) : mf_X4_openingPressure S = some (FP.fsub FP.fconst1 (FP.fdiv (FP.i2f k) (FP.i2f n))) := by
  unfold mf_X4_openingPressure
  simp only [bnd, set_0, hn, hk, if_neg hn0, if_pos h1, if_pos h3]
theorem cl_pra (S : St) {k n g : Int32} (hn : v4_settings S 0 = n) (hg : v4_settings S 1 = g) (hk : v4_done S = k) (hgn : g < n) (hc : ¬ k ≤ g) (h2 : FP.fdiv (FP.i2f (k - g)) (FP.i2f (n - g)) &&& 0x7fffffff ≤ 0x7f800000) : mf_X4_closingPressure S = some (FP.fdiv (FP.i2f (k - g)) (FP.i2f (n - g))) := by
  unfold mf_X4_closingPressure
  simp only [bnd, set_0, set_1, hn, hg, hk, if_neg hc, if_pos hgn, if_pos h2]
theorem cl_prb (S : St) {k g : Int32} (hg : v4_settings S 1 = g) (hk : v4_done S = k) (hc : k ≤ g) : mf_X4_closingPressure S = some FP.fconst0 := by
  unfold mf_X4_closingPressure
  simp only [bnd, set_0, set_1, hg, hk, if_pos hc]
theorem tc_1 (V : CarV) {n lag : Int32} (hg : v4_gear (v5_now V) = 1) (ht : v4_target (v5_now V) = 0) (hn : v4_settings (v5_now V) 0 = n) (hl : v4_settings (v5_now V) 1 = lag) : mf_L_told V = mf_L_told_B48_5 V 1 (-5) (-5) n lag FP.fconst1 := by
  have e0 : mf_L_told V = mf_L_told_B48_0 V 1 (-5) (-5) n lag FP.fconst1 := by
    simp [mf_L_told, mf_L_told_B43, bnd, car_0, car_1, car_2, num_0, num_1, hg, ht, hn, hl]
  rw [e0, st_same_0 _ _ _ _ _ _ _ (Or.inl rfl) (by rw [pr_no_0 V ht, hg]; decide), st_same_1 _ _ _ _ _ _ _ (Or.inl rfl) (by rw [pr_no_1 V ht, hg]; decide), st_same_2 _ _ _ _ _ _ _ (Or.inl rfl) (by rw [pr_no_2 V ht, hg]; decide), st_same_3 _ _ _ _ _ _ _ (Or.inl rfl) (by rw [pr_no_3 V ht, hg]; decide), st_same_4 _ _ _ _ _ _ _ (Or.inl rfl) (by rw [pr_no_4 V ht, hg]; decide)]
theorem tc_2 (V : CarV) {n lag : Int32} (hg : v4_gear (v5_now V) = 2) (ht : v4_target (v5_now V) = 0) (hn : v4_settings (v5_now V) 0 = n) (hl : v4_settings (v5_now V) 1 = lag) : mf_L_told V = mf_L_told_B48_5 V 2 (-5) (-5) n lag FP.fconst1 := by
  have e0 : mf_L_told V = mf_L_told_B48_0 V 2 (-5) (-5) n lag FP.fconst1 := by
    simp [mf_L_told, mf_L_told_B43, bnd, car_0, car_1, car_2, num_0, num_1, hg, ht, hn, hl]
  rw [e0, st_same_0 _ _ _ _ _ _ _ (Or.inl rfl) (by rw [pr_no_0 V ht, hg]; decide), st_same_1 _ _ _ _ _ _ _ (Or.inl rfl) (by rw [pr_no_1 V ht, hg]; decide), st_same_2 _ _ _ _ _ _ _ (Or.inl rfl) (by rw [pr_no_2 V ht, hg]; decide), st_same_3 _ _ _ _ _ _ _ (Or.inl rfl) (by rw [pr_no_3 V ht, hg]; decide), st_same_4 _ _ _ _ _ _ _ (Or.inl rfl) (by rw [pr_no_4 V ht, hg]; decide)]
theorem tc_3 (V : CarV) {n lag : Int32} (hg : v4_gear (v5_now V) = 3) (ht : v4_target (v5_now V) = 0) (hn : v4_settings (v5_now V) 0 = n) (hl : v4_settings (v5_now V) 1 = lag) : mf_L_told V = mf_L_told_B48_5 V 3 (-5) (-5) n lag FP.fconst1 := by
  have e0 : mf_L_told V = mf_L_told_B48_0 V 3 (-5) (-5) n lag FP.fconst1 := by
    simp [mf_L_told, mf_L_told_B43, bnd, car_0, car_1, car_2, num_0, num_1, hg, ht, hn, hl]
  rw [e0, st_same_0 _ _ _ _ _ _ _ (Or.inl rfl) (by rw [pr_no_0 V ht, hg]; decide), st_same_1 _ _ _ _ _ _ _ (Or.inl rfl) (by rw [pr_no_1 V ht, hg]; decide), st_same_2 _ _ _ _ _ _ _ (Or.inl rfl) (by rw [pr_no_2 V ht, hg]; decide), st_same_3 _ _ _ _ _ _ _ (Or.inl rfl) (by rw [pr_no_3 V ht, hg]; decide), st_same_4 _ _ _ _ _ _ _ (Or.inl rfl) (by rw [pr_no_4 V ht, hg]; decide)]
theorem tc_4 (V : CarV) {n lag : Int32} (hg : v4_gear (v5_now V) = 4) (ht : v4_target (v5_now V) = 0) (hn : v4_settings (v5_now V) 0 = n) (hl : v4_settings (v5_now V) 1 = lag) : mf_L_told V = mf_L_told_B48_5 V 4 (-5) (-5) n lag FP.fconst1 := by
  have e0 : mf_L_told V = mf_L_told_B48_0 V 4 (-5) (-5) n lag FP.fconst1 := by
    simp [mf_L_told, mf_L_told_B43, bnd, car_0, car_1, car_2, num_0, num_1, hg, ht, hn, hl]
  rw [e0, st_same_0 _ _ _ _ _ _ _ (Or.inl rfl) (by rw [pr_no_0 V ht, hg]; decide), st_same_1 _ _ _ _ _ _ _ (Or.inl rfl) (by rw [pr_no_1 V ht, hg]; decide), st_same_2 _ _ _ _ _ _ _ (Or.inl rfl) (by rw [pr_no_2 V ht, hg]; decide), st_same_3 _ _ _ _ _ _ _ (Or.inl rfl) (by rw [pr_no_3 V ht, hg]; decide), st_same_4 _ _ _ _ _ _ _ (Or.inl rfl) (by rw [pr_no_4 V ht, hg]; decide)]
theorem tc_5 (V : CarV) {n lag : Int32} (hg : v4_gear (v5_now V) = 5) (ht : v4_target (v5_now V) = 0) (hn : v4_settings (v5_now V) 0 = n) (hl : v4_settings (v5_now V) 1 = lag) : mf_L_told V = mf_L_told_B48_5 V 5 (-5) (-5) n lag FP.fconst1 := by
  have e0 : mf_L_told V = mf_L_told_B48_0 V 5 (-5) (-5) n lag FP.fconst1 := by
    simp [mf_L_told, mf_L_told_B43, bnd, car_0, car_1, car_2, num_0, num_1, hg, ht, hn, hl]
  rw [e0, st_same_0 _ _ _ _ _ _ _ (Or.inl rfl) (by rw [pr_no_0 V ht, hg]; decide), st_same_1 _ _ _ _ _ _ _ (Or.inl rfl) (by rw [pr_no_1 V ht, hg]; decide), st_same_2 _ _ _ _ _ _ _ (Or.inl rfl) (by rw [pr_no_2 V ht, hg]; decide), st_same_3 _ _ _ _ _ _ _ (Or.inl rfl) (by rw [pr_no_3 V ht, hg]; decide), st_same_4 _ _ _ _ _ _ _ (Or.inl rfl) (by rw [pr_no_4 V ht, hg]; decide)]
theorem tc_1_2a (V : CarV) {n lag k : Int32} (hg : v4_gear (v5_now V) = 1) (ht : v4_target (v5_now V) = 2) (hn : v4_settings (v5_now V) 0 = n) (hl : v4_settings (v5_now V) 1 = lag) (hk : v4_done (v5_now V) = k) (hn0 : ¬ n ≤ 0) (hln : lag < n) (hc1 : lag < k) (hc2 : ¬ k ≤ lag)
    (h1 : FP.fdiv (FP.i2f k) (FP.i2f n) &&& 0x7fffffff ≤ 0x7f800000) (h2 : (FP.fdiv (FP.i2f (k - lag)) (FP.i2f (n - lag))) &&& 0x7fffffff ≤ 0x7f800000) (h3 : (FP.fsub FP.fconst1 (FP.fdiv (FP.i2f k) (FP.i2f n))) &&& 0x7fffffff ≤ 0x7f800000) (h4 : Op.cmpValue (FP.fcmp (FP.fsub FP.fconst1 (FP.fdiv (FP.i2f k) (FP.i2f n))) (FP.fsub FP.fconst1 (FP.fdiv (FP.i2f k) (FP.i2f n)))) CmpOp.l = 0) (h5 : Op.cmpValue (FP.fcmp (FP.fdiv (FP.i2f (k - lag)) (FP.i2f (n - lag))) (FP.fdiv (FP.i2f (k - lag)) (FP.i2f (n - lag)))) CmpOp.l = 0) : mf_L_told V = mf_L_told_B48_5 V 1 2 k n lag (fpx (fpx FP.fconst0 (FP.fdiv (FP.i2f (k - lag)) (FP.i2f (n - lag)))) (FP.fsub FP.fconst1 (FP.fdiv (FP.i2f k) (FP.i2f n)))) := by
  have e0 : mf_L_told V = mf_L_told_B48_0 V 1 2 k n lag FP.fconst0 := by
    simp [mf_L_told, mf_L_told_B43, bnd, car_0, car_1, car_2, num_0, num_1, hg, ht, hn, hl, hk]
  rw [e0, st_same_0 _ _ _ _ _ _ _ (Or.inr (by decide)) (by rw [pr_ch_0 V (by rw [ht]; decide), hg, ht, if_neg (by decide), if_neg (by decide)]; decide), st_same_1 _ _ _ _ _ _ _ (Or.inr (by decide)) (by rw [pr_ch_1 V (by rw [ht]; decide), hg, ht, if_neg (by decide), if_neg (by decide)]; decide), st_same_2 _ _ _ _ _ _ _ (Or.inr (by decide)) (by rw [pr_ch_2 V (by rw [ht]; decide), hg, ht, if_neg (by decide), if_neg (by decide)]; decide), st_close_3a _ _ _ _ _ _ _ (by decide) (by decide) (by decide) hc1 h1 h2 (by rw [car_6, hg, ht]; decide) (by rw [pr_ch_3 V (by rw [ht]; decide), hg, ht, if_neg (by decide), if_pos (by decide)]; exact cl_pra _ hn hl hk hln hc2 h2) h5, st_open_4 _ _ _ _ _ _ _ (by decide) (by decide) (by decide) h1 h2 h3 (by rw [car_5, hg, ht]; decide) (by rw [pr_ch_4 V (by rw [ht]; decide), hg, ht, if_pos (by decide)]; exact op_pr _ hn hk hn0 h1 h3) h4]
theorem tc_1_2b (V : CarV) {n lag k : Int32} (hg : v4_gear (v5_now V) = 1) (ht : v4_target (v5_now V) = 2) (hn : v4_settings (v5_now V) 0 = n) (hl : v4_settings (v5_now V) 1 = lag) (hk : v4_done (v5_now V) = k) (hn0 : ¬ n ≤ 0) (hln : lag < n) (hc1 : ¬ lag < k) (hc2 : k ≤ lag)
    (h1 : FP.fdiv (FP.i2f k) (FP.i2f n) &&& 0x7fffffff ≤ 0x7f800000) (h2 : (FP.fdiv (FP.i2f (k - lag)) (FP.i2f (n - lag))) &&& 0x7fffffff ≤ 0x7f800000) (h3 : (FP.fsub FP.fconst1 (FP.fdiv (FP.i2f k) (FP.i2f n))) &&& 0x7fffffff ≤ 0x7f800000) (h4 : Op.cmpValue (FP.fcmp (FP.fsub FP.fconst1 (FP.fdiv (FP.i2f k) (FP.i2f n))) (FP.fsub FP.fconst1 (FP.fdiv (FP.i2f k) (FP.i2f n)))) CmpOp.l = 0) (h5 : Op.cmpValue (FP.fcmp FP.fconst0 FP.fconst0) CmpOp.l = 0) : mf_L_told V = mf_L_told_B48_5 V 1 2 k n lag (fpx (fpx FP.fconst0 FP.fconst0) (FP.fsub FP.fconst1 (FP.fdiv (FP.i2f k) (FP.i2f n)))) := by
  have e0 : mf_L_told V = mf_L_told_B48_0 V 1 2 k n lag FP.fconst0 := by
    simp [mf_L_told, mf_L_told_B43, bnd, car_0, car_1, car_2, num_0, num_1, hg, ht, hn, hl, hk]
  rw [e0, st_same_0 _ _ _ _ _ _ _ (Or.inr (by decide)) (by rw [pr_ch_0 V (by rw [ht]; decide), hg, ht, if_neg (by decide), if_neg (by decide)]; decide), st_same_1 _ _ _ _ _ _ _ (Or.inr (by decide)) (by rw [pr_ch_1 V (by rw [ht]; decide), hg, ht, if_neg (by decide), if_neg (by decide)]; decide), st_same_2 _ _ _ _ _ _ _ (Or.inr (by decide)) (by rw [pr_ch_2 V (by rw [ht]; decide), hg, ht, if_neg (by decide), if_neg (by decide)]; decide), st_close_3b _ _ _ _ _ _ _ (by decide) (by decide) (by decide) hc1 h1 h2 (by rw [car_6, hg, ht]; decide) (by rw [pr_ch_3 V (by rw [ht]; decide), hg, ht, if_neg (by decide), if_pos (by decide)]; exact cl_prb _ hl hk hc2) h5, st_open_4 _ _ _ _ _ _ _ (by decide) (by decide) (by decide) h1 h2 h3 (by rw [car_5, hg, ht]; decide) (by rw [pr_ch_4 V (by rw [ht]; decide), hg, ht, if_pos (by decide)]; exact op_pr _ hn hk hn0 h1 h3) h4]
theorem tc_2_1a (V : CarV) {n lag k : Int32} (hg : v4_gear (v5_now V) = 2) (ht : v4_target (v5_now V) = 1) (hn : v4_settings (v5_now V) 0 = n) (hl : v4_settings (v5_now V) 1 = lag) (hk : v4_done (v5_now V) = k) (hn0 : ¬ n ≤ 0) (hln : lag < n) (hc1 : lag < k) (hc2 : ¬ k ≤ lag)
    (h1 : FP.fdiv (FP.i2f k) (FP.i2f n) &&& 0x7fffffff ≤ 0x7f800000) (h2 : (FP.fdiv (FP.i2f (k - lag)) (FP.i2f (n - lag))) &&& 0x7fffffff ≤ 0x7f800000) (h3 : (FP.fsub FP.fconst1 (FP.fdiv (FP.i2f k) (FP.i2f n))) &&& 0x7fffffff ≤ 0x7f800000) (h4 : Op.cmpValue (FP.fcmp (FP.fsub FP.fconst1 (FP.fdiv (FP.i2f k) (FP.i2f n))) (FP.fsub FP.fconst1 (FP.fdiv (FP.i2f k) (FP.i2f n)))) CmpOp.l = 0) (h5 : Op.cmpValue (FP.fcmp (FP.fdiv (FP.i2f (k - lag)) (FP.i2f (n - lag))) (FP.fdiv (FP.i2f (k - lag)) (FP.i2f (n - lag)))) CmpOp.l = 0) : mf_L_told V = mf_L_told_B48_5 V 2 1 k n lag (fpx (fpx FP.fconst0 (FP.fsub FP.fconst1 (FP.fdiv (FP.i2f k) (FP.i2f n)))) (FP.fdiv (FP.i2f (k - lag)) (FP.i2f (n - lag)))) := by
  have e0 : mf_L_told V = mf_L_told_B48_0 V 2 1 k n lag FP.fconst0 := by
    simp [mf_L_told, mf_L_told_B43, bnd, car_0, car_1, car_2, num_0, num_1, hg, ht, hn, hl, hk]
  rw [e0, st_same_0 _ _ _ _ _ _ _ (Or.inr (by decide)) (by rw [pr_ch_0 V (by rw [ht]; decide), hg, ht, if_neg (by decide), if_neg (by decide)]; decide), st_same_1 _ _ _ _ _ _ _ (Or.inr (by decide)) (by rw [pr_ch_1 V (by rw [ht]; decide), hg, ht, if_neg (by decide), if_neg (by decide)]; decide), st_same_2 _ _ _ _ _ _ _ (Or.inr (by decide)) (by rw [pr_ch_2 V (by rw [ht]; decide), hg, ht, if_neg (by decide), if_neg (by decide)]; decide), st_open_3 _ _ _ _ _ _ _ (by decide) (by decide) (by decide) h1 h2 h3 (by rw [car_5, hg, ht]; decide) (by rw [pr_ch_3 V (by rw [ht]; decide), hg, ht, if_pos (by decide)]; exact op_pr _ hn hk hn0 h1 h3) h4, st_close_4a _ _ _ _ _ _ _ (by decide) (by decide) (by decide) hc1 h1 h2 (by rw [car_6, hg, ht]; decide) (by rw [pr_ch_4 V (by rw [ht]; decide), hg, ht, if_neg (by decide), if_pos (by decide)]; exact cl_pra _ hn hl hk hln hc2 h2) h5]
theorem tc_2_1b (V : CarV) {n lag k : Int32} (hg : v4_gear (v5_now V) = 2) (ht : v4_target (v5_now V) = 1) (hn : v4_settings (v5_now V) 0 = n) (hl : v4_settings (v5_now V) 1 = lag) (hk : v4_done (v5_now V) = k) (hn0 : ¬ n ≤ 0) (hln : lag < n) (hc1 : ¬ lag < k) (hc2 : k ≤ lag)
    (h1 : FP.fdiv (FP.i2f k) (FP.i2f n) &&& 0x7fffffff ≤ 0x7f800000) (h2 : (FP.fdiv (FP.i2f (k - lag)) (FP.i2f (n - lag))) &&& 0x7fffffff ≤ 0x7f800000) (h3 : (FP.fsub FP.fconst1 (FP.fdiv (FP.i2f k) (FP.i2f n))) &&& 0x7fffffff ≤ 0x7f800000) (h4 : Op.cmpValue (FP.fcmp (FP.fsub FP.fconst1 (FP.fdiv (FP.i2f k) (FP.i2f n))) (FP.fsub FP.fconst1 (FP.fdiv (FP.i2f k) (FP.i2f n)))) CmpOp.l = 0) (h5 : Op.cmpValue (FP.fcmp FP.fconst0 FP.fconst0) CmpOp.l = 0) : mf_L_told V = mf_L_told_B48_5 V 2 1 k n lag (fpx (fpx FP.fconst0 (FP.fsub FP.fconst1 (FP.fdiv (FP.i2f k) (FP.i2f n)))) FP.fconst0) := by
  have e0 : mf_L_told V = mf_L_told_B48_0 V 2 1 k n lag FP.fconst0 := by
    simp [mf_L_told, mf_L_told_B43, bnd, car_0, car_1, car_2, num_0, num_1, hg, ht, hn, hl, hk]
  rw [e0, st_same_0 _ _ _ _ _ _ _ (Or.inr (by decide)) (by rw [pr_ch_0 V (by rw [ht]; decide), hg, ht, if_neg (by decide), if_neg (by decide)]; decide), st_same_1 _ _ _ _ _ _ _ (Or.inr (by decide)) (by rw [pr_ch_1 V (by rw [ht]; decide), hg, ht, if_neg (by decide), if_neg (by decide)]; decide), st_same_2 _ _ _ _ _ _ _ (Or.inr (by decide)) (by rw [pr_ch_2 V (by rw [ht]; decide), hg, ht, if_neg (by decide), if_neg (by decide)]; decide), st_open_3 _ _ _ _ _ _ _ (by decide) (by decide) (by decide) h1 h2 h3 (by rw [car_5, hg, ht]; decide) (by rw [pr_ch_3 V (by rw [ht]; decide), hg, ht, if_pos (by decide)]; exact op_pr _ hn hk hn0 h1 h3) h4, st_close_4b _ _ _ _ _ _ _ (by decide) (by decide) (by decide) hc1 h1 h2 (by rw [car_6, hg, ht]; decide) (by rw [pr_ch_4 V (by rw [ht]; decide), hg, ht, if_neg (by decide), if_pos (by decide)]; exact cl_prb _ hl hk hc2) h5]
theorem tc_2_3a (V : CarV) {n lag k : Int32} (hg : v4_gear (v5_now V) = 2) (ht : v4_target (v5_now V) = 3) (hn : v4_settings (v5_now V) 0 = n) (hl : v4_settings (v5_now V) 1 = lag) (hk : v4_done (v5_now V) = k) (hn0 : ¬ n ≤ 0) (hln : lag < n) (hc1 : lag < k) (hc2 : ¬ k ≤ lag)
    (h1 : FP.fdiv (FP.i2f k) (FP.i2f n) &&& 0x7fffffff ≤ 0x7f800000) (h2 : (FP.fdiv (FP.i2f (k - lag)) (FP.i2f (n - lag))) &&& 0x7fffffff ≤ 0x7f800000) (h3 : (FP.fsub FP.fconst1 (FP.fdiv (FP.i2f k) (FP.i2f n))) &&& 0x7fffffff ≤ 0x7f800000) (h4 : Op.cmpValue (FP.fcmp (FP.fsub FP.fconst1 (FP.fdiv (FP.i2f k) (FP.i2f n))) (FP.fsub FP.fconst1 (FP.fdiv (FP.i2f k) (FP.i2f n)))) CmpOp.l = 0) (h5 : Op.cmpValue (FP.fcmp (FP.fdiv (FP.i2f (k - lag)) (FP.i2f (n - lag))) (FP.fdiv (FP.i2f (k - lag)) (FP.i2f (n - lag)))) CmpOp.l = 0) : mf_L_told V = mf_L_told_B48_5 V 2 3 k n lag (fpx (fpx FP.fconst0 (FP.fdiv (FP.i2f (k - lag)) (FP.i2f (n - lag)))) (FP.fsub FP.fconst1 (FP.fdiv (FP.i2f k) (FP.i2f n)))) := by
  have e0 : mf_L_told V = mf_L_told_B48_0 V 2 3 k n lag FP.fconst0 := by
    simp [mf_L_told, mf_L_told_B43, bnd, car_0, car_1, car_2, num_0, num_1, hg, ht, hn, hl, hk]
  rw [e0, st_same_0 _ _ _ _ _ _ _ (Or.inr (by decide)) (by rw [pr_ch_0 V (by rw [ht]; decide), hg, ht, if_neg (by decide), if_neg (by decide)]; decide), st_same_1 _ _ _ _ _ _ _ (Or.inr (by decide)) (by rw [pr_ch_1 V (by rw [ht]; decide), hg, ht, if_neg (by decide), if_neg (by decide)]; decide), st_close_2a _ _ _ _ _ _ _ (by decide) (by decide) (by decide) hc1 h1 h2 (by rw [car_6, hg, ht]; decide) (by rw [pr_ch_2 V (by rw [ht]; decide), hg, ht, if_neg (by decide), if_pos (by decide)]; exact cl_pra _ hn hl hk hln hc2 h2) h5, st_open_3 _ _ _ _ _ _ _ (by decide) (by decide) (by decide) h1 h2 h3 (by rw [car_5, hg, ht]; decide) (by rw [pr_ch_3 V (by rw [ht]; decide), hg, ht, if_pos (by decide)]; exact op_pr _ hn hk hn0 h1 h3) h4, st_same_4 _ _ _ _ _ _ _ (Or.inr (by decide)) (by rw [pr_ch_4 V (by rw [ht]; decide), hg, ht, if_neg (by decide), if_neg (by decide)]; decide)]
theorem tc_2_3b (V : CarV) {n lag k : Int32} (hg : v4_gear (v5_now V) = 2) (ht : v4_target (v5_now V) = 3) (hn : v4_settings (v5_now V) 0 = n) (hl : v4_settings (v5_now V) 1 = lag) (hk : v4_done (v5_now V) = k) (hn0 : ¬ n ≤ 0) (hln : lag < n) (hc1 : ¬ lag < k) (hc2 : k ≤ lag)
    (h1 : FP.fdiv (FP.i2f k) (FP.i2f n) &&& 0x7fffffff ≤ 0x7f800000) (h2 : (FP.fdiv (FP.i2f (k - lag)) (FP.i2f (n - lag))) &&& 0x7fffffff ≤ 0x7f800000) (h3 : (FP.fsub FP.fconst1 (FP.fdiv (FP.i2f k) (FP.i2f n))) &&& 0x7fffffff ≤ 0x7f800000) (h4 : Op.cmpValue (FP.fcmp (FP.fsub FP.fconst1 (FP.fdiv (FP.i2f k) (FP.i2f n))) (FP.fsub FP.fconst1 (FP.fdiv (FP.i2f k) (FP.i2f n)))) CmpOp.l = 0) (h5 : Op.cmpValue (FP.fcmp FP.fconst0 FP.fconst0) CmpOp.l = 0) : mf_L_told V = mf_L_told_B48_5 V 2 3 k n lag (fpx (fpx FP.fconst0 FP.fconst0) (FP.fsub FP.fconst1 (FP.fdiv (FP.i2f k) (FP.i2f n)))) := by
  have e0 : mf_L_told V = mf_L_told_B48_0 V 2 3 k n lag FP.fconst0 := by
    simp [mf_L_told, mf_L_told_B43, bnd, car_0, car_1, car_2, num_0, num_1, hg, ht, hn, hl, hk]
  rw [e0, st_same_0 _ _ _ _ _ _ _ (Or.inr (by decide)) (by rw [pr_ch_0 V (by rw [ht]; decide), hg, ht, if_neg (by decide), if_neg (by decide)]; decide), st_same_1 _ _ _ _ _ _ _ (Or.inr (by decide)) (by rw [pr_ch_1 V (by rw [ht]; decide), hg, ht, if_neg (by decide), if_neg (by decide)]; decide), st_close_2b _ _ _ _ _ _ _ (by decide) (by decide) (by decide) hc1 h1 h2 (by rw [car_6, hg, ht]; decide) (by rw [pr_ch_2 V (by rw [ht]; decide), hg, ht, if_neg (by decide), if_pos (by decide)]; exact cl_prb _ hl hk hc2) h5, st_open_3 _ _ _ _ _ _ _ (by decide) (by decide) (by decide) h1 h2 h3 (by rw [car_5, hg, ht]; decide) (by rw [pr_ch_3 V (by rw [ht]; decide), hg, ht, if_pos (by decide)]; exact op_pr _ hn hk hn0 h1 h3) h4, st_same_4 _ _ _ _ _ _ _ (Or.inr (by decide)) (by rw [pr_ch_4 V (by rw [ht]; decide), hg, ht, if_neg (by decide), if_neg (by decide)]; decide)]
theorem tc_3_2a (V : CarV) {n lag k : Int32} (hg : v4_gear (v5_now V) = 3) (ht : v4_target (v5_now V) = 2) (hn : v4_settings (v5_now V) 0 = n) (hl : v4_settings (v5_now V) 1 = lag) (hk : v4_done (v5_now V) = k) (hn0 : ¬ n ≤ 0) (hln : lag < n) (hc1 : lag < k) (hc2 : ¬ k ≤ lag)
    (h1 : FP.fdiv (FP.i2f k) (FP.i2f n) &&& 0x7fffffff ≤ 0x7f800000) (h2 : (FP.fdiv (FP.i2f (k - lag)) (FP.i2f (n - lag))) &&& 0x7fffffff ≤ 0x7f800000) (h3 : (FP.fsub FP.fconst1 (FP.fdiv (FP.i2f k) (FP.i2f n))) &&& 0x7fffffff ≤ 0x7f800000) (h4 : Op.cmpValue (FP.fcmp (FP.fsub FP.fconst1 (FP.fdiv (FP.i2f k) (FP.i2f n))) (FP.fsub FP.fconst1 (FP.fdiv (FP.i2f k) (FP.i2f n)))) CmpOp.l = 0) (h5 : Op.cmpValue (FP.fcmp (FP.fdiv (FP.i2f (k - lag)) (FP.i2f (n - lag))) (FP.fdiv (FP.i2f (k - lag)) (FP.i2f (n - lag)))) CmpOp.l = 0) : mf_L_told V = mf_L_told_B48_5 V 3 2 k n lag (fpx (fpx FP.fconst0 (FP.fsub FP.fconst1 (FP.fdiv (FP.i2f k) (FP.i2f n)))) (FP.fdiv (FP.i2f (k - lag)) (FP.i2f (n - lag)))) := by
  have e0 : mf_L_told V = mf_L_told_B48_0 V 3 2 k n lag FP.fconst0 := by
    simp [mf_L_told, mf_L_told_B43, bnd, car_0, car_1, car_2, num_0, num_1, hg, ht, hn, hl, hk]
  rw [e0, st_same_0 _ _ _ _ _ _ _ (Or.inr (by decide)) (by rw [pr_ch_0 V (by rw [ht]; decide), hg, ht, if_neg (by decide), if_neg (by decide)]; decide), st_same_1 _ _ _ _ _ _ _ (Or.inr (by decide)) (by rw [pr_ch_1 V (by rw [ht]; decide), hg, ht, if_neg (by decide), if_neg (by decide)]; decide), st_open_2 _ _ _ _ _ _ _ (by decide) (by decide) (by decide) h1 h2 h3 (by rw [car_5, hg, ht]; decide) (by rw [pr_ch_2 V (by rw [ht]; decide), hg, ht, if_pos (by decide)]; exact op_pr _ hn hk hn0 h1 h3) h4, st_close_3a _ _ _ _ _ _ _ (by decide) (by decide) (by decide) hc1 h1 h2 (by rw [car_6, hg, ht]; decide) (by rw [pr_ch_3 V (by rw [ht]; decide), hg, ht, if_neg (by decide), if_pos (by decide)]; exact cl_pra _ hn hl hk hln hc2 h2) h5, st_same_4 _ _ _ _ _ _ _ (Or.inr (by decide)) (by rw [pr_ch_4 V (by rw [ht]; decide), hg, ht, if_neg (by decide), if_neg (by decide)]; decide)]
theorem tc_3_2b (V : CarV) {n lag k : Int32} (hg : v4_gear (v5_now V) = 3) (ht : v4_target (v5_now V) = 2) (hn : v4_settings (v5_now V) 0 = n) (hl : v4_settings (v5_now V) 1 = lag) (hk : v4_done (v5_now V) = k) (hn0 : ¬ n ≤ 0) (hln : lag < n) (hc1 : ¬ lag < k) (hc2 : k ≤ lag)
    (h1 : FP.fdiv (FP.i2f k) (FP.i2f n) &&& 0x7fffffff ≤ 0x7f800000) (h2 : (FP.fdiv (FP.i2f (k - lag)) (FP.i2f (n - lag))) &&& 0x7fffffff ≤ 0x7f800000) (h3 : (FP.fsub FP.fconst1 (FP.fdiv (FP.i2f k) (FP.i2f n))) &&& 0x7fffffff ≤ 0x7f800000) (h4 : Op.cmpValue (FP.fcmp (FP.fsub FP.fconst1 (FP.fdiv (FP.i2f k) (FP.i2f n))) (FP.fsub FP.fconst1 (FP.fdiv (FP.i2f k) (FP.i2f n)))) CmpOp.l = 0) (h5 : Op.cmpValue (FP.fcmp FP.fconst0 FP.fconst0) CmpOp.l = 0) : mf_L_told V = mf_L_told_B48_5 V 3 2 k n lag (fpx (fpx FP.fconst0 (FP.fsub FP.fconst1 (FP.fdiv (FP.i2f k) (FP.i2f n)))) FP.fconst0) := by
  have e0 : mf_L_told V = mf_L_told_B48_0 V 3 2 k n lag FP.fconst0 := by
    simp [mf_L_told, mf_L_told_B43, bnd, car_0, car_1, car_2, num_0, num_1, hg, ht, hn, hl, hk]
  rw [e0, st_same_0 _ _ _ _ _ _ _ (Or.inr (by decide)) (by rw [pr_ch_0 V (by rw [ht]; decide), hg, ht, if_neg (by decide), if_neg (by decide)]; decide), st_same_1 _ _ _ _ _ _ _ (Or.inr (by decide)) (by rw [pr_ch_1 V (by rw [ht]; decide), hg, ht, if_neg (by decide), if_neg (by decide)]; decide), st_open_2 _ _ _ _ _ _ _ (by decide) (by decide) (by decide) h1 h2 h3 (by rw [car_5, hg, ht]; decide) (by rw [pr_ch_2 V (by rw [ht]; decide), hg, ht, if_pos (by decide)]; exact op_pr _ hn hk hn0 h1 h3) h4, st_close_3b _ _ _ _ _ _ _ (by decide) (by decide) (by decide) hc1 h1 h2 (by rw [car_6, hg, ht]; decide) (by rw [pr_ch_3 V (by rw [ht]; decide), hg, ht, if_neg (by decide), if_pos (by decide)]; exact cl_prb _ hl hk hc2) h5, st_same_4 _ _ _ _ _ _ _ (Or.inr (by decide)) (by rw [pr_ch_4 V (by rw [ht]; decide), hg, ht, if_neg (by decide), if_neg (by decide)]; decide)]
theorem tc_3_4a (V : CarV) {n lag k : Int32} (hg : v4_gear (v5_now V) = 3) (ht : v4_target (v5_now V) = 4) (hn : v4_settings (v5_now V) 0 = n) (hl : v4_settings (v5_now V) 1 = lag) (hk : v4_done (v5_now V) = k) (hn0 : ¬ n ≤ 0) (hln : lag < n) (hc1 : lag < k) (hc2 : ¬ k ≤ lag)
    (h1 : FP.fdiv (FP.i2f k) (FP.i2f n) &&& 0x7fffffff ≤ 0x7f800000) (h2 : (FP.fdiv (FP.i2f (k - lag)) (FP.i2f (n - lag))) &&& 0x7fffffff ≤ 0x7f800000) (h3 : (FP.fsub FP.fconst1 (FP.fdiv (FP.i2f k) (FP.i2f n))) &&& 0x7fffffff ≤ 0x7f800000) (h4 : Op.cmpValue (FP.fcmp (FP.fsub FP.fconst1 (FP.fdiv (FP.i2f k) (FP.i2f n))) (FP.fsub FP.fconst1 (FP.fdiv (FP.i2f k) (FP.i2f n)))) CmpOp.l = 0) (h5 : Op.cmpValue (FP.fcmp (FP.fdiv (FP.i2f (k - lag)) (FP.i2f (n - lag))) (FP.fdiv (FP.i2f (k - lag)) (FP.i2f (n - lag)))) CmpOp.l = 0) : mf_L_told V = mf_L_told_B48_5 V 3 4 k n lag (fpx (fpx FP.fconst0 (FP.fdiv (FP.i2f (k - lag)) (FP.i2f (n - lag)))) (FP.fsub FP.fconst1 (FP.fdiv (FP.i2f k) (FP.i2f n)))) := by
  have e0 : mf_L_told V = mf_L_told_B48_0 V 3 4 k n lag FP.fconst0 := by
    simp [mf_L_told, mf_L_told_B43, bnd, car_0, car_1, car_2, num_0, num_1, hg, ht, hn, hl, hk]
  rw [e0, st_same_0 _ _ _ _ _ _ _ (Or.inr (by decide)) (by rw [pr_ch_0 V (by rw [ht]; decide), hg, ht, if_neg (by decide), if_neg (by decide)]; decide), st_close_1a _ _ _ _ _ _ _ (by decide) (by decide) (by decide) hc1 h1 h2 (by rw [car_6, hg, ht]; decide) (by rw [pr_ch_1 V (by rw [ht]; decide), hg, ht, if_neg (by decide), if_pos (by decide)]; exact cl_pra _ hn hl hk hln hc2 h2) h5, st_open_2 _ _ _ _ _ _ _ (by decide) (by decide) (by decide) h1 h2 h3 (by rw [car_5, hg, ht]; decide) (by rw [pr_ch_2 V (by rw [ht]; decide), hg, ht, if_pos (by decide)]; exact op_pr _ hn hk hn0 h1 h3) h4, st_same_3 _ _ _ _ _ _ _ (Or.inr (by decide)) (by rw [pr_ch_3 V (by rw [ht]; decide), hg, ht, if_neg (by decide), if_neg (by decide)]; decide), st_same_4 _ _ _ _ _ _ _ (Or.inr (by decide)) (by rw [pr_ch_4 V (by rw [ht]; decide), hg, ht, if_neg (by decide), if_neg (by decide)]; decide)]
theorem tc_3_4b (V : CarV) {n lag k : Int32} (hg : v4_gear (v5_now V) = 3) (ht : v4_target (v5_now V) = 4) (hn : v4_settings (v5_now V) 0 = n) (hl : v4_settings (v5_now V) 1 = lag) (hk : v4_done (v5_now V) = k) (hn0 : ¬ n ≤ 0) (hln : lag < n) (hc1 : ¬ lag < k) (hc2 : k ≤ lag)
    (h1 : FP.fdiv (FP.i2f k) (FP.i2f n) &&& 0x7fffffff ≤ 0x7f800000) (h2 : (FP.fdiv (FP.i2f (k - lag)) (FP.i2f (n - lag))) &&& 0x7fffffff ≤ 0x7f800000) (h3 : (FP.fsub FP.fconst1 (FP.fdiv (FP.i2f k) (FP.i2f n))) &&& 0x7fffffff ≤ 0x7f800000) (h4 : Op.cmpValue (FP.fcmp (FP.fsub FP.fconst1 (FP.fdiv (FP.i2f k) (FP.i2f n))) (FP.fsub FP.fconst1 (FP.fdiv (FP.i2f k) (FP.i2f n)))) CmpOp.l = 0) (h5 : Op.cmpValue (FP.fcmp FP.fconst0 FP.fconst0) CmpOp.l = 0) : mf_L_told V = mf_L_told_B48_5 V 3 4 k n lag (fpx (fpx FP.fconst0 FP.fconst0) (FP.fsub FP.fconst1 (FP.fdiv (FP.i2f k) (FP.i2f n)))) := by
  have e0 : mf_L_told V = mf_L_told_B48_0 V 3 4 k n lag FP.fconst0 := by
    simp [mf_L_told, mf_L_told_B43, bnd, car_0, car_1, car_2, num_0, num_1, hg, ht, hn, hl, hk]
  rw [e0, st_same_0 _ _ _ _ _ _ _ (Or.inr (by decide)) (by rw [pr_ch_0 V (by rw [ht]; decide), hg, ht, if_neg (by decide), if_neg (by decide)]; decide), st_close_1b _ _ _ _ _ _ _ (by decide) (by decide) (by decide) hc1 h1 h2 (by rw [car_6, hg, ht]; decide) (by rw [pr_ch_1 V (by rw [ht]; decide), hg, ht, if_neg (by decide), if_pos (by decide)]; exact cl_prb _ hl hk hc2) h5, st_open_2 _ _ _ _ _ _ _ (by decide) (by decide) (by decide) h1 h2 h3 (by rw [car_5, hg, ht]; decide) (by rw [pr_ch_2 V (by rw [ht]; decide), hg, ht, if_pos (by decide)]; exact op_pr _ hn hk hn0 h1 h3) h4, st_same_3 _ _ _ _ _ _ _ (Or.inr (by decide)) (by rw [pr_ch_3 V (by rw [ht]; decide), hg, ht, if_neg (by decide), if_neg (by decide)]; decide), st_same_4 _ _ _ _ _ _ _ (Or.inr (by decide)) (by rw [pr_ch_4 V (by rw [ht]; decide), hg, ht, if_neg (by decide), if_neg (by decide)]; decide)]
theorem tc_4_3a (V : CarV) {n lag k : Int32} (hg : v4_gear (v5_now V) = 4) (ht : v4_target (v5_now V) = 3) (hn : v4_settings (v5_now V) 0 = n) (hl : v4_settings (v5_now V) 1 = lag) (hk : v4_done (v5_now V) = k) (hn0 : ¬ n ≤ 0) (hln : lag < n) (hc1 : lag < k) (hc2 : ¬ k ≤ lag)
    (h1 : FP.fdiv (FP.i2f k) (FP.i2f n) &&& 0x7fffffff ≤ 0x7f800000) (h2 : (FP.fdiv (FP.i2f (k - lag)) (FP.i2f (n - lag))) &&& 0x7fffffff ≤ 0x7f800000) (h3 : (FP.fsub FP.fconst1 (FP.fdiv (FP.i2f k) (FP.i2f n))) &&& 0x7fffffff ≤ 0x7f800000) (h4 : Op.cmpValue (FP.fcmp (FP.fsub FP.fconst1 (FP.fdiv (FP.i2f k) (FP.i2f n))) (FP.fsub FP.fconst1 (FP.fdiv (FP.i2f k) (FP.i2f n)))) CmpOp.l = 0) (h5 : Op.cmpValue (FP.fcmp (FP.fdiv (FP.i2f (k - lag)) (FP.i2f (n - lag))) (FP.fdiv (FP.i2f (k - lag)) (FP.i2f (n - lag)))) CmpOp.l = 0) : mf_L_told V = mf_L_told_B48_5 V 4 3 k n lag (fpx (fpx FP.fconst0 (FP.fsub FP.fconst1 (FP.fdiv (FP.i2f k) (FP.i2f n)))) (FP.fdiv (FP.i2f (k - lag)) (FP.i2f (n - lag)))) := by
  have e0 : mf_L_told V = mf_L_told_B48_0 V 4 3 k n lag FP.fconst0 := by
    simp [mf_L_told, mf_L_told_B43, bnd, car_0, car_1, car_2, num_0, num_1, hg, ht, hn, hl, hk]
  rw [e0, st_same_0 _ _ _ _ _ _ _ (Or.inr (by decide)) (by rw [pr_ch_0 V (by rw [ht]; decide), hg, ht, if_neg (by decide), if_neg (by decide)]; decide), st_open_1 _ _ _ _ _ _ _ (by decide) (by decide) (by decide) h1 h2 h3 (by rw [car_5, hg, ht]; decide) (by rw [pr_ch_1 V (by rw [ht]; decide), hg, ht, if_pos (by decide)]; exact op_pr _ hn hk hn0 h1 h3) h4, st_close_2a _ _ _ _ _ _ _ (by decide) (by decide) (by decide) hc1 h1 h2 (by rw [car_6, hg, ht]; decide) (by rw [pr_ch_2 V (by rw [ht]; decide), hg, ht, if_neg (by decide), if_pos (by decide)]; exact cl_pra _ hn hl hk hln hc2 h2) h5, st_same_3 _ _ _ _ _ _ _ (Or.inr (by decide)) (by rw [pr_ch_3 V (by rw [ht]; decide), hg, ht, if_neg (by decide), if_neg (by decide)]; decide), st_same_4 _ _ _ _ _ _ _ (Or.inr (by decide)) (by rw [pr_ch_4 V (by rw [ht]; decide), hg, ht, if_neg (by decide), if_neg (by decide)]; decide)]
theorem tc_4_3b (V : CarV) {n lag k : Int32} (hg : v4_gear (v5_now V) = 4) (ht : v4_target (v5_now V) = 3) (hn : v4_settings (v5_now V) 0 = n) (hl : v4_settings (v5_now V) 1 = lag) (hk : v4_done (v5_now V) = k) (hn0 : ¬ n ≤ 0) (hln : lag < n) (hc1 : ¬ lag < k) (hc2 : k ≤ lag)
    (h1 : FP.fdiv (FP.i2f k) (FP.i2f n) &&& 0x7fffffff ≤ 0x7f800000) (h2 : (FP.fdiv (FP.i2f (k - lag)) (FP.i2f (n - lag))) &&& 0x7fffffff ≤ 0x7f800000) (h3 : (FP.fsub FP.fconst1 (FP.fdiv (FP.i2f k) (FP.i2f n))) &&& 0x7fffffff ≤ 0x7f800000) (h4 : Op.cmpValue (FP.fcmp (FP.fsub FP.fconst1 (FP.fdiv (FP.i2f k) (FP.i2f n))) (FP.fsub FP.fconst1 (FP.fdiv (FP.i2f k) (FP.i2f n)))) CmpOp.l = 0) (h5 : Op.cmpValue (FP.fcmp FP.fconst0 FP.fconst0) CmpOp.l = 0) : mf_L_told V = mf_L_told_B48_5 V 4 3 k n lag (fpx (fpx FP.fconst0 (FP.fsub FP.fconst1 (FP.fdiv (FP.i2f k) (FP.i2f n)))) FP.fconst0) := by
  have e0 : mf_L_told V = mf_L_told_B48_0 V 4 3 k n lag FP.fconst0 := by
    simp [mf_L_told, mf_L_told_B43, bnd, car_0, car_1, car_2, num_0, num_1, hg, ht, hn, hl, hk]
  rw [e0, st_same_0 _ _ _ _ _ _ _ (Or.inr (by decide)) (by rw [pr_ch_0 V (by rw [ht]; decide), hg, ht, if_neg (by decide), if_neg (by decide)]; decide), st_open_1 _ _ _ _ _ _ _ (by decide) (by decide) (by decide) h1 h2 h3 (by rw [car_5, hg, ht]; decide) (by rw [pr_ch_1 V (by rw [ht]; decide), hg, ht, if_pos (by decide)]; exact op_pr _ hn hk hn0 h1 h3) h4, st_close_2b _ _ _ _ _ _ _ (by decide) (by decide) (by decide) hc1 h1 h2 (by rw [car_6, hg, ht]; decide) (by rw [pr_ch_2 V (by rw [ht]; decide), hg, ht, if_neg (by decide), if_pos (by decide)]; exact cl_prb _ hl hk hc2) h5, st_same_3 _ _ _ _ _ _ _ (Or.inr (by decide)) (by rw [pr_ch_3 V (by rw [ht]; decide), hg, ht, if_neg (by decide), if_neg (by decide)]; decide), st_same_4 _ _ _ _ _ _ _ (Or.inr (by decide)) (by rw [pr_ch_4 V (by rw [ht]; decide), hg, ht, if_neg (by decide), if_neg (by decide)]; decide)]
theorem tc_4_5a (V : CarV) {n lag k : Int32} (hg : v4_gear (v5_now V) = 4) (ht : v4_target (v5_now V) = 5) (hn : v4_settings (v5_now V) 0 = n) (hl : v4_settings (v5_now V) 1 = lag) (hk : v4_done (v5_now V) = k) (hn0 : ¬ n ≤ 0) (hln : lag < n) (hc1 : lag < k) (hc2 : ¬ k ≤ lag)
    (h1 : FP.fdiv (FP.i2f k) (FP.i2f n) &&& 0x7fffffff ≤ 0x7f800000) (h2 : (FP.fdiv (FP.i2f (k - lag)) (FP.i2f (n - lag))) &&& 0x7fffffff ≤ 0x7f800000) (h3 : (FP.fsub FP.fconst1 (FP.fdiv (FP.i2f k) (FP.i2f n))) &&& 0x7fffffff ≤ 0x7f800000) (h4 : Op.cmpValue (FP.fcmp (FP.fsub FP.fconst1 (FP.fdiv (FP.i2f k) (FP.i2f n))) (FP.fsub FP.fconst1 (FP.fdiv (FP.i2f k) (FP.i2f n)))) CmpOp.l = 0) (h5 : Op.cmpValue (FP.fcmp (FP.fdiv (FP.i2f (k - lag)) (FP.i2f (n - lag))) (FP.fdiv (FP.i2f (k - lag)) (FP.i2f (n - lag)))) CmpOp.l = 0) : mf_L_told V = mf_L_told_B48_5 V 4 5 k n lag (fpx (fpx FP.fconst0 (FP.fsub FP.fconst1 (FP.fdiv (FP.i2f k) (FP.i2f n)))) (FP.fdiv (FP.i2f (k - lag)) (FP.i2f (n - lag)))) := by
  have e0 : mf_L_told V = mf_L_told_B48_0 V 4 5 k n lag FP.fconst0 := by
    simp [mf_L_told, mf_L_told_B43, bnd, car_0, car_1, car_2, num_0, num_1, hg, ht, hn, hl, hk]
  rw [e0, st_open_0 _ _ _ _ _ _ _ (by decide) (by decide) (by decide) h1 h2 h3 (by rw [car_5, hg, ht]; decide) (by rw [pr_ch_0 V (by rw [ht]; decide), hg, ht, if_pos (by decide)]; exact op_pr _ hn hk hn0 h1 h3) h4, st_same_1 _ _ _ _ _ _ _ (Or.inr (by decide)) (by rw [pr_ch_1 V (by rw [ht]; decide), hg, ht, if_neg (by decide), if_neg (by decide)]; decide), st_close_2a _ _ _ _ _ _ _ (by decide) (by decide) (by decide) hc1 h1 h2 (by rw [car_6, hg, ht]; decide) (by rw [pr_ch_2 V (by rw [ht]; decide), hg, ht, if_neg (by decide), if_pos (by decide)]; exact cl_pra _ hn hl hk hln hc2 h2) h5, st_same_3 _ _ _ _ _ _ _ (Or.inr (by decide)) (by rw [pr_ch_3 V (by rw [ht]; decide), hg, ht, if_neg (by decide), if_neg (by decide)]; decide), st_same_4 _ _ _ _ _ _ _ (Or.inr (by decide)) (by rw [pr_ch_4 V (by rw [ht]; decide), hg, ht, if_neg (by decide), if_neg (by decide)]; decide)]
theorem tc_4_5b (V : CarV) {n lag k : Int32} (hg : v4_gear (v5_now V) = 4) (ht : v4_target (v5_now V) = 5) (hn : v4_settings (v5_now V) 0 = n) (hl : v4_settings (v5_now V) 1 = lag) (hk : v4_done (v5_now V) = k) (hn0 : ¬ n ≤ 0) (hln : lag < n) (hc1 : ¬ lag < k) (hc2 : k ≤ lag)
    (h1 : FP.fdiv (FP.i2f k) (FP.i2f n) &&& 0x7fffffff ≤ 0x7f800000) (h2 : (FP.fdiv (FP.i2f (k - lag)) (FP.i2f (n - lag))) &&& 0x7fffffff ≤ 0x7f800000) (h3 : (FP.fsub FP.fconst1 (FP.fdiv (FP.i2f k) (FP.i2f n))) &&& 0x7fffffff ≤ 0x7f800000) (h4 : Op.cmpValue (FP.fcmp (FP.fsub FP.fconst1 (FP.fdiv (FP.i2f k) (FP.i2f n))) (FP.fsub FP.fconst1 (FP.fdiv (FP.i2f k) (FP.i2f n)))) CmpOp.l = 0) (h5 : Op.cmpValue (FP.fcmp FP.fconst0 FP.fconst0) CmpOp.l = 0) : mf_L_told V = mf_L_told_B48_5 V 4 5 k n lag (fpx (fpx FP.fconst0 (FP.fsub FP.fconst1 (FP.fdiv (FP.i2f k) (FP.i2f n)))) FP.fconst0) := by
  have e0 : mf_L_told V = mf_L_told_B48_0 V 4 5 k n lag FP.fconst0 := by
    simp [mf_L_told, mf_L_told_B43, bnd, car_0, car_1, car_2, num_0, num_1, hg, ht, hn, hl, hk]
  rw [e0, st_open_0 _ _ _ _ _ _ _ (by decide) (by decide) (by decide) h1 h2 h3 (by rw [car_5, hg, ht]; decide) (by rw [pr_ch_0 V (by rw [ht]; decide), hg, ht, if_pos (by decide)]; exact op_pr _ hn hk hn0 h1 h3) h4, st_same_1 _ _ _ _ _ _ _ (Or.inr (by decide)) (by rw [pr_ch_1 V (by rw [ht]; decide), hg, ht, if_neg (by decide), if_neg (by decide)]; decide), st_close_2b _ _ _ _ _ _ _ (by decide) (by decide) (by decide) hc1 h1 h2 (by rw [car_6, hg, ht]; decide) (by rw [pr_ch_2 V (by rw [ht]; decide), hg, ht, if_neg (by decide), if_pos (by decide)]; exact cl_prb _ hl hk hc2) h5, st_same_3 _ _ _ _ _ _ _ (Or.inr (by decide)) (by rw [pr_ch_3 V (by rw [ht]; decide), hg, ht, if_neg (by decide), if_neg (by decide)]; decide), st_same_4 _ _ _ _ _ _ _ (Or.inr (by decide)) (by rw [pr_ch_4 V (by rw [ht]; decide), hg, ht, if_neg (by decide), if_neg (by decide)]; decide)]
theorem tc_5_4a (V : CarV) {n lag k : Int32} (hg : v4_gear (v5_now V) = 5) (ht : v4_target (v5_now V) = 4) (hn : v4_settings (v5_now V) 0 = n) (hl : v4_settings (v5_now V) 1 = lag) (hk : v4_done (v5_now V) = k) (hn0 : ¬ n ≤ 0) (hln : lag < n) (hc1 : lag < k) (hc2 : ¬ k ≤ lag)
    (h1 : FP.fdiv (FP.i2f k) (FP.i2f n) &&& 0x7fffffff ≤ 0x7f800000) (h2 : (FP.fdiv (FP.i2f (k - lag)) (FP.i2f (n - lag))) &&& 0x7fffffff ≤ 0x7f800000) (h3 : (FP.fsub FP.fconst1 (FP.fdiv (FP.i2f k) (FP.i2f n))) &&& 0x7fffffff ≤ 0x7f800000) (h4 : Op.cmpValue (FP.fcmp (FP.fsub FP.fconst1 (FP.fdiv (FP.i2f k) (FP.i2f n))) (FP.fsub FP.fconst1 (FP.fdiv (FP.i2f k) (FP.i2f n)))) CmpOp.l = 0) (h5 : Op.cmpValue (FP.fcmp (FP.fdiv (FP.i2f (k - lag)) (FP.i2f (n - lag))) (FP.fdiv (FP.i2f (k - lag)) (FP.i2f (n - lag)))) CmpOp.l = 0) : mf_L_told V = mf_L_told_B48_5 V 5 4 k n lag (fpx (fpx FP.fconst0 (FP.fdiv (FP.i2f (k - lag)) (FP.i2f (n - lag)))) (FP.fsub FP.fconst1 (FP.fdiv (FP.i2f k) (FP.i2f n)))) := by
  have e0 : mf_L_told V = mf_L_told_B48_0 V 5 4 k n lag FP.fconst0 := by
    simp [mf_L_told, mf_L_told_B43, bnd, car_0, car_1, car_2, num_0, num_1, hg, ht, hn, hl, hk]
  rw [e0, st_close_0a _ _ _ _ _ _ _ (by decide) (by decide) (by decide) hc1 h1 h2 (by rw [car_6, hg, ht]; decide) (by rw [pr_ch_0 V (by rw [ht]; decide), hg, ht, if_neg (by decide), if_pos (by decide)]; exact cl_pra _ hn hl hk hln hc2 h2) h5, st_same_1 _ _ _ _ _ _ _ (Or.inr (by decide)) (by rw [pr_ch_1 V (by rw [ht]; decide), hg, ht, if_neg (by decide), if_neg (by decide)]; decide), st_open_2 _ _ _ _ _ _ _ (by decide) (by decide) (by decide) h1 h2 h3 (by rw [car_5, hg, ht]; decide) (by rw [pr_ch_2 V (by rw [ht]; decide), hg, ht, if_pos (by decide)]; exact op_pr _ hn hk hn0 h1 h3) h4, st_same_3 _ _ _ _ _ _ _ (Or.inr (by decide)) (by rw [pr_ch_3 V (by rw [ht]; decide), hg, ht, if_neg (by decide), if_neg (by decide)]; decide), st_same_4 _ _ _ _ _ _ _ (Or.inr (by decide)) (by rw [pr_ch_4 V (by rw [ht]; decide), hg, ht, if_neg (by decide), if_neg (by decide)]; decide)]
theorem tc_5_4b (V : CarV) {n lag k : Int32} (hg : v4_gear (v5_now V) = 5) (ht : v4_target (v5_now V) = 4) (hn : v4_settings (v5_now V) 0 = n) (hl : v4_settings (v5_now V) 1 = lag) (hk : v4_done (v5_now V) = k) (hn0 : ¬ n ≤ 0) (hln : lag < n) (hc1 : ¬ lag < k) (hc2 : k ≤ lag)
    (h1 : FP.fdiv (FP.i2f k) (FP.i2f n) &&& 0x7fffffff ≤ 0x7f800000) (h2 : (FP.fdiv (FP.i2f (k - lag)) (FP.i2f (n - lag))) &&& 0x7fffffff ≤ 0x7f800000) (h3 : (FP.fsub FP.fconst1 (FP.fdiv (FP.i2f k) (FP.i2f n))) &&& 0x7fffffff ≤ 0x7f800000) (h4 : Op.cmpValue (FP.fcmp (FP.fsub FP.fconst1 (FP.fdiv (FP.i2f k) (FP.i2f n))) (FP.fsub FP.fconst1 (FP.fdiv (FP.i2f k) (FP.i2f n)))) CmpOp.l = 0) (h5 : Op.cmpValue (FP.fcmp FP.fconst0 FP.fconst0) CmpOp.l = 0) : mf_L_told V = mf_L_told_B48_5 V 5 4 k n lag (fpx (fpx FP.fconst0 FP.fconst0) (FP.fsub FP.fconst1 (FP.fdiv (FP.i2f k) (FP.i2f n)))) := by
  have e0 : mf_L_told V = mf_L_told_B48_0 V 5 4 k n lag FP.fconst0 := by
    simp [mf_L_told, mf_L_told_B43, bnd, car_0, car_1, car_2, num_0, num_1, hg, ht, hn, hl, hk]
  rw [e0, st_close_0b _ _ _ _ _ _ _ (by decide) (by decide) (by decide) hc1 h1 h2 (by rw [car_6, hg, ht]; decide) (by rw [pr_ch_0 V (by rw [ht]; decide), hg, ht, if_neg (by decide), if_pos (by decide)]; exact cl_prb _ hl hk hc2) h5, st_same_1 _ _ _ _ _ _ _ (Or.inr (by decide)) (by rw [pr_ch_1 V (by rw [ht]; decide), hg, ht, if_neg (by decide), if_neg (by decide)]; decide), st_open_2 _ _ _ _ _ _ _ (by decide) (by decide) (by decide) h1 h2 h3 (by rw [car_5, hg, ht]; decide) (by rw [pr_ch_2 V (by rw [ht]; decide), hg, ht, if_pos (by decide)]; exact op_pr _ hn hk hn0 h1 h3) h4, st_same_3 _ _ _ _ _ _ _ (Or.inr (by decide)) (by rw [pr_ch_3 V (by rw [ht]; decide), hg, ht, if_neg (by decide), if_neg (by decide)]; decide), st_same_4 _ _ _ _ _ _ _ (Or.inr (by decide)) (by rw [pr_ch_4 V (by rw [ht]; decide), hg, ht, if_neg (by decide), if_neg (by decide)]; decide)]
theorem tc_3_1a (V : CarV) {n lag k : Int32} (hg : v4_gear (v5_now V) = 3) (ht : v4_target (v5_now V) = 1) (hn : v4_settings (v5_now V) 0 = n) (hl : v4_settings (v5_now V) 1 = lag) (hk : v4_done (v5_now V) = k) (hn0 : ¬ n ≤ 0) (hln : lag < n) (hc1 : lag < k) (hc2 : ¬ k ≤ lag)
    (h1 : FP.fdiv (FP.i2f k) (FP.i2f n) &&& 0x7fffffff ≤ 0x7f800000) (h2 : (FP.fdiv (FP.i2f (k - lag)) (FP.i2f (n - lag))) &&& 0x7fffffff ≤ 0x7f800000) (h3 : (FP.fsub FP.fconst1 (FP.fdiv (FP.i2f k) (FP.i2f n))) &&& 0x7fffffff ≤ 0x7f800000) (h4 : Op.cmpValue (FP.fcmp (FP.fsub FP.fconst1 (FP.fdiv (FP.i2f k) (FP.i2f n))) (FP.fsub FP.fconst1 (FP.fdiv (FP.i2f k) (FP.i2f n)))) CmpOp.l = 0) (h5 : Op.cmpValue (FP.fcmp (FP.fdiv (FP.i2f (k - lag)) (FP.i2f (n - lag))) (FP.fdiv (FP.i2f (k - lag)) (FP.i2f (n - lag)))) CmpOp.l = 0) : mf_L_told V = mf_L_told_B48_5 V 3 1 k n lag (fpx (fpx FP.fconst0 (FP.fsub FP.fconst1 (FP.fdiv (FP.i2f k) (FP.i2f n)))) (FP.fdiv (FP.i2f (k - lag)) (FP.i2f (n - lag)))) := by
  have e0 : mf_L_told V = mf_L_told_B48_0 V 3 1 k n lag FP.fconst0 := by
    simp [mf_L_told, mf_L_told_B43, bnd, car_0, car_1, car_2, num_0, num_1, hg, ht, hn, hl, hk]
  rw [e0, st_same_0 _ _ _ _ _ _ _ (Or.inr (by decide)) (by rw [pr_ch_0 V (by rw [ht]; decide), hg, ht, if_neg (by decide), if_neg (by decide)]; decide), st_same_1 _ _ _ _ _ _ _ (Or.inr (by decide)) (by rw [pr_ch_1 V (by rw [ht]; decide), hg, ht, if_neg (by decide), if_neg (by decide)]; decide), st_open_2 _ _ _ _ _ _ _ (by decide) (by decide) (by decide) h1 h2 h3 (by rw [car_5, hg, ht]; decide) (by rw [pr_ch_2 V (by rw [ht]; decide), hg, ht, if_pos (by decide)]; exact op_pr _ hn hk hn0 h1 h3) h4, st_same_3 _ _ _ _ _ _ _ (Or.inr (by decide)) (by rw [pr_ch_3 V (by rw [ht]; decide), hg, ht, if_neg (by decide), if_neg (by decide)]; decide), st_close_4a _ _ _ _ _ _ _ (by decide) (by decide) (by decide) hc1 h1 h2 (by rw [car_6, hg, ht]; decide) (by rw [pr_ch_4 V (by rw [ht]; decide), hg, ht, if_neg (by decide), if_pos (by decide)]; exact cl_pra _ hn hl hk hln hc2 h2) h5]
theorem tc_3_1b (V : CarV) {n lag k : Int32} (hg : v4_gear (v5_now V) = 3) (ht : v4_target (v5_now V) = 1) (hn : v4_settings (v5_now V) 0 = n) (hl : v4_settings (v5_now V) 1 = lag) (hk : v4_done (v5_now V) = k) (hn0 : ¬ n ≤ 0) (hln : lag < n) (hc1 : ¬ lag < k) (hc2 : k ≤ lag)
    (h1 : FP.fdiv (FP.i2f k) (FP.i2f n) &&& 0x7fffffff ≤ 0x7f800000) (h2 : (FP.fdiv (FP.i2f (k - lag)) (FP.i2f (n - lag))) &&& 0x7fffffff ≤ 0x7f800000) (h3 : (FP.fsub FP.fconst1 (FP.fdiv (FP.i2f k) (FP.i2f n))) &&& 0x7fffffff ≤ 0x7f800000) (h4 : Op.cmpValue (FP.fcmp (FP.fsub FP.fconst1 (FP.fdiv (FP.i2f k) (FP.i2f n))) (FP.fsub FP.fconst1 (FP.fdiv (FP.i2f k) (FP.i2f n)))) CmpOp.l = 0) (h5 : Op.cmpValue (FP.fcmp FP.fconst0 FP.fconst0) CmpOp.l = 0) : mf_L_told V = mf_L_told_B48_5 V 3 1 k n lag (fpx (fpx FP.fconst0 (FP.fsub FP.fconst1 (FP.fdiv (FP.i2f k) (FP.i2f n)))) FP.fconst0) := by
  have e0 : mf_L_told V = mf_L_told_B48_0 V 3 1 k n lag FP.fconst0 := by
    simp [mf_L_told, mf_L_told_B43, bnd, car_0, car_1, car_2, num_0, num_1, hg, ht, hn, hl, hk]
  rw [e0, st_same_0 _ _ _ _ _ _ _ (Or.inr (by decide)) (by rw [pr_ch_0 V (by rw [ht]; decide), hg, ht, if_neg (by decide), if_neg (by decide)]; decide), st_same_1 _ _ _ _ _ _ _ (Or.inr (by decide)) (by rw [pr_ch_1 V (by rw [ht]; decide), hg, ht, if_neg (by decide), if_neg (by decide)]; decide), st_open_2 _ _ _ _ _ _ _ (by decide) (by decide) (by decide) h1 h2 h3 (by rw [car_5, hg, ht]; decide) (by rw [pr_ch_2 V (by rw [ht]; decide), hg, ht, if_pos (by decide)]; exact op_pr _ hn hk hn0 h1 h3) h4, st_same_3 _ _ _ _ _ _ _ (Or.inr (by decide)) (by rw [pr_ch_3 V (by rw [ht]; decide), hg, ht, if_neg (by decide), if_neg (by decide)]; decide), st_close_4b _ _ _ _ _ _ _ (by decide) (by decide) (by decide) hc1 h1 h2 (by rw [car_6, hg, ht]; decide) (by rw [pr_ch_4 V (by rw [ht]; decide), hg, ht, if_neg (by decide), if_pos (by decide)]; exact cl_prb _ hl hk hc2) h5]
theorem tc_4_2a (V : CarV) {n lag k : Int32} (hg : v4_gear (v5_now V) = 4) (ht : v4_target (v5_now V) = 2) (hn : v4_settings (v5_now V) 0 = n) (hl : v4_settings (v5_now V) 1 = lag) (hk : v4_done (v5_now V) = k) (hn0 : ¬ n ≤ 0) (hln : lag < n) (hc1 : lag < k) (hc2 : ¬ k ≤ lag)
    (h1 : FP.fdiv (FP.i2f k) (FP.i2f n) &&& 0x7fffffff ≤ 0x7f800000) (h2 : (FP.fdiv (FP.i2f (k - lag)) (FP.i2f (n - lag))) &&& 0x7fffffff ≤ 0x7f800000) (h3 : (FP.fsub FP.fconst1 (FP.fdiv (FP.i2f k) (FP.i2f n))) &&& 0x7fffffff ≤ 0x7f800000) (h4 : Op.cmpValue (FP.fcmp (FP.fsub FP.fconst1 (FP.fdiv (FP.i2f k) (FP.i2f n))) (FP.fsub FP.fconst1 (FP.fdiv (FP.i2f k) (FP.i2f n)))) CmpOp.l = 0) (h5 : Op.cmpValue (FP.fcmp (FP.fdiv (FP.i2f (k - lag)) (FP.i2f (n - lag))) (FP.fdiv (FP.i2f (k - lag)) (FP.i2f (n - lag)))) CmpOp.l = 0) : mf_L_told V = mf_L_told_B48_5 V 4 2 k n lag (fpx (fpx FP.fconst0 (FP.fsub FP.fconst1 (FP.fdiv (FP.i2f k) (FP.i2f n)))) (FP.fdiv (FP.i2f (k - lag)) (FP.i2f (n - lag)))) := by
  have e0 : mf_L_told V = mf_L_told_B48_0 V 4 2 k n lag FP.fconst0 := by
    simp [mf_L_told, mf_L_told_B43, bnd, car_0, car_1, car_2, num_0, num_1, hg, ht, hn, hl, hk]
  rw [e0, st_same_0 _ _ _ _ _ _ _ (Or.inr (by decide)) (by rw [pr_ch_0 V (by rw [ht]; decide), hg, ht, if_neg (by decide), if_neg (by decide)]; decide), st_open_1 _ _ _ _ _ _ _ (by decide) (by decide) (by decide) h1 h2 h3 (by rw [car_5, hg, ht]; decide) (by rw [pr_ch_1 V (by rw [ht]; decide), hg, ht, if_pos (by decide)]; exact op_pr _ hn hk hn0 h1 h3) h4, st_same_2 _ _ _ _ _ _ _ (Or.inr (by decide)) (by rw [pr_ch_2 V (by rw [ht]; decide), hg, ht, if_neg (by decide), if_neg (by decide)]; decide), st_close_3a _ _ _ _ _ _ _ (by decide) (by decide) (by decide) hc1 h1 h2 (by rw [car_6, hg, ht]; decide) (by rw [pr_ch_3 V (by rw [ht]; decide), hg, ht, if_neg (by decide), if_pos (by decide)]; exact cl_pra _ hn hl hk hln hc2 h2) h5, st_same_4 _ _ _ _ _ _ _ (Or.inr (by decide)) (by rw [pr_ch_4 V (by rw [ht]; decide), hg, ht, if_neg (by decide), if_neg (by decide)]; decide)]
theorem tc_4_2b (V : CarV) {n lag k : Int32} (hg : v4_gear (v5_now V) = 4) (ht : v4_target (v5_now V) = 2) (hn : v4_settings (v5_now V) 0 = n) (hl : v4_settings (v5_now V) 1 = lag) (hk : v4_done (v5_now V) = k) (hn0 : ¬ n ≤ 0) (hln : lag < n) (hc1 : ¬ lag < k) (hc2 : k ≤ lag)
    (h1 : FP.fdiv (FP.i2f k) (FP.i2f n) &&& 0x7fffffff ≤ 0x7f800000) (h2 : (FP.fdiv (FP.i2f (k - lag)) (FP.i2f (n - lag))) &&& 0x7fffffff ≤ 0x7f800000) (h3 : (FP.fsub FP.fconst1 (FP.fdiv (FP.i2f k) (FP.i2f n))) &&& 0x7fffffff ≤ 0x7f800000) (h4 : Op.cmpValue (FP.fcmp (FP.fsub FP.fconst1 (FP.fdiv (FP.i2f k) (FP.i2f n))) (FP.fsub FP.fconst1 (FP.fdiv (FP.i2f k) (FP.i2f n)))) CmpOp.l = 0) (h5 : Op.cmpValue (FP.fcmp FP.fconst0 FP.fconst0) CmpOp.l = 0) : mf_L_told V = mf_L_told_B48_5 V 4 2 k n lag (fpx (fpx FP.fconst0 (FP.fsub FP.fconst1 (FP.fdiv (FP.i2f k) (FP.i2f n)))) FP.fconst0) := by
  have e0 : mf_L_told V = mf_L_told_B48_0 V 4 2 k n lag FP.fconst0 := by
    simp [mf_L_told, mf_L_told_B43, bnd, car_0, car_1, car_2, num_0, num_1, hg, ht, hn, hl, hk]
  rw [e0, st_same_0 _ _ _ _ _ _ _ (Or.inr (by decide)) (by rw [pr_ch_0 V (by rw [ht]; decide), hg, ht, if_neg (by decide), if_neg (by decide)]; decide), st_open_1 _ _ _ _ _ _ _ (by decide) (by decide) (by decide) h1 h2 h3 (by rw [car_5, hg, ht]; decide) (by rw [pr_ch_1 V (by rw [ht]; decide), hg, ht, if_pos (by decide)]; exact op_pr _ hn hk hn0 h1 h3) h4, st_same_2 _ _ _ _ _ _ _ (Or.inr (by decide)) (by rw [pr_ch_2 V (by rw [ht]; decide), hg, ht, if_neg (by decide), if_neg (by decide)]; decide), st_close_3b _ _ _ _ _ _ _ (by decide) (by decide) (by decide) hc1 h1 h2 (by rw [car_6, hg, ht]; decide) (by rw [pr_ch_3 V (by rw [ht]; decide), hg, ht, if_neg (by decide), if_pos (by decide)]; exact cl_prb _ hl hk hc2) h5, st_same_4 _ _ _ _ _ _ _ (Or.inr (by decide)) (by rw [pr_ch_4 V (by rw [ht]; decide), hg, ht, if_neg (by decide), if_neg (by decide)]; decide)]
theorem tc_5_3a (V : CarV) {n lag k : Int32} (hg : v4_gear (v5_now V) = 5) (ht : v4_target (v5_now V) = 3) (hn : v4_settings (v5_now V) 0 = n) (hl : v4_settings (v5_now V) 1 = lag) (hk : v4_done (v5_now V) = k) (hn0 : ¬ n ≤ 0) (hln : lag < n) (hc1 : lag < k) (hc2 : ¬ k ≤ lag)
    (h1 : FP.fdiv (FP.i2f k) (FP.i2f n) &&& 0x7fffffff ≤ 0x7f800000) (h2 : (FP.fdiv (FP.i2f (k - lag)) (FP.i2f (n - lag))) &&& 0x7fffffff ≤ 0x7f800000) (h3 : (FP.fsub FP.fconst1 (FP.fdiv (FP.i2f k) (FP.i2f n))) &&& 0x7fffffff ≤ 0x7f800000) (h4 : Op.cmpValue (FP.fcmp (FP.fsub FP.fconst1 (FP.fdiv (FP.i2f k) (FP.i2f n))) (FP.fsub FP.fconst1 (FP.fdiv (FP.i2f k) (FP.i2f n)))) CmpOp.l = 0) (h5 : Op.cmpValue (FP.fcmp (FP.fdiv (FP.i2f (k - lag)) (FP.i2f (n - lag))) (FP.fdiv (FP.i2f (k - lag)) (FP.i2f (n - lag)))) CmpOp.l = 0) : mf_L_told V = mf_L_told_B48_5 V 5 3 k n lag (fpx (fpx FP.fconst0 (FP.fdiv (FP.i2f (k - lag)) (FP.i2f (n - lag)))) (FP.fsub FP.fconst1 (FP.fdiv (FP.i2f k) (FP.i2f n)))) := by
  have e0 : mf_L_told V = mf_L_told_B48_0 V 5 3 k n lag FP.fconst0 := by
    simp [mf_L_told, mf_L_told_B43, bnd, car_0, car_1, car_2, num_0, num_1, hg, ht, hn, hl, hk]
  rw [e0, st_close_0a _ _ _ _ _ _ _ (by decide) (by decide) (by decide) hc1 h1 h2 (by rw [car_6, hg, ht]; decide) (by rw [pr_ch_0 V (by rw [ht]; decide), hg, ht, if_neg (by decide), if_pos (by decide)]; exact cl_pra _ hn hl hk hln hc2 h2) h5, st_open_1 _ _ _ _ _ _ _ (by decide) (by decide) (by decide) h1 h2 h3 (by rw [car_5, hg, ht]; decide) (by rw [pr_ch_1 V (by rw [ht]; decide), hg, ht, if_pos (by decide)]; exact op_pr _ hn hk hn0 h1 h3) h4, st_same_2 _ _ _ _ _ _ _ (Or.inr (by decide)) (by rw [pr_ch_2 V (by rw [ht]; decide), hg, ht, if_neg (by decide), if_neg (by decide)]; decide), st_same_3 _ _ _ _ _ _ _ (Or.inr (by decide)) (by rw [pr_ch_3 V (by rw [ht]; decide), hg, ht, if_neg (by decide), if_neg (by decide)]; decide), st_same_4 _ _ _ _ _ _ _ (Or.inr (by decide)) (by rw [pr_ch_4 V (by rw [ht]; decide), hg, ht, if_neg (by decide), if_neg (by decide)]; decide)]
theorem tc_5_3b (V : CarV) {n lag k : Int32} (hg : v4_gear (v5_now V) = 5) (ht : v4_target (v5_now V) = 3) (hn : v4_settings (v5_now V) 0 = n) (hl : v4_settings (v5_now V) 1 = lag) (hk : v4_done (v5_now V) = k) (hn0 : ¬ n ≤ 0) (hln : lag < n) (hc1 : ¬ lag < k) (hc2 : k ≤ lag)
    (h1 : FP.fdiv (FP.i2f k) (FP.i2f n) &&& 0x7fffffff ≤ 0x7f800000) (h2 : (FP.fdiv (FP.i2f (k - lag)) (FP.i2f (n - lag))) &&& 0x7fffffff ≤ 0x7f800000) (h3 : (FP.fsub FP.fconst1 (FP.fdiv (FP.i2f k) (FP.i2f n))) &&& 0x7fffffff ≤ 0x7f800000) (h4 : Op.cmpValue (FP.fcmp (FP.fsub FP.fconst1 (FP.fdiv (FP.i2f k) (FP.i2f n))) (FP.fsub FP.fconst1 (FP.fdiv (FP.i2f k) (FP.i2f n)))) CmpOp.l = 0) (h5 : Op.cmpValue (FP.fcmp FP.fconst0 FP.fconst0) CmpOp.l = 0) : mf_L_told V = mf_L_told_B48_5 V 5 3 k n lag (fpx (fpx FP.fconst0 FP.fconst0) (FP.fsub FP.fconst1 (FP.fdiv (FP.i2f k) (FP.i2f n)))) := by
  have e0 : mf_L_told V = mf_L_told_B48_0 V 5 3 k n lag FP.fconst0 := by
    simp [mf_L_told, mf_L_told_B43, bnd, car_0, car_1, car_2, num_0, num_1, hg, ht, hn, hl, hk]
  rw [e0, st_close_0b _ _ _ _ _ _ _ (by decide) (by decide) (by decide) hc1 h1 h2 (by rw [car_6, hg, ht]; decide) (by rw [pr_ch_0 V (by rw [ht]; decide), hg, ht, if_neg (by decide), if_pos (by decide)]; exact cl_prb _ hl hk hc2) h5, st_open_1 _ _ _ _ _ _ _ (by decide) (by decide) (by decide) h1 h2 h3 (by rw [car_5, hg, ht]; decide) (by rw [pr_ch_1 V (by rw [ht]; decide), hg, ht, if_pos (by decide)]; exact op_pr _ hn hk hn0 h1 h3) h4, st_same_2 _ _ _ _ _ _ _ (Or.inr (by decide)) (by rw [pr_ch_2 V (by rw [ht]; decide), hg, ht, if_neg (by decide), if_neg (by decide)]; decide), st_same_3 _ _ _ _ _ _ _ (Or.inr (by decide)) (by rw [pr_ch_3 V (by rw [ht]; decide), hg, ht, if_neg (by decide), if_neg (by decide)]; decide), st_same_4 _ _ _ _ _ _ _ (Or.inr (by decide)) (by rw [pr_ch_4 V (by rw [ht]; decide), hg, ht, if_neg (by decide), if_neg (by decide)]; decide)]
