/-! what holds of a car between two acts, and told as a whole -/
def FVm (f : Nat → UInt32) : Prop := ∀ i, i < 20 → f i ∈ FV
def StOK (S : St) : Prop := (1 ≤ v4_gear S ∧ v4_gear S ≤ 5) ∧ (v4_target S = 0 ∨ ((v4_target S = v4_gear S + 1 ∨ v4_target S = v4_gear S - 1 ∨ v4_target S = v4_gear S - 2) ∧ 1 ≤ v4_target S ∧ v4_target S ≤ 5 ∧ 0 ≤ v4_done S ∧ v4_done S < v4_settings S 0)) ∧ (2 ≤ v4_settings S 0 ∧ v4_settings S 0 ≤ 20) ∧ (0 ≤ v4_settings S 1 ∧ v4_settings S 1 < v4_settings S 0) ∧ (1 ≤ v4_settings S 2 ∧ v4_settings S 2 ≤ 100) ∧ (1 ≤ v4_settings S 3 ∧ v4_settings S 3 ≤ 100) ∧ (0 ≤ v4_held S ∧ v4_held S ≤ 100) ∧ (v4_handMode S = 0 ∨ v4_handMode S = 1) ∧ FVm (v4_maps S)
def CntOK (c : Nat → Int32) (T : Int32) : Prop := (∀ i, i < 13 → 0 ≤ c i ∧ c i ≤ T) ∧ c 7 + c 8 + c 9 + c 10 + c 11 = c 0 ∧ c 12 ≤ c 0
def LastG (S : St) : Int32 := if v4_target S = 0 then v4_gear S else v4_target S
def SzOK (z a : Int32) : Prop := (10 ≤ a ∧ z = 10) ∨ (¬ 10 ≤ a ∧ z = a)
def NowOK (T : Int32) (S : St) : Prop := StOK S ∧ CntOK (v4_counts S) T ∧ LogOK (v4_log S) (v4_counts S 0) (LastG S) ∧ SzOK (v2_size (v4_log S)) (v4_counts S 1 + v4_counts S 2 + v4_counts S 3 + v4_counts S 4 + v4_counts S 5)
theorem none_5 (V : CarV) : ∃ x, mf_X5_pressed V 5 = some x ∧ mf_L_isNone x = 1 := ⟨mf_X5_notANumber, by
  unfold mf_X5_pressed mf_X5_pressed_B20 bnd
  rw [if_neg (by decide), if_pos (by decide)], by decide +kernel⟩
theorem told_tail (V : CarV) (z1 z2 : Int32) (z6 : UInt32) {T : Int32} (hC : CntOK (v4_counts (v5_now V)) T) (hL : LogOK (v4_log (v5_now V)) (v4_counts (v5_now V) 0) (if z2 = -5 then z1 else z2)) (hz : SzOK (v2_size (v4_log (v5_now V))) (v4_counts (v5_now V) 1 + v4_counts (v5_now V) 2 + v4_counts (v5_now V) 3 + v4_counts (v5_now V) 4 + v4_counts (v5_now V) 5)) {fr : UInt32} (hf : mf_X5_force V = some fr) (h6 : Op.cmpValue (FP.fcmp fr z6) CmpOp.l = 0) : mf_L_told_B267 V z1 z2 z6 1 = some 1 := by
  obtain ⟨x5, hx5, hn5⟩ := none_5 V
  have key : mf_L_told_B314 V z1 z2 z6 1 (v2_size (v4_log (v5_now V))) = some 1 := by
    unfold mf_L_told_B314
    simp only [bnd, cnt_7, cnt_8, cnt_9, cnt_10, cnt_11, cnt_0, cnt_12, car_7]
    rw [if_neg (by decide), hf, Option.bind_some, if_pos h6, if_pos hC.2.1, hC.2.1, if_neg (Int32.not_lt.mpr hC.2.2), if_pos trivial, hx5, Option.bind_some, hn5, if_neg (by decide)]
    exact told_lp V z1 z2 _ hL 20 0 (by omega) hL.2.1.1 (by omega)
  unfold mf_L_told_B267
  simp only [bnd, cnt_1, cnt_2, cnt_3, cnt_4, cnt_5]
  rcases hz with ⟨h, e⟩ | ⟨h, e⟩
  · rw [if_pos h, ← e]
    exact key
  · rw [if_neg h, ← e]
    exact key
theorem force_no (V : CarV) (h : v4_target (v5_now V) = 0) : mf_X5_force V = some FP.fconst1 := by
  simp [mf_X5_force, mf_X4_greaterPressure, mf_X4_isChanging, bnd, h]
theorem force_ch (V : CarV) (h : ¬ v4_target (v5_now V) = 0) {o c : UInt32} (h1 : mf_X4_openingPressure (v5_now V) = some o) (h2 : mf_X4_closingPressure (v5_now V) = some c) : mf_X5_force V = some (if fcl o c < 0 then c else o) := by
  simp only [mf_X5_force, mf_X4_greaterPressure, mf_X4_isChanging, bnd, if_neg h, h1, h2, Option.bind_some]
  rw [if_neg (by decide)]
  by_cases q : Op.cmpValue (FP.fcmp o c) CmpOp.l < 0
  · rw [if_pos q, if_pos (show fcl o c < 0 from q)]; rfl
  · rw [if_neg q, if_neg (show ¬ fcl o c < 0 from q)]; rfl
theorem b48_ch (V : CarV) (z1 z2 z3 z4 z5 : Int32) (z6 : UInt32) (h2 : ¬ z2 = -5) (h3 : ¬ z3 < 0) (h4 : ¬ z4 ≤ z3) (h1 : ¬ z2 = z1) : mf_L_told_B48_5 V z1 z2 z3 z4 z5 z6 = mf_L_told_B267 V z1 z2 z6 1 := by
  unfold mf_L_told_B48_5
  rw [if_neg h2, if_neg h3, if_neg h4, if_neg h1]
theorem b48_no (V : CarV) (z1 z4 z5 : Int32) (z6 : UInt32) (h : v4_target (v5_now V) = 0) : mf_L_told_B48_5 V z1 (-5) (-5) z4 z5 z6 = mf_L_told_B267 V z1 (-5) z6 1 := by
  unfold mf_L_told_B48_5
  simp only [bnd, car_5, car_6, if_pos h]
  exact (if_pos trivial).trans ((if_pos trivial).trans ((if_pos trivial).trans (if_pos trivial)))
theorem fpt_use {n g k : Nat} (h : fpt n g k = true) : (FP.fdiv (FP.i2f (nI k)) (FP.i2f (nI n)) &&& 0x7fffffff ≤ 0x7f800000) ∧ (FP.fdiv (FP.i2f (nI k - nI g)) (FP.i2f (nI n - nI g)) &&& 0x7fffffff ≤ 0x7f800000) ∧ (FP.fsub FP.fconst1 (FP.fdiv (FP.i2f (nI k)) (FP.i2f (nI n))) &&& 0x7fffffff ≤ 0x7f800000) ∧ fcl (FP.fsub FP.fconst1 (FP.fdiv (FP.i2f (nI k)) (FP.i2f (nI n)))) (FP.fsub FP.fconst1 (FP.fdiv (FP.i2f (nI k)) (FP.i2f (nI n)))) = 0 ∧
    (∀ cl : UInt32, cl = (if g < k then FP.fdiv (FP.i2f (nI k - nI g)) (FP.i2f (nI n - nI g)) else 0) → fcl cl cl = 0 ∧ fcl (if fcl (FP.fsub FP.fconst1 (FP.fdiv (FP.i2f (nI k)) (FP.i2f (nI n)))) cl < 0 then cl else (FP.fsub FP.fconst1 (FP.fdiv (FP.i2f (nI k)) (FP.i2f (nI n))))) (fpx (fpx 0 (FP.fsub FP.fconst1 (FP.fdiv (FP.i2f (nI k)) (FP.i2f (nI n))))) cl) = 0 ∧ fcl (if fcl (FP.fsub FP.fconst1 (FP.fdiv (FP.i2f (nI k)) (FP.i2f (nI n)))) cl < 0 then cl else (FP.fsub FP.fconst1 (FP.fdiv (FP.i2f (nI k)) (FP.i2f (nI n))))) (fpx (fpx 0 cl) (FP.fsub FP.fconst1 (FP.fdiv (FP.i2f (nI k)) (FP.i2f (nI n))))) = 0) := by
  unfold fpt nn at h
  simp only [Bool.and_eq_true, decide_eq_true_eq] at h
  obtain ⟨⟨⟨⟨⟨⟨h1, h2⟩, h3⟩, h4⟩, h5⟩, h6⟩, h7⟩ := h
  exact ⟨h1, h2, h3, h4, fun cl e => by subst e; exact ⟨h5, h6, h7⟩⟩
theorem i32_nat {x : Int32} {m : Int32} {N : Nat} (hm : m = nI N) (hN : N < 1000) (h0 : 0 ≤ x) (h1 : x ≤ m) : ∃ j : Nat, j ≤ N ∧ x = nI j := by
  subst hm
  obtain ⟨j, hj, rfl⟩ := nI_of (Int32.not_lt.mpr h0)
  exact ⟨j, (nI_leI hj (by omega)).mp h1, rfl⟩
