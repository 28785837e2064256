/-! what the small methods answer -/
theorem tn0 : (0 : Int32).toNatClampNeg = 0 := id rfl
theorem tn1 : (1 : Int32).toNatClampNeg = 1 := id rfl
theorem tn2 : (2 : Int32).toNatClampNeg = 2 := id rfl
theorem tn3 : (3 : Int32).toNatClampNeg = 3 := id rfl
theorem set_0 (S : St) : mf_X4_setting S 0 = v4_settings S 0 := id rfl
theorem set_1 (S : St) : mf_X4_setting S 1 = v4_settings S 1 := id rfl
theorem set_2 (S : St) : mf_X4_setting S 2 = v4_settings S 2 := id rfl
theorem set_3 (S : St) : mf_X4_setting S 3 = v4_settings S 3 := id rfl
theorem num_0 (V : CarV) : mf_X5_number V 0 = v4_settings (v5_now V) 0 := id rfl
theorem num_1 (V : CarV) : mf_X5_number V 1 = v4_settings (v5_now V) 1 := id rfl
theorem num_2 (V : CarV) : mf_X5_number V 2 = v4_settings (v5_now V) 2 := id rfl
theorem num_3 (V : CarV) : mf_X5_number V 3 = v4_settings (v5_now V) 3 := id rfl
theorem car_0 (V : CarV) : mf_X5_car V 0 = v4_gear (v5_now V) := id rfl
theorem car_1 (V : CarV) : mf_X5_car V 1 = if v4_target (v5_now V) = 0 then -5 else v4_target (v5_now V) := by
  by_cases h : v4_target (v5_now V) = 0 <;> simp [mf_X5_car, mf_X4_isChanging, bnd, h]
theorem car_2 (V : CarV) : mf_X5_car V 2 = if v4_target (v5_now V) = 0 then -5 else v4_done (v5_now V) := by
  by_cases h : v4_target (v5_now V) = 0 <;> simp [mf_X5_car, mf_X4_isChanging, bnd, h]
theorem car_3 (V : CarV) : mf_X5_car V 3 = v4_held (v5_now V) := id rfl
theorem car_4 (V : CarV) : mf_X5_car V 4 = if v4_handMode (v5_now V) = 0 then 0 else 1 := id rfl
theorem car_5 (V : CarV) : mf_X5_car V 5 = if v4_target (v5_now V) = 0 then -5 else mf_X4_closedOnlyIn (v4_gear (v5_now V)) (v4_target (v5_now V)) := by
  by_cases h : v4_target (v5_now V) = 0 <;> simp [mf_X5_car, mf_X4_opening, mf_X4_isChanging, bnd, h]
theorem car_6 (V : CarV) : mf_X5_car V 6 = if v4_target (v5_now V) = 0 then -5 else mf_X4_closedOnlyIn (v4_target (v5_now V)) (v4_gear (v5_now V)) := by
  by_cases h : v4_target (v5_now V) = 0 <;> simp [mf_X5_car, mf_X4_closing, mf_X4_isChanging, bnd, h]
theorem car_7 (V : CarV) : mf_X5_car V 7 = -2 := id rfl
theorem cnt_0 (V : CarV) : mf_X5_count V 0 = v4_counts (v5_now V) 0 := id rfl
theorem cnt_1 (V : CarV) : mf_X5_count V 1 = v4_counts (v5_now V) 1 := id rfl
theorem cnt_2 (V : CarV) : mf_X5_count V 2 = v4_counts (v5_now V) 2 := id rfl
theorem cnt_3 (V : CarV) : mf_X5_count V 3 = v4_counts (v5_now V) 3 := id rfl
theorem cnt_4 (V : CarV) : mf_X5_count V 4 = v4_counts (v5_now V) 4 := id rfl
theorem cnt_5 (V : CarV) : mf_X5_count V 5 = v4_counts (v5_now V) 5 := id rfl
theorem cnt_6 (V : CarV) : mf_X5_count V 6 = v4_counts (v5_now V) 6 := id rfl
theorem cnt_7 (V : CarV) : mf_X5_count V 7 = v4_counts (v5_now V) 7 := id rfl
theorem cnt_8 (V : CarV) : mf_X5_count V 8 = v4_counts (v5_now V) 8 := id rfl
theorem cnt_9 (V : CarV) : mf_X5_count V 9 = v4_counts (v5_now V) 9 := id rfl
theorem cnt_10 (V : CarV) : mf_X5_count V 10 = v4_counts (v5_now V) 10 := id rfl
theorem cnt_11 (V : CarV) : mf_X5_count V 11 = v4_counts (v5_now V) 11 := id rfl
theorem cnt_12 (V : CarV) : mf_X5_count V 12 = v4_counts (v5_now V) 12 := id rfl
theorem cnt_13 (V : CarV) : mf_X5_count V 13 = v1_size (v5_history V) := id rfl
theorem cnt_14 (V : CarV) : mf_X5_count V 14 = v0_length (v5_text V) := id rfl
theorem cnt_15 (V : CarV) : mf_X5_count V 15 = -2 := id rfl
theorem chg (V : CarV) (b : Int32) (w : Int32) (hb : ¬ b < 0) (h0 : ¬ w < 0) (h5 : w < 5) : mf_X5_change V b w = mf_X2_told (v4_log (v5_now V)) b w := by
  simp [mf_X5_change, hb, h0, h5, bnd]
def lag_cl (n lag k : Int32) : UInt32 := if lag < k then FP.fdiv (FP.i2f (k - lag)) (FP.i2f (n - lag)) else 0
def fpx (a b : UInt32) : UInt32 := if fcl b a ≤ 0 then a else b
/-- what told asks of the floats of a change: k of n ticks, the lag g -/
def fpt (n g k : Nat) : Bool :=
  let a := FP.fdiv (FP.i2f (nI k)) (FP.i2f (nI n))
  let r := FP.fdiv (FP.i2f (nI k - nI g)) (FP.i2f (nI n - nI g))
  let o := FP.fsub FP.fconst1 a
  let cl := if g < k then r else 0
  let gp := if fcl o cl < 0 then cl else o
  nn a && nn r && nn o && decide (fcl o o = 0) && decide (fcl cl cl = 0) && decide (fcl gp (fpx (fpx 0 o) cl) = 0) && decide (fcl gp (fpx (fpx 0 cl) o) = 0)
theorem fpt_all : ∀ n, n < 21 → ∀ g, g < n → ∀ k, k < n → fpt n g k = true := by decide +kernel
