/-! the law's tick, from its end to its beginning -/
def bt (z : Int32) : Int32 := if z = 0 then 0 else 1
theorem b755 {W : CarV} {z10 z15 z19 z22 z23 z26 : Int32} (h10 : z10 = z26) (hg : v4_gear (v5_now W) = z19) (h : z15 < v4_counts (v5_now W) 6 ∨ (z22 = 0 ∧ z23 = 0) ∨ mf_L_wentToAndFro W = some 0) : mf_L_tick_B755 W z10 z15 z19 z22 z23 z26 1 1 1 = some (1, W) := by
  unfold mf_L_tick_B755
  simp only [bnd, car_0, cnt_6]
  rw [if_pos h10, if_neg (by decide), if_neg (by decide), if_neg (by decide), if_pos hg]
  have hw : mf_L_wentToAndFro W = some 0 → mf_L_tick_B810 W = some (1, W) := fun e => by
    unfold mf_L_tick_B810
    rw [e, Option.bind_some]
    exact if_pos rfl
  by_cases q : z15 < v4_counts (v5_now W) 6
  · rw [if_pos q]; rfl
  · rw [if_neg q]
    rcases h with h | ⟨h1, h2⟩ | h
    · exact absurd h q
    · rw [if_pos h1, if_pos h2]; rfl
    · rw [hw h]
      by_cases q1 : z22 = 0
      · rw [if_pos q1]
        by_cases q2 : z23 = 0
        · rw [if_pos q2]; rfl
        · rw [if_neg q2]
      · rw [if_neg q1]
theorem b673n {W : CarV} {z6 z10 z15 z16 z18 z19 z22 z23 : Int32} (h1 : mf_X5_car W 1 = if z18 = 0 then z6 else -5) (h : mf_L_tick_B755 W z10 z15 z19 z22 z23 (-5) 1 1 1 = some (1, W)) : mf_L_tick_B673 W z6 z10 z15 z16 z18 z19 z22 z23 0 (-5) 1 1 = some (1, W) := by
  unfold mf_L_tick_B673 mf_L_tick_B704
  rw [if_pos rfl, if_pos rfl]
  simp only [bnd]
  by_cases q : z18 = 0
  · rw [if_pos q] at h1 ⊢
    rw [if_pos h1]
    exact h
  · rw [if_neg q] at h1 ⊢
    rw [if_pos h1]
    exact h
theorem b673c {W : CarV} {z6 z10 z15 z16 z18 z19 z22 z23 z26 : Int32} (h26 : ¬ z26 = -5) (h1 : mf_X5_car W 1 = z26) (h2 : mf_X5_car W 2 = 0) (h3 : mf_X5_change W 0 0 = z16) (h : mf_L_tick_B755 W z10 z15 z19 z22 z23 z26 1 1 1 = some (1, W)) : mf_L_tick_B673 W z6 z10 z15 z16 z18 z19 z22 z23 1 z26 1 1 = some (1, W) := by
  unfold mf_L_tick_B673
  rw [if_neg h26, if_pos rfl]
  simp only [bnd]
  rw [if_pos h1, if_pos h2, if_pos h3]
  exact h
theorem i32_n1 (x : Int32) : ¬ x + 1 = x := by grind
theorem b584a {W : CarV} {z6 z10 z15 z16 z18 z19 z22 z23 z24 z26 y0 : Int32} (h6 : v4_counts (v5_now W) 6 = z15) (hh : v4_held (v5_now W) = y0) : mf_L_tick_B584 W z6 z10 z15 z16 z18 z19 z22 z23 z24 z26 1 y0 = mf_L_tick_B673 W z6 z10 z15 z16 z18 z19 z22 z23 z24 z26 1 1 := by
  unfold mf_L_tick_B584
  simp only [bnd, cnt_6, car_3]
  rw [if_pos h6, if_pos hh]
theorem b584b {W : CarV} {z6 z10 z15 z16 z18 z19 z22 z23 z24 z26 y0 : Int32} (h6 : v4_counts (v5_now W) 6 = z15 + 1) (hh : v4_held (v5_now W) = v4_settings (v5_now W) 3) (hz : ¬ (z22 = 0 ∧ z23 = 0)) (h4 : mf_X5_change W 0 4 = 1) (hw : mf_L_wentToAndFro W = some 1) : mf_L_tick_B584 W z6 z10 z15 z16 z18 z19 z22 z23 z24 z26 1 y0 = mf_L_tick_B673 W z6 z10 z15 z16 z18 z19 z22 z23 z24 z26 1 1 := by
  have h51 : mf_L_tick_B651 W z6 z10 z15 z16 z18 z19 z22 z23 z24 z26 1 = mf_L_tick_B673 W z6 z10 z15 z16 z18 z19 z22 z23 z24 z26 1 1 := by
    unfold mf_L_tick_B651
    simp only [bnd]
    rw [if_pos h4, hw, Option.bind_some]
    exact if_neg (by decide)
  have hn : ¬ v4_counts (v5_now W) 6 = z15 := by rw [h6]; exact i32_n1 _
  unfold mf_L_tick_B584
  simp only [bnd, cnt_6, car_3, num_3]
  rw [if_neg hn, if_pos h6, if_pos hh, h51]
  by_cases q1 : z22 = 0
  · rw [if_pos q1, if_neg fun q2 => hz ⟨q1, q2⟩]
  · rw [if_neg q1]
theorem b499 {W : CarV} {z6 z8 z10 z11 z12 z14 z15 z16 z18 z19 z20 z22 z23 z24 z26 : Int32} (h5 : v4_counts (v5_now W) 5 = z14 + bt z20) (h1 : v4_counts (v5_now W) 1 = z11 + bt z22) (h2 : v4_counts (v5_now W) 2 = z12 + bt z23) : mf_L_tick_B499 W z6 z8 z10 z11 z12 z14 z15 z16 z18 z19 z20 z22 z23 z24 z26 = mf_L_tick_B584 W z6 z10 z15 z16 z18 z19 z22 z23 z24 z26 1 (if z8 ≤ 0 then 0 else z8 - 1) := by
  have e569 : mf_L_tick_B569 W z6 z8 z10 z15 z16 z18 z19 z22 z23 z24 z26 1 = mf_L_tick_B584 W z6 z10 z15 z16 z18 z19 z22 z23 z24 z26 1 (if z8 ≤ 0 then 0 else z8 - 1) := by
    unfold mf_L_tick_B569
    by_cases q : z8 ≤ 0
    · rw [if_pos q, if_pos q]
    · rw [if_neg q, if_neg q]
  have e560 : ∀ y, v4_counts (v5_now W) 2 = z12 + y → mf_L_tick_B560 W z6 z8 z10 z15 z16 z18 z19 z22 z23 z24 z26 y z12 (v4_counts (v5_now W) 2) = mf_L_tick_B584 W z6 z10 z15 z16 z18 z19 z22 z23 z24 z26 1 (if z8 ≤ 0 then 0 else z8 - 1) := fun y hy => by
    unfold mf_L_tick_B560
    rw [if_pos hy, e569]
  have e539 : ∀ y, v4_counts (v5_now W) 1 = z11 + y → mf_L_tick_B539 W z6 z8 z10 z12 z15 z16 z18 z19 z22 z23 z24 z26 y z11 (v4_counts (v5_now W) 1) = mf_L_tick_B584 W z6 z10 z15 z16 z18 z19 z22 z23 z24 z26 1 (if z8 ≤ 0 then 0 else z8 - 1) := fun y hy => by
    unfold mf_L_tick_B539
    rw [if_pos hy]
    simp only [bnd, cnt_2]
    unfold bt at h2
    by_cases q : z23 = 0
    · rw [if_pos q] at h2 ⊢
      exact e560 0 h2
    · rw [if_neg q] at h2 ⊢
      exact e560 1 h2
  have e518 : ∀ y, v4_counts (v5_now W) 5 = z14 + y → mf_L_tick_B518 W z6 z8 z10 z11 z12 z15 z16 z18 z19 z22 z23 z24 z26 y z14 (v4_counts (v5_now W) 5) = mf_L_tick_B584 W z6 z10 z15 z16 z18 z19 z22 z23 z24 z26 1 (if z8 ≤ 0 then 0 else z8 - 1) := fun y hy => by
    unfold mf_L_tick_B518
    rw [if_pos hy]
    simp only [bnd, cnt_1]
    unfold bt at h1
    by_cases q : z22 = 0
    · rw [if_pos q] at h1 ⊢
      exact e539 0 h1
    · rw [if_neg q] at h1 ⊢
      exact e539 1 h1
  unfold mf_L_tick_B499
  simp only [bnd, cnt_5]
  unfold bt at h5
  by_cases q : z20 = 0
  · rw [if_pos q] at h5 ⊢
    exact e518 0 h5
  · rw [if_neg q] at h5 ⊢
    exact e518 1 h5
/-- a tick that begins no change -/
theorem law_none {W : CarV} {z3 z4 : UInt32} {z6 z8 z10 z11 z12 z14 z15 z16 z18 z19 : Int32} (h5 : v4_counts (v5_now W) 5 = z14) (h1 : v4_counts (v5_now W) 1 = z11) (h2 : v4_counts (v5_now W) 2 = z12) (h6 : v4_counts (v5_now W) 6 = z15) (hh : v4_held (v5_now W) = if z8 ≤ 0 then 0 else z8 - 1) (hc : mf_X5_car W 1 = if z18 = 0 then z6 else -5) (h10 : z10 = -5) (hg : v4_gear (v5_now W) = z19) : mf_L_tick_B326 W z3 z4 z6 z8 z10 z11 z12 z14 z15 z16 z18 z19 0 0 0 0 0 = some (1, W) := by
  unfold mf_L_tick_B326
  rw [if_pos rfl, if_pos rfl, if_pos rfl, if_pos rfl]
  have b0 : bt 0 = 0 := if_pos rfl
  rw [b499 (by rw [b0, h5]; exact (Int32.add_zero _).symm) (by rw [b0, h1]; exact (Int32.add_zero _).symm) (by rw [b0, h2]; exact (Int32.add_zero _).symm), b584a h6 hh]
  exact b673n hc (b755 h10 hg (Or.inr (Or.inl ⟨rfl, rfl⟩)))
/-- a tick that begins a change other than a kickdown -/
theorem law_some {W : CarV} {z3 z4 : UInt32} {z6 z8 z10 z11 z12 z14 z15 z16 z18 z19 z20 z22 z23 z26 h : Int32} (h5 : v4_counts (v5_now W) 5 = z14 + bt z20) (h1 : v4_counts (v5_now W) 1 = z11 + bt z22) (h2 : v4_counts (v5_now W) 2 = z12 + bt z23) (h6 : v4_counts (v5_now W) 6 = if h = 0 then z15 else z15 + 1) (h615 : z15 < z15 + 1) (hh : v4_held (v5_now W) = if h = 0 then (if z8 ≤ 0 then 0 else z8 - 1) else v4_settings (v5_now W) 3) (hd : z26 = if z20 = 0 then (if z22 = 0 then z19 - 1 else z19 + 1) else z19 + 1) (hz : ¬ (z20 = 0 ∧ z22 = 0 ∧ z23 = 0)) (h01 : h = 0 ∨ h = 1) (hhz : h = 1 → ¬ (z22 = 0 ∧ z23 = 0)) (h4 : mf_X5_change W 0 4 = h) (hw : ¬ (z22 = 0 ∧ z23 = 0) → mf_L_wentToAndFro W = some h) (h26 : ¬ z26 = -5) (hc1 : mf_X5_car W 1 = z26) (hc2 : mf_X5_car W 2 = 0) (hc0 : mf_X5_change W 0 0 = z16) (h10 : z10 = z26) (hg : v4_gear (v5_now W) = z19) : mf_L_tick_B326 W z3 z4 z6 z8 z10 z11 z12 z14 z15 z16 z18 z19 z20 z22 z23 1 0 = some (1, W) := by
  have k755 : mf_L_tick_B755 W z10 z15 z19 z22 z23 z26 1 1 1 = some (1, W) := by
    refine b755 h10 hg ?_
    rcases h01 with e | e
    · by_cases q : z22 = 0 ∧ z23 = 0
      · exact Or.inr (Or.inl q)
      · right; right
        rw [hw q, e]
    · left
      rw [h6, e, if_neg (by decide)]
      exact h615
  have k673 := b673c (z6 := z6) (z18 := z18) h26 hc1 hc2 hc0 k755
  have k499 : mf_L_tick_B499 W z6 z8 z10 z11 z12 z14 z15 z16 z18 z19 z20 z22 z23 1 z26 = some (1, W) := by
    rw [b499 h5 h1 h2]
    rcases h01 with e | e
    · rw [e, if_pos rfl] at h6 hh
      rw [b584a h6 hh]
      exact k673
    · rw [e, if_neg (by decide)] at h6 hh
      rw [b584b h6 hh (hhz e) (h4.trans e) ((hw (hhz e)).trans (by rw [e]))]
      exact k673
  unfold mf_L_tick_B326 mf_L_tick_B478
  rw [if_pos rfl]
  by_cases q1 : z20 = 0
  · rw [if_pos q1] at hd ⊢
    by_cases q2 : z22 = 0
    · rw [if_pos q2] at hd ⊢
      rw [if_neg fun q3 => hz ⟨q1, q2, q3⟩, ← hd]
      exact k499
    · rw [if_neg q2] at hd ⊢
      rw [← hd]
      exact k499
  · rw [if_neg q1] at hd ⊢
    rw [← hd]
    exact k499
theorem has_3 {g : Int32} (h1 : 1 ≤ g) (h5 : g ≤ 5) : mf_X3_has g 3 = 1 := by
  unfold mf_X3_has
  rw [if_neg (by decide), if_neg (by decide), if_pos h1, if_pos rfl, if_neg (Int32.not_lt.mpr h5)]
theorem has_0 {g : Int32} (h1 : 1 ≤ g) (h5 : ¬ 5 ≤ g) : mf_X3_has g 0 = 1 := by
  unfold mf_X3_has
  rw [if_neg (by decide), if_neg (by decide), if_pos h1, if_neg (by decide), if_neg h5]
theorem map_3 (W : CarV) {g : Int32} (h1 : 1 ≤ g) (h5 : g ≤ 5) : mf_X5_map W g 3 = mf_X3_speed (v4_maps (v5_now W)) g 3 := by
  unfold mf_X5_map
  simp only [bnd]
  rw [has_3 h1 h5]
  exact if_neg (by decide)
/-- a tick that begins a kickdown -/
theorem law_kick {W : CarV} {sp pe : UInt32} {z6 z8 z10 z11 z12 z14 z15 z16 z18 z19 z22 z23 n : Int32} (hm : FVm (v4_maps (v5_now W))) (hsp : sp ∈ FS) (hg19 : 1 ≤ z19 ∧ z19 ≤ 5) (hk : kdG (v4_maps (v5_now W)) sp z19 n) (hd : dpP pe) (hz : ¬ z18 = 0) (h10 : z10 = n) (hc1 : mf_X5_car W 1 = n) (hg : v4_gear (v5_now W) = z19) (h0 : v4_counts (v5_now W) 0 = z16 + 1) : mf_L_tick_B326 W sp pe z6 z8 z10 z11 z12 z14 z15 z16 z18 z19 0 z22 z23 1 1 = some (1, W) := by
  obtain ⟨k0, k1, k2, k3, k4, k5⟩ := hk
  have hn5 : n ≤ 5 := (i32_kd hg19 k1 k2 k3).1
  have k397 : mf_L_tick_B397 W pe z10 z16 z18 z19 0 1 n = some (1, W) := by
    unfold mf_L_tick_B397 mf_L_tick_B402
    simp only [bnd, car_0, cnt_0]
    rw [if_pos trivial, if_neg hz, if_neg (show ¬ Op.cmpValue (FP.fcmp pe 1064514355) CmpOp.l < 0 from hd), if_neg (by decide), if_pos h10, if_pos trivial, if_pos hg, if_pos h0]
  have t1 := (fp_tot sp hsp _ (speed_in hm n 3)).1 (Decidable.not_not.mp k4)
  unfold mf_L_tick_B326
  rw [if_neg (by decide)]
  simp only [bnd]
  rw [hc1, if_neg (Int32.not_lt.mpr k2), if_neg (Int32.not_le.mpr k3), map_3 W k1 hn5, if_neg (show ¬ Op.cmpValue (FP.fcmp (mf_X3_speed (v4_maps (v5_now W)) n 3) sp) CmpOp.l < 0 from t1)]
  by_cases q1 : n = 1
  · rw [if_pos q1]
    exact k397
  · rw [if_neg q1]
    by_cases q2 : n = z19 - 2
    · rw [if_pos q2]
      exact k397
    · rw [if_neg q2]
      rcases k5 with k5 | k5 | k5
      · exact absurd k5 q1
      · exact absurd k5 q2
      · have t2 := (fp_tot sp hsp _ (speed_in hm (n - 1) 3)).2 k5
        rw [map_3 W (by grind) (by grind), if_neg (show ¬ 0 ≤ Op.cmpValue (FP.fcmp (mf_X3_speed (v4_maps (v5_now W)) (n - 1) 3) sp) CmpOp.g from t2)]
        exact k397
