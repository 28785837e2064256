/-! the law's tick, from its beginning to the drive -/
theorem i32_m5 {x : Int32} (h : 1 ≤ x) : ¬ x = -5 := by
  intro q
  rw [q] at h
  exact absurd h (by decide)
theorem law_pre {t : Nat} {V V1 : CarV} {i j x : Int32} (hI : CarOK t V) (hw : mf_X5_wouldChoose V (mf_L_speed i) (mf_L_pedal j) = some (x, V1)) (hn : v5_now V1 = v5_now V) : mf_L_tick V i j = mf_L_tick_B160 V1 i j (mf_L_fast i) (mf_L_deep j) (mf_X5_car V 1) (v4_held (v5_now V)) (if v4_handMode (v5_now V) = 0 then 0 else 1) x (v4_counts (v5_now V) 1) (v4_counts (v5_now V) 2) (v4_counts (v5_now V) 3) (v4_counts (v5_now V) 5) (v4_counts (v5_now V) 6) (v4_counts (v5_now V) 0) (if v4_target (goS (v5_now V)) = 0 then 1 else 0) (v4_gear (goS (v5_now V))) := by
  have c1 := car_1 V
  have c2 := car_2 V
  unfold mf_L_tick mf_L_tick_B126 mf_L_tick_B127 mf_L_tick_B141 mf_L_tick_B146
  simp only [bnd]
  rw [hw, Option.bind_some]
  simp only [car_0, car_3, car_4, cnt_0, cnt_1, cnt_2, cnt_3, cnt_5, cnt_6, num_0, hn]
  by_cases h : v4_target (v5_now V) = 0
  · rw [if_pos h] at c1
    rw [c1, if_pos rfl, if_pos rfl, if_pos trivial, go_eq1 _ h, if_pos h]
  · rw [if_neg h] at c1 c2
    obtain ⟨-, ht, -⟩ := hI.1.1
    rcases ht with ht | ⟨-, t1, t5, d0, d1⟩
    · exact absurd ht h
    rw [c1, c2, if_neg (i32_m5 t1)]
    by_cases q : v4_done (v5_now V) + 1 = v4_settings (v5_now V) 0
    · have q2 : ¬ v4_done (v5_now V) + 1 < v4_settings (v5_now V) 0 := by rw [q]; exact Int32.lt_irrefl
      have e1 : v4_target (goS (v5_now V)) = 0 := by rw [go_eq3 _ h q2]; rfl
      have e2 : v4_gear (goS (v5_now V)) = v4_target (v5_now V) := by rw [go_eq3 _ h q2]; rfl
      rw [if_pos q, if_neg (i32_m5 t1), if_neg (by decide), if_neg (by decide), e1, e2, if_pos rfl]
    · have q2 : v4_done (v5_now V) + 1 < v4_settings (v5_now V) 0 := by
        clear c1 c2 hw hn
        grind
      have e1 : v4_target (goS (v5_now V)) = v4_target (v5_now V) := by rw [go_eq2 _ h q2]; rfl
      have e2 : v4_gear (goS (v5_now V)) = v4_gear (v5_now V) := by rw [go_eq2 _ h q2]; rfl
      rw [if_neg q, if_neg (i32_m5 t1), if_pos trivial, if_pos trivial, e1, e2, if_neg h]
theorem bord_1 {V : CarV} {g j : Int32} (hm : FVm (v4_maps (v5_now V))) (hj : j ∈ peI) (h1 : 1 ≤ g) (h5 : ¬ 5 ≤ g) : mf_X5_border V g (mf_L_pedal j) 1 = some (upV (v4_maps (v5_now V)) g (mf_L_deep j)) := by
  obtain ⟨p1, p2, p3⟩ := fp_ofp j hj
  unfold mf_X5_border
  simp only [bnd]
  rw [has_0 h1 h5, p3, if_neg (by decide), if_neg (by decide), p1, Option.bind_some, if_neg (by decide), up_eq hm g p2, Option.bind_some]
theorem bord_0 {V : CarV} {g j : Int32} (hm : FVm (v4_maps (v5_now V))) (hj : j ∈ peI) (h1 : 1 ≤ g) (h5 : ¬ 5 ≤ g) : mf_X5_border V g (mf_L_pedal j) 0 = some (dnV (v4_maps (v5_now V)) g (mf_L_deep j)) := by
  obtain ⟨p1, p2, p3⟩ := fp_ofp j hj
  unfold mf_X5_border
  simp only [bnd]
  rw [has_0 h1 h5, p3, if_neg (by decide), if_neg (by decide), p1, Option.bind_some, if_pos trivial, dn_eq hm g p2, Option.bind_some]
theorem law_nf (W : CarV) (i j : Int32) (sp pe : UInt32) (z6 z8 z9 z10 z11 z12 z13 z14 z15 z16 g : Int32) : mf_L_tick_B160 W i j sp pe z6 z8 z9 z10 z11 z12 z13 z14 z15 z16 0 g = mf_L_tick_B292 W i j sp pe z6 z8 z10 z11 z12 z13 z14 z15 z16 0 g 0 0 0 := by
  unfold mf_L_tick_B160 mf_L_tick_B189 mf_L_tick_B190 mf_L_tick_B216 mf_L_tick_B217 mf_L_tick_B250 mf_L_tick_B251 mf_L_tick_B291
  rw [if_pos rfl, if_pos rfl, if_pos rfl, if_pos rfl]
theorem law_gu {W : CarV} {i j : Int32} {sp pe : UInt32} {z6 z8 z9 z10 z11 z12 z13 z14 z15 z16 g : Int32} (h1 : 1 ≤ g) (h5 : g ≤ 5) (hg : guP (v4_maps (v5_now W)) sp g) : mf_L_tick_B160 W i j sp pe z6 z8 z9 z10 z11 z12 z13 z14 z15 z16 1 g = mf_L_tick_B292 W i j sp pe z6 z8 z10 z11 z12 z13 z14 z15 z16 1 g 1 0 0 := by
  unfold mf_L_tick_B160
  simp only [bnd]
  rw [if_neg (by decide), if_neg hg.1, map_3 W h1 h5, if_neg (show ¬ Op.cmpValue (FP.fcmp sp (mf_X3_speed (v4_maps (v5_now W)) g 3)) CmpOp.l ≤ 0 from hg.2)]
  unfold mf_L_tick_B190 mf_L_tick_B216 mf_L_tick_B217 mf_L_tick_B250 mf_L_tick_B251 mf_L_tick_B291
  rw [if_neg (by decide), if_neg (by decide), if_pos rfl, if_pos rfl]
theorem law_ng {W : CarV} {i j : Int32} {sp pe : UInt32} {z6 z8 z9 z10 z11 z12 z13 z14 z15 z16 g : Int32} (h1 : 1 ≤ g) (h5 : g ≤ 5) (hg : ¬ guP (v4_maps (v5_now W)) sp g) : mf_L_tick_B160 W i j sp pe z6 z8 z9 z10 z11 z12 z13 z14 z15 z16 1 g = if z9 = 0 ∧ z8 = 0 then mf_L_tick_B217 W i j sp pe z6 z8 z10 z11 z12 z13 z14 z15 z16 1 g 0 1 else mf_L_tick_B292 W i j sp pe z6 z8 z10 z11 z12 z13 z14 z15 z16 1 g 0 0 0 := by
  have e216 : mf_L_tick_B216 W i j sp pe z6 z8 z10 z11 z12 z13 z14 z15 z16 1 g 0 = mf_L_tick_B292 W i j sp pe z6 z8 z10 z11 z12 z13 z14 z15 z16 1 g 0 0 0 := by
    unfold mf_L_tick_B216 mf_L_tick_B217 mf_L_tick_B250 mf_L_tick_B251 mf_L_tick_B291
    rw [if_pos rfl, if_pos rfl]
  have e189 : mf_L_tick_B189 W i j sp pe z6 z8 z9 z10 z11 z12 z13 z14 z15 z16 1 g = if z9 = 0 ∧ z8 = 0 then mf_L_tick_B217 W i j sp pe z6 z8 z10 z11 z12 z13 z14 z15 z16 1 g 0 1 else mf_L_tick_B292 W i j sp pe z6 z8 z10 z11 z12 z13 z14 z15 z16 1 g 0 0 0 := by
    unfold mf_L_tick_B189 mf_L_tick_B190
    rw [if_neg (by decide), if_pos rfl, e216]
    by_cases q1 : z9 = 0
    · rw [if_pos q1]
      by_cases q2 : z8 = 0
      · rw [if_pos q2, if_pos ⟨q1, q2⟩]
      · rw [if_neg q2, if_neg fun q => q2 q.2]
    · rw [if_neg q1, if_neg fun q => q1 q.1]
  unfold mf_L_tick_B160
  simp only [bnd]
  rw [if_neg (by decide), e189]
  by_cases q : 5 ≤ g
  · rw [if_pos q]
  · rw [if_neg q, map_3 W h1 h5]
    have q2 : fcl sp (mf_X3_speed (v4_maps (v5_now W)) g 3) ≤ 0 := Decidable.not_not.mp fun h => hg ⟨q, h⟩
    rw [if_pos (show Op.cmpValue (FP.fcmp sp (mf_X3_speed (v4_maps (v5_now W)) g 3)) CmpOp.l ≤ 0 from q2)]
theorem i32_g1 {g : Int32} (h1 : 1 ≤ g ∧ g ≤ 5) (q : ¬ g ≤ 1) : 1 ≤ g - 1 ∧ ¬ 5 ≤ g - 1 := by constructor <;> grind
theorem law_up {W : CarV} {i j : Int32} {sp : UInt32} {z6 z8 z10 z11 z12 z13 z14 z15 z16 g : Int32} (hm : FVm (v4_maps (v5_now W))) (hj : j ∈ peI) (h1 : 1 ≤ g) (hu : upP (v4_maps (v5_now W)) sp (mf_L_deep j) g) : mf_L_tick_B217 W i j sp (mf_L_deep j) z6 z8 z10 z11 z12 z13 z14 z15 z16 1 g 0 1 = mf_L_tick_B292 W i j sp (mf_L_deep j) z6 z8 z10 z11 z12 z13 z14 z15 z16 1 g 0 1 0 := by
  unfold mf_L_tick_B217
  simp only [bnd]
  rw [if_neg (by decide), if_neg hu.1, bord_1 hm hj h1 hu.1, Option.bind_some, if_neg (show ¬ Op.cmpValue (FP.fcmp sp (upV (v4_maps (v5_now W)) g (mf_L_deep j))) CmpOp.l ≤ 0 from hu.2)]
  unfold mf_L_tick_B251 mf_L_tick_B291
  rw [if_neg (by decide), if_neg (by decide)]
theorem law_nu {W : CarV} {i j : Int32} {sp : UInt32} {z6 z8 z10 z11 z12 z13 z14 z15 z16 g : Int32} (hm : FVm (v4_maps (v5_now W))) (hj : j ∈ peI) (h1 : 1 ≤ g ∧ g ≤ 5) (hu : ¬ upP (v4_maps (v5_now W)) sp (mf_L_deep j) g) : (dnP (v4_maps (v5_now W)) sp (mf_L_deep j) g → mf_L_tick_B217 W i j sp (mf_L_deep j) z6 z8 z10 z11 z12 z13 z14 z15 z16 1 g 0 1 = mf_L_tick_B292 W i j sp (mf_L_deep j) z6 z8 z10 z11 z12 z13 z14 z15 z16 1 g 0 0 1) ∧ (¬ dnP (v4_maps (v5_now W)) sp (mf_L_deep j) g → mf_L_tick_B217 W i j sp (mf_L_deep j) z6 z8 z10 z11 z12 z13 z14 z15 z16 1 g 0 1 = mf_L_tick_B292 W i j sp (mf_L_deep j) z6 z8 z10 z11 z12 z13 z14 z15 z16 1 g 0 0 0) := by
  have e : mf_L_tick_B217 W i j sp (mf_L_deep j) z6 z8 z10 z11 z12 z13 z14 z15 z16 1 g 0 1 = mf_L_tick_B250 W i j sp (mf_L_deep j) z6 z8 z10 z11 z12 z13 z14 z15 z16 1 g 0 1 := by
    unfold mf_L_tick_B217
    simp only [bnd]
    rw [if_neg (by decide)]
    by_cases q : 5 ≤ g
    · rw [if_pos q]
    · have q2 : fcl sp (upV (v4_maps (v5_now W)) g (mf_L_deep j)) ≤ 0 := Decidable.not_not.mp fun h => hu ⟨q, h⟩
      rw [if_neg q, bord_1 hm hj h1.1 q, Option.bind_some, if_pos (show Op.cmpValue (FP.fcmp sp (upV (v4_maps (v5_now W)) g (mf_L_deep j))) CmpOp.l ≤ 0 from q2)]
  rw [e]
  unfold mf_L_tick_B250 mf_L_tick_B251 mf_L_tick_B291
  simp only [bnd]
  rw [if_neg (by decide), if_pos trivial]
  constructor
  · intro hd
    obtain ⟨a1, a5⟩ := i32_g1 h1 hd.1
    rw [if_neg hd.1, bord_0 hm hj a1 a5, Option.bind_some, if_neg (show ¬ 0 ≤ Op.cmpValue (FP.fcmp sp (dnV (v4_maps (v5_now W)) (g - 1) (mf_L_deep j))) CmpOp.g from hd.2)]
  · intro hd
    by_cases q : g ≤ 1
    · rw [if_pos q]
    · obtain ⟨a1, a5⟩ := i32_g1 h1 q
      have q2 : 0 ≤ fcg sp (dnV (v4_maps (v5_now W)) (g - 1) (mf_L_deep j)) := Decidable.not_not.mp fun h => hd ⟨q, h⟩
      rw [if_neg q, bord_0 hm hj a1 a5, Option.bind_some, if_pos (show 0 ≤ Op.cmpValue (FP.fcmp sp (dnV (v4_maps (v5_now W)) (g - 1) (mf_L_deep j))) CmpOp.g from q2)]
theorem law_292 {W W2 : CarV} {i j b : Int32} {sp pe : UInt32} {z6 z8 z10 z11 z12 z13 z14 z15 z16 z18 g z20 z22 z23 : Int32} (hd : mf_X5_drive W (mf_L_speed i) (mf_L_pedal j) 1 = some (b, W2)) : mf_L_tick_B292 W i j sp pe z6 z8 z10 z11 z12 z13 z14 z15 z16 z18 g z20 z22 z23 = mf_L_tick_B326 W2 sp pe z6 z8 z10 z11 z12 z14 z15 z16 z18 g z20 z22 z23 b (if v4_counts (v5_now W2) 3 = z13 + 1 then 1 else 0) := by
  unfold mf_L_tick_B292
  simp only [bnd, cnt_3]
  rw [hd, Option.bind_some]
  by_cases q : v4_counts (v5_now W2) 3 = z13 + 1
  · rw [if_pos q, if_pos q]
  · rw [if_neg q, if_neg q]
