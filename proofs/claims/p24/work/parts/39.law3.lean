/-! the law's tick holds -/
theorem go_t (S : St) (h : ¬ v4_target (goS S) = 0) : v4_target (goS S) = v4_target S ∧ ¬ v4_target S = 0 := by
  by_cases h0 : v4_target S = 0
  · rw [go_eq1 S h0] at h
    exact absurd h0 h
  · by_cases q : v4_done S + 1 < v4_settings S 0
    · rw [go_eq2 S h0 q]
      exact ⟨rfl, h0⟩
    · rw [go_eq3 S h0 q] at h
      exact absurd rfl h
theorem i32_hd {z : Int32} (h : 0 ≤ z) (q : z ≤ 0) : z = 0 := by grind
theorem held_d {T : Int32} {S : St} (hI : NowOK T S) : v4_held (decS (goS S)) = if v4_held S ≤ 0 then 0 else v4_held S - 1 := by
  rw [dec_h, (go_f S).2.2.2.2.1]
  by_cases q : v4_held S ≤ 0
  · rw [if_pos q, if_pos q]
    exact i32_hd hI.1.2.2.2.2.2.2.1.1 q
  · rw [if_neg q, if_neg q]
theorem rea_m1 {S : St} {sp pe : UInt32} (h : Rea S sp pe (-1)) : ¬ guP (v4_maps S) sp (v4_gear S) ∧ (maP S → ¬ upP (v4_maps S) sp pe (v4_gear S) ∧ ¬ dnP (v4_maps S) sp pe (v4_gear S)) := by
  rcases h with ⟨e, -⟩ | ⟨e, -⟩ | ⟨e, -⟩ | ⟨e, -⟩ | ⟨-, h⟩
  · exact absurd e (by decide)
  · exact absurd e (by decide)
  · exact absurd e (by decide)
  · exact absurd e (by decide)
  · exact h
theorem rea_4 {S : St} {sp pe : UInt32} (h : Rea S sp pe (nI 4)) : guP (v4_maps S) sp (v4_gear S) := by
  rcases h with ⟨-, h⟩ | ⟨e, -⟩ | ⟨e, -⟩ | ⟨e, -⟩ | ⟨e, -⟩
  · exact h
  · exact absurd e (by decide)
  · exact absurd e (by decide)
  · exact absurd e (by decide)
  · exact absurd e (by decide)
theorem rea_2 {S : St} {sp pe : UInt32} (h : Rea S sp pe (nI 2)) : ¬ guP (v4_maps S) sp (v4_gear S) ∧ dpP pe := by
  rcases h with ⟨e, -⟩ | ⟨-, h, d, -⟩ | ⟨e, -⟩ | ⟨e, -⟩ | ⟨e, -⟩
  · exact absurd e (by decide)
  · exact ⟨h, d⟩
  · exact absurd e (by decide)
  · exact absurd e (by decide)
  · exact absurd e (by decide)
theorem rea_0 {S : St} {sp pe : UInt32} (h : Rea S sp pe (nI 0)) : ¬ guP (v4_maps S) sp (v4_gear S) ∧ maP S ∧ upP (v4_maps S) sp pe (v4_gear S) := by
  rcases h with ⟨e, -⟩ | ⟨e, -⟩ | ⟨-, h⟩ | ⟨e, -⟩ | ⟨e, -⟩
  · exact absurd e (by decide)
  · exact absurd e (by decide)
  · exact h
  · exact absurd e (by decide)
  · exact absurd e (by decide)
theorem rea_1 {S : St} {sp pe : UInt32} (h : Rea S sp pe (nI 1)) : ¬ guP (v4_maps S) sp (v4_gear S) ∧ maP S ∧ ¬ upP (v4_maps S) sp pe (v4_gear S) ∧ dnP (v4_maps S) sp pe (v4_gear S) := by
  rcases h with ⟨e, -⟩ | ⟨e, -⟩ | ⟨e, -⟩ | ⟨-, h⟩ | ⟨e, -⟩
  · exact absurd e (by decide)
  · exact absurd e (by decide)
  · exact absurd e (by decide)
  · exact h
  · exact absurd e (by decide)
theorem hand_z {h : Int32} : (if h = 0 then (0 : Int32) else 1) = 0 ↔ h = 0 := by
  by_cases q : h = 0
  · rw [if_pos q]; exact ⟨fun _ => q, fun _ => rfl⟩
  · rw [if_neg q]; exact ⟨fun e => absurd e (by decide), fun e => absurd e q⟩
theorem i32_l1 {c : Int32} {t : Nat} (ht : t ≤ 20000) (h0 : 0 ≤ c) (h : c ≤ nI t) : c < c + 1 := by
  obtain ⟨k, hk, e⟩ := nI_of (Int32.not_lt.mpr h0)
  subst e
  have := (nI_leI hk (by omega)).mp h
  rw [nI_1]
  exact nI_lt (by omega) (by omega)
/-- no change begins -/
theorem fin_none {t : Nat} {V V2 : CarV} {sp pe : UInt32} {z3 z4 : UInt32} {z18 x : Int32} (hI : CarOK t V) (hN : v5_now V2 = tkS (decS (goS (v5_now V))) sp pe) (hx : x = -5) (h18 : (v4_target (goS (v5_now V)) = 0 ∧ ¬ z18 = 0) ∨ (¬ v4_target (goS (v5_now V)) = 0 ∧ z18 = 0)) : ∃ q : Int32, (if v4_counts (v5_now V2) 3 = v4_counts (v5_now V) 3 + 1 then (1 : Int32) else 0) = q ∧ mf_L_tick_B326 V2 z3 z4 (mf_X5_car V 1) (v4_held (v5_now V)) x (v4_counts (v5_now V) 1) (v4_counts (v5_now V) 2) (v4_counts (v5_now V) 5) (v4_counts (v5_now V) 6) (v4_counts (v5_now V) 0) z18 (v4_gear (goS (v5_now V))) 0 0 0 0 q = some (1, V2) := by
  have hG := go_ok hI.1
  obtain ⟨g1, g2, g3, g4, g5, g6⟩ := go_f (v5_now V)
  obtain ⟨d1, d2, d3, d4, d5, d6, d7, d8⟩ := dec_f (goS (v5_now V))
  obtain ⟨t1, t2, t3, t4, t5, t6, t7, t8, t9, t10⟩ := tk_f (X := decS (goS (v5_now V))) sp pe (by rw [d5]; exact hG.1.1)
  rw [← hN] at t1 t2 t3 t4 t5 t6 t7 t8 t9 t10
  have cc : ∀ i, 1 ≤ i → i ≤ 6 → v4_counts (v5_now V2) i = v4_counts (v5_now V) i := fun i h1 h6 => by rw [t10 i h1 h6, d3, g3]
  refine ⟨0, if_neg ?_, law_none (cc 5 (by omega) (by omega)) (cc 1 (by omega) (by omega)) (cc 2 (by omega) (by omega)) (cc 6 (by omega) (by omega)) ?_ ?_ hx (t4.trans d5)⟩
  · rw [cc 3 (by omega) (by omega)]
    exact fun e => i32_n1 _ e.symm
  · rw [t7]
    exact held_d hI.1
  · rw [car_1, car_1, t5, d6]
    rcases h18 with ⟨h0, hz⟩ | ⟨h0, hz⟩
    · rw [if_pos h0, if_neg hz]
    · obtain ⟨e, e0⟩ := go_t _ h0
      rw [if_neg h0, if_pos hz, if_neg e0, e]
/-- a change begins -/
theorem beg_all {t : Nat} {V V2 : CarV} {sp pe : UInt32} {a w : Nat} {n : Int32} (ht : t ≤ 15000) (hI : CarOK t V) (ha : a < 10) (hn : v2_next (v4_log (v5_now V)) = nI a) (hc : Cho (v4_maps (v5_now V)) sp (v4_gear (goS (v5_now V))) w n) (hN : v5_now V2 = tkS (begS (decS (goS (v5_now V))) a w n (mf_X4_swings (decS (goS (v5_now V))) (nI w))) sp pe) :
    (∀ i, 1 ≤ i → i ≤ 5 → v4_counts (v5_now V2) i = inc (v4_counts (v5_now V)) (1 + w) i) ∧
    (v4_counts (v5_now V2) 6 = if mf_X4_swings (decS (goS (v5_now V))) (nI w) = 0 then v4_counts (v5_now V) 6 else v4_counts (v5_now V) 6 + 1) ∧
    v4_counts (v5_now V2) 0 = v4_counts (v5_now V) 0 + 1 ∧
    (v4_held (v5_now V2) = if mf_X4_swings (decS (goS (v5_now V))) (nI w) = 0 then (if v4_held (v5_now V) ≤ 0 then 0 else v4_held (v5_now V) - 1) else v4_settings (v5_now V2) 3) ∧
    mf_X5_change V2 0 4 = mf_X4_swings (decS (goS (v5_now V))) (nI w) ∧
    ((w = 0 ∨ w = 1) → mf_L_wentToAndFro V2 = some (mf_X4_swings (decS (goS (v5_now V))) (nI w))) ∧
    ¬ n = -5 ∧ ¬ n = 0 ∧ mf_X5_car V2 1 = n ∧ mf_X5_car V2 2 = 0 ∧ mf_X5_change V2 0 0 = v4_counts (v5_now V) 0 ∧ v4_gear (v5_now V2) = v4_gear (goS (v5_now V)) ∧ v4_target (v5_now V2) = n ∧ v4_maps (v5_now V2) = v4_maps (v5_now V) := by
  have hG := go_ok hI.1
  have hD := dec_ok hG
  obtain ⟨g1, g2, g3, g4, g5, g6⟩ := go_f (v5_now V)
  obtain ⟨d1, d2, d3, d4, d5, d6, d7, d8⟩ := dec_f (goS (v5_now V))
  have eD := held_d hI.1
  obtain ⟨D, rD⟩ : ∃ D, decS (goS (v5_now V)) = D := ⟨_, rfl⟩
  rw [rD] at hD d1 d2 d3 d4 d5 d6 d7 d8 hN eD ⊢
  obtain ⟨hw5, -, n1, n5, -⟩ := cho_ok hG.1.1 hc
  obtain ⟨h, eh⟩ : ∃ h, mf_X4_swings D (nI w) = h := ⟨_, rfl⟩
  obtain ⟨f1, f2, f3, f4, f5, f6, f7, f8, f9⟩ := beg_f D a w n h
  have hgr : 1 ≤ v4_gear (begS D a w n h) ∧ v4_gear (begS D a w n h) ≤ 5 := by rw [f5]; exact hD.1.1
  obtain ⟨t1, t2, t3, t4, t5, t6, t7, t8, t9, t10⟩ := tk_f (X := begS D a w n h) sp pe hgr
  have went : (w = 0 ∨ w = 1) → mf_L_wentToAndFro V2 = some (mf_X4_swings D (nI w)) := fun hw =>
    went_eq (V := V2) (S := D) (h := h) (o := v4_gear D) (n := n) hD.2.2.1 ha (by rw [d2, g2]; exact hn) hw (by rw [hN, eh, t2, f2]) (by rw [hN, eh, t3, f4])
  rw [eh] at hN went ⊢
  rw [← hN] at t1 t2 t3 t4 t5 t6 t7 t8 t9 t10
  have n0 : ¬ n = 0 := fun q => absurd n1 (by rw [q]; decide)
  have nw : v4_counts D 0 = v4_counts (v5_now V) 0 := by rw [d3, g3]
  obtain ⟨a0, a1, a2, a3, a4⟩ := addL_new (v4_log D) ha hD.2.2.1.2.1 (v4_counts D 0) (v4_gear D) n (nI w) h
  refine ⟨fun i h1 h5 => ?_, ?_, ?_, ?_, ?_, went, i32_m5 n1, n0, ?_, ?_, ?_, ?_, ?_, ?_⟩
  · rw [t10 i h1 (by omega), f3, begC_5 _ _ (by omega), d3, g3]
  · rw [t10 6 (by omega) (by omega), f3, begC_6 _ _ hw5, d3, g3]
  · rw [t9, f3, begC_no _ _ hw5 (Or.inl rfl), nw]
  · rw [t7, f8, t3, f4, eD]
  · rw [chg V2 _ _ (by decide) (by decide) (by decide), t2, f2]
    exact a4
  · rw [car_1, t5, f6, if_neg n0]
  · rw [car_2, t5, f6, if_neg n0, t6, f7]
  · rw [chg V2 _ _ (by decide) (by decide) (by decide), t2, f2, a0, nw]
  · rw [t4, f5, d5]
  · rw [t5, f6]
  · rw [t1, f1, d1, g1]
