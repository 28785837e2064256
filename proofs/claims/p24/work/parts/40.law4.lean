/-! the law's tick, whole -/
theorem inc_b1 (c : Nat → Int32) {w i : Nat} (h : i = 1 + w) : inc c (1 + w) i = c i + bt 1 := by
  subst h
  rw [inc_at]
  rfl
theorem inc_b0 (c : Nat → Int32) {w i : Nat} (h : i ≠ 1 + w) : inc c (1 + w) i = c i + bt 0 := by
  rw [inc_no _ h]
  exact (Int32.add_zero _).symm
/-- a change other than a kickdown begins -/
theorem fin_some {t : Nat} {V V2 : CarV} {sp pe : UInt32} {z3 z4 : UInt32} {z18 x z20 z22 z23 : Int32} {a w : Nat} {n : Int32} (ht : t ≤ 15000) (hI : CarOK t V) (ha : a < 10) (hn : v2_next (v4_log (v5_now V)) = nI a) (hc : Cho (v4_maps (v5_now V)) sp (v4_gear (goS (v5_now V))) w n) (hN : v5_now V2 = tkS (begS (decS (goS (v5_now V))) a w n (mf_X4_swings (decS (goS (v5_now V))) (nI w))) sp pe) (hx : x = n) (hw : (w = 4 ∧ z20 = 1 ∧ z22 = 0 ∧ z23 = 0) ∨ (w = 0 ∧ z20 = 0 ∧ z22 = 1 ∧ z23 = 0) ∨ (w = 1 ∧ z20 = 0 ∧ z22 = 0 ∧ z23 = 1)) : mf_L_tick_B326 V2 z3 z4 (mf_X5_car V 1) (v4_held (v5_now V)) x (v4_counts (v5_now V) 1) (v4_counts (v5_now V) 2) (v4_counts (v5_now V) 5) (v4_counts (v5_now V) 6) (v4_counts (v5_now V) 0) z18 (v4_gear (goS (v5_now V))) z20 z22 z23 1 (if v4_counts (v5_now V2) 3 = v4_counts (v5_now V) 3 + 1 then (1 : Int32) else 0) = some (1, V2) := by
  obtain ⟨c15, c6, c0, hh, h4, went, n5, n0, k1, k2, k00, kg, kt, km⟩ := beg_all (V2 := V2) (sp := sp) (pe := pe) ht hI ha hn hc hN
  have h01 := sw01 (decS (goS (v5_now V))) (nI w)
  have hle : mf_X4_swings (decS (goS (v5_now V))) (nI w) = 1 → nI w ≤ 1 := fun e => sw_le (by omega) e
  have l6 := i32_l1 (t := t) (by omega) (hI.1.2.1.1 6 (by omega)).1 (hI.1.2.1.1 6 (by omega)).2
  have c3 : ¬ v4_counts (v5_now V2) 3 = v4_counts (v5_now V) 3 + 1 := by
    rw [c15 3 (by omega) (by omega), inc_no _ (by omega)]
    exact fun e => i32_n1 _ e.symm
  rw [if_neg c3]
  have e5 := c15 5 (by omega) (by omega)
  have e1 := c15 1 (by omega) (by omega)
  have e2 := c15 2 (by omega) (by omega)
  rcases hw with ⟨hw, rfl, rfl, rfl⟩ | ⟨hw, rfl, rfl, rfl⟩ | ⟨hw, rfl, rfl, rfl⟩
  · refine law_some (h := mf_X4_swings (decS (goS (v5_now V))) (nI w)) (z26 := n) (e5.trans (inc_b1 _ (by omega))) (e1.trans (inc_b0 _ (by omega))) (e2.trans (inc_b0 _ (by omega))) c6 l6 hh ?_ (by decide) h01 ?_ h4 ?_ n5 k1 k2 k00 hx kg
    · rw [if_neg (by decide)]
      rcases hc with ⟨-, e, -⟩ | ⟨e, -⟩ | ⟨e, -⟩ | ⟨e, -⟩
      · exact e
      · omega
      · omega
      · omega
    · intro e
      have q := hle e
      rw [hw] at q
      exact absurd q (by decide)
    · exact fun q => absurd ⟨rfl, rfl⟩ q
  · refine law_some (h := mf_X4_swings (decS (goS (v5_now V))) (nI w)) (z26 := n) (e5.trans (inc_b0 _ (by omega))) (e1.trans (inc_b1 _ (by omega))) (e2.trans (inc_b0 _ (by omega))) c6 l6 hh ?_ (by decide) h01 (fun _ => by decide) h4 (fun _ => went (Or.inl hw)) n5 k1 k2 k00 hx kg
    · rw [if_pos rfl, if_neg (by decide)]
      rcases hc with ⟨e, -⟩ | ⟨e, -⟩ | ⟨-, e, -⟩ | ⟨e, -⟩
      · omega
      · omega
      · exact e
      · omega
  · refine law_some (h := mf_X4_swings (decS (goS (v5_now V))) (nI w)) (z26 := n) (e5.trans (inc_b0 _ (by omega))) (e1.trans (inc_b0 _ (by omega))) (e2.trans (inc_b1 _ (by omega))) c6 l6 hh ?_ (by decide) h01 (fun _ => by decide) h4 (fun _ => went (Or.inr hw)) n5 k1 k2 k00 hx kg
    · rw [if_pos rfl, if_pos rfl]
      rcases hc with ⟨e, -⟩ | ⟨e, -⟩ | ⟨e, -⟩ | ⟨-, e, -⟩
      · omega
      · omega
      · omega
      · exact e
theorem law_tick {t : Nat} {V : CarV} {i j : Int32} (hi : i ∈ spI) (hj : j ∈ peI) (ht : t ≤ 15000) (hI : CarOK t V) : ∃ V2, mf_L_tick V i j = some (1, V2) ∧ CarOK (t + 1) V2 := by
  obtain ⟨V1, ew, en, eh⟩ := would_eq hi hj (by omega) hI
  have hI1 : CarOK t V1 := by
    unfold CarOK
    rw [en, eh]
    exact hI
  obtain ⟨V2, ed, en2, hI2⟩ := drive_eq (n := 1) hi hj (by omega) (by omega) (by omega) hI1
  have hsp := (fp_of i hi).2.1
  have hpe := (fp_ofp j hj).2.1
  refine ⟨V2, ?_, hI2⟩
  obtain ⟨-, -, hS⟩ := nx_ok (sp := mf_L_fast i) (by omega) hI.1 hpe
  have hG := go_ok hI.1
  have hg := hG.1.1
  have hm : FVm (v4_maps (v5_now V)) := hI.1.1.2.2.2.2.2.2.2.2
  have hm1 : FVm (v4_maps (v5_now V1)) := by rw [en]; exact hm
  obtain ⟨g1, g2, g3, g4, g5, g6⟩ := go_f (v5_now V)
  have e1 : nI 1 = 1 := by decide
  have eN : v5_now V2 = (nx (mf_L_fast i) (mf_L_deep j) (v5_now V)).2 := by rw [en2, en]; rfl
  have eC : itC (mf_L_fast i) (mf_L_deep j) (v5_now V1) 1 = if (nx (mf_L_fast i) (mf_L_deep j) (v5_now V)).1 = 0 then 0 else 1 := by
    rw [en]
    exact Nat.zero_add _
  rw [eC, e1] at ed
  rw [law_pre hI ew en]
  obtain ⟨⟨b, N⟩, ebn⟩ : ∃ p, nx (mf_L_fast i) (mf_L_deep j) (v5_now V) = p := ⟨_, rfl⟩
  rw [ebn] at hS eN ed ⊢
  have eN' : v5_now V2 = N := eN
  have ed' : mf_X5_drive V1 (mf_L_speed i) (mf_L_pedal j) 1 = some (nI (if b = 0 then 0 else 1), V2) := ed
  have e160 : (if (b, N).1 = 0 then (-5 : Int32) else v4_target (b, N).2) = if b = 0 then -5 else v4_target N := rfl
  rw [e160]
  have key := fun z18 z20 z22 z23 : Int32 => law_292 (z18 := z18) (z20 := z20) (z22 := z22) (z23 := z23) (sp := mf_L_fast i) (pe := mf_L_deep j) (z6 := mf_X5_car V 1) (z8 := v4_held (v5_now V)) (z10 := if b = 0 then -5 else v4_target N) (z11 := v4_counts (v5_now V) 1) (z12 := v4_counts (v5_now V) 2) (z13 := v4_counts (v5_now V) 3) (z14 := v4_counts (v5_now V) 5) (z15 := v4_counts (v5_now V) 6) (z16 := v4_counts (v5_now V) 0) (g := v4_gear (goS (v5_now V))) ed'
  rcases hS with ⟨h0, hb, hN⟩ | ⟨h0, hb, hr, hN⟩ | ⟨h0, hb, a, w, n, ha, hn, hr, hc, hN⟩
  · rw [if_neg h0, law_nf, key]
    have hb0 : b = 0 := hb
    obtain ⟨q, eq, h⟩ := fin_none (V2 := V2) (z3 := mf_L_fast i) (z4 := mf_L_deep j) (z18 := 0) (x := -5) hI (eN'.trans hN) rfl (Or.inr ⟨h0, rfl⟩)
    rw [if_pos hb0, if_pos hb0, eq, nI_0]
    exact h
  · rw [if_pos h0]
    have hb0 : b = 0 := hb
    obtain ⟨hgu, hma⟩ := rea_m1 hr
    rw [g1] at hgu
    have e : mf_L_tick_B160 V1 i j (mf_L_fast i) (mf_L_deep j) (mf_X5_car V 1) (v4_held (v5_now V)) (if v4_handMode (v5_now V) = 0 then 0 else 1) (if b = 0 then -5 else v4_target N) (v4_counts (v5_now V) 1) (v4_counts (v5_now V) 2) (v4_counts (v5_now V) 3) (v4_counts (v5_now V) 5) (v4_counts (v5_now V) 6) (v4_counts (v5_now V) 0) 1 (v4_gear (goS (v5_now V))) = mf_L_tick_B292 V1 i j (mf_L_fast i) (mf_L_deep j) (mf_X5_car V 1) (v4_held (v5_now V)) (if b = 0 then -5 else v4_target N) (v4_counts (v5_now V) 1) (v4_counts (v5_now V) 2) (v4_counts (v5_now V) 3) (v4_counts (v5_now V) 5) (v4_counts (v5_now V) 6) (v4_counts (v5_now V) 0) 1 (v4_gear (goS (v5_now V))) 0 0 0 := by
      rw [law_ng hg.1 hg.2 (by rw [en]; exact hgu)]
      by_cases q : (if v4_handMode (v5_now V) = 0 then (0 : Int32) else 1) = 0 ∧ v4_held (v5_now V) = 0
      · rw [if_pos q]
        have qm : maP (goS (v5_now V)) := ⟨by rw [g6]; exact hand_z.mp q.1, by rw [g5, q.2]; decide⟩
        obtain ⟨m1, m2⟩ := hma qm
        rw [g1] at m1 m2
        exact (law_nu hm1 hj hg (by rw [en]; exact m1)).2 (by rw [en]; exact m2)
      · rw [if_neg q]
    rw [e, key]
    obtain ⟨q, eq, h⟩ := fin_none (V2 := V2) (z3 := mf_L_fast i) (z4 := mf_L_deep j) (z18 := 1) (x := -5) hI (eN'.trans hN) rfl (Or.inl ⟨h0, by decide⟩)
    rw [if_pos hb0, if_pos hb0, eq, nI_0]
    exact h
  · rw [if_pos h0]
    have hb1 : b = 1 := hb
    have hb0 : ¬ b = 0 := by rw [hb1]; decide
    have hN2 : v5_now V2 = _ := eN'.trans hN
    obtain ⟨c15, c6, c0, hh, h4, went, n5, n0, k1, k2, k00, kg, kt, km⟩ := beg_all (V2 := V2) (by omega) hI ha hn hc hN2
    have hx : v4_target N = n := by rw [← eN']; exact kt
    simp only [if_neg hb0, hx, e1] at key
    rw [if_neg hb0, hx]
    have hma : maP (goS (v5_now V)) → (if v4_handMode (v5_now V) = 0 then (0 : Int32) else 1) = 0 ∧ v4_held (v5_now V) = 0 := fun q => by
      obtain ⟨q1, q2⟩ := q
      rw [g6] at q1
      rw [g5] at q2
      exact ⟨hand_z.mpr q1, i32_hd hI.1.1.2.2.2.2.2.2.1.1 q2⟩
    have hc' := hc
    rcases hc with ⟨rfl, -⟩ | ⟨rfl, hk⟩ | ⟨rfl, -⟩ | ⟨rfl, -⟩
    · have hgu := rea_4 hr
      rw [g1] at hgu
      rw [law_gu hg.1 hg.2 (by rw [en]; exact hgu), key]
      exact fin_some ht hI ha hn hc' hN2 rfl (Or.inl ⟨rfl, rfl, rfl, rfl⟩)
    · obtain ⟨hgu, hd⟩ := rea_2 hr
      rw [g1] at hgu
      have c3 : v4_counts (v5_now V2) 3 = v4_counts (v5_now V) 3 + 1 := by
        rw [c15 3 (by omega) (by omega)]
        exact inc_at _ _
      simp only [if_pos c3] at key
      have fin : ∀ z22 z23, mf_L_tick_B326 V2 (mf_L_fast i) (mf_L_deep j) (mf_X5_car V 1) (v4_held (v5_now V)) n (v4_counts (v5_now V) 1) (v4_counts (v5_now V) 2) (v4_counts (v5_now V) 5) (v4_counts (v5_now V) 6) (v4_counts (v5_now V) 0) 1 (v4_gear (goS (v5_now V))) 0 z22 z23 1 1 = some (1, V2) := fun z22 z23 =>
        law_kick (by rw [km]; exact hm) hsp hg (by rw [km]; exact hk) hd (by decide) rfl k1 kg c0
      rw [law_ng hg.1 hg.2 (by rw [en]; exact hgu)]
      by_cases q : (if v4_handMode (v5_now V) = 0 then (0 : Int32) else 1) = 0 ∧ v4_held (v5_now V) = 0
      · rw [if_pos q]
        by_cases u : upP (v4_maps (v5_now V1)) (mf_L_fast i) (mf_L_deep j) (v4_gear (goS (v5_now V)))
        · rw [law_up hm1 hj hg.1 u, key]
          exact fin _ _
        · by_cases d : dnP (v4_maps (v5_now V1)) (mf_L_fast i) (mf_L_deep j) (v4_gear (goS (v5_now V)))
          · rw [(law_nu hm1 hj hg u).1 d, key]
            exact fin _ _
          · rw [(law_nu hm1 hj hg u).2 d, key]
            exact fin _ _
      · rw [if_neg q, key]
        exact fin _ _
    · obtain ⟨hgu, qm, hu⟩ := rea_0 hr
      rw [g1] at hgu hu
      rw [law_ng hg.1 hg.2 (by rw [en]; exact hgu), if_pos (hma qm), law_up hm1 hj hg.1 (by rw [en]; exact hu), key]
      exact fin_some ht hI ha hn hc' hN2 rfl (Or.inr (Or.inl ⟨rfl, rfl, rfl, rfl⟩))
    · obtain ⟨hgu, qm, hu, hd⟩ := rea_1 hr
      rw [g1] at hgu hu hd
      rw [law_ng hg.1 hg.2 (by rw [en]; exact hgu), if_pos (hma qm), (law_nu hm1 hj hg (by rw [en]; exact hu)).1 (by rw [en]; exact hd), key]
      exact fin_some ht hI ha hn hc' hN2 rfl (Or.inr (Or.inr ⟨rfl, rfl, rfl, rfl⟩))
