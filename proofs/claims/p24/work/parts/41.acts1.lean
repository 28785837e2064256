/-! acts: settles, ticks -/
theorem now_mono {T T' : Int32} {S : St} (h : NowOK T S) (hT : T ≤ T') : NowOK T' S := ⟨h.1, ⟨fun i hi => ⟨(h.2.1.1 i hi).1, Int32.le_trans (h.2.1.1 i hi).2 hT⟩, h.2.1.2⟩, h.2.2⟩
theorem car_mono {t t' : Nat} {V : CarV} (h : CarOK t V) (ht : t ≤ t') (h2 : t' ≤ 20000) : CarOK t' V := ⟨now_mono h.1 (nI_le ht (by omega)), h.2⟩
theorem car_same {t : Nat} {V V1 : CarV} (h : CarOK t V) (hn : v5_now V1 = v5_now V) (hh : v5_history V1 = v5_history V) : CarOK t V1 := by
  unfold CarOK
  rw [hn, hh]
  exact h
theorem itC_1 (sp pe : UInt32) (S : St) : itC sp pe S 1 = if itB sp pe S 0 = 0 then 0 else 1 := Nat.zero_add _
theorem law_75 {t : Nat} {V : CarV} {i j y : Int32} (hi : i ∈ spI) (hj : j ∈ peI) (ht : t ≤ 15000) (hI : CarOK t V) (hy : ¬ y < 0) (h1 : ¬ itB (mf_L_fast i) (mf_L_deep j) (v5_now V) 0 = 0) (h2 : ∀ k, 1 ≤ k → k < 100 → itB (mf_L_fast i) (mf_L_deep j) (v5_now V) k = 0) : ∃ V2, mf_L_settles_B75 V i j y = some (1, V2) ∧ CarOK (t + 1 + 99) V2 := by
  obtain ⟨V1, e1, n1, I1⟩ := drive_eq (n := 1) hi hj (by omega) (by omega) (by omega) hI
  obtain ⟨V2, e2, n2, I2⟩ := drive_eq (n := 99) hi hj (by omega) (by omega) (by omega) I1
  have c2 : itC (mf_L_fast i) (mf_L_deep j) (v5_now V1) 99 = 0 := itC_no fun k hk => by
    rw [n1, ← itB_add]
    exact h2 (1 + k) (by omega) (by omega)
  have l1 : nI 1 = 1 := by decide
  have l99 : nI 99 = 99 := by decide
  rw [itC_1, if_neg h1, l1] at e1
  rw [c2, l99, nI_0] at e2
  refine ⟨V2, ?_, I2⟩
  unfold mf_L_settles_B75
  rw [if_neg hy]
  simp only [bnd]
  rw [e1, Option.bind_some, if_pos rfl, e2, Option.bind_some]
  exact if_pos rfl
theorem law_24 {t : Nat} {V : CarV} {i j x : Int32} (hi : i ∈ spI) (hj : j ∈ peI) (ht : t ≤ 15000) (hI : CarOK t V) (h : x = 0 → ∀ k, k < 99 → itB (mf_L_fast i) (mf_L_deep j) (v5_now V) k = 0) : ∃ V2 d, mf_L_settles_B24 V i j x = some (1, V2) ∧ CarOK (t + d) V2 ∧ d ≤ 199 := by
  unfold mf_L_settles_B24
  by_cases q : x = 0
  · obtain ⟨V2, e2, n2, I2⟩ := drive_eq (n := 99) hi hj (by omega) (by omega) (by omega) hI
    have l99 : nI 99 = 99 := by decide
    rw [itC_no (h q), l99, nI_0] at e2
    refine ⟨V2, 99, ?_, I2, by omega⟩
    rw [if_pos q]
    simp only [bnd]
    rw [e2, Option.bind_some]
    exact if_pos rfl
  · exact ⟨V, 0, by rw [if_neg q]; rfl, hI, by omega⟩
theorem law_settles {t : Nat} {V : CarV} {i j : Int32} (hi : i ∈ spI) (hj : j ∈ peI) (ht : t ≤ 13000) (hI : CarOK t V) : ∃ V2 d, mf_L_settles V i j = some (1, V2) ∧ CarOK (t + d) V2 ∧ d ≤ 199 := by
  obtain ⟨x, V1, e, n1, h1, hx⟩ := settles_eq hi hj (by omega) hI
  have I1 := car_same hI n1 h1
  rw [← n1] at hx
  unfold mf_L_settles
  simp only [bnd]
  rw [e, Option.bind_some]
  show ∃ V2 d, (if x < 1 then mf_L_settles_B24 V1 i j x else if x ≤ 99 then if x ≤ 1 then mf_L_settles_B75 V1 i j 0 else (Option.bind (mf_X5_drive V1 (mf_L_speed i) (mf_L_pedal j) (x - 1)) (fun r_37 => (mf_L_settles_B75 r_37.2 i j r_37.1))) else mf_L_settles_B24 V1 i j x) = some (1, V2) ∧ CarOK (t + d) V2 ∧ d ≤ 199
  rcases hx with hx | ⟨L, hL, hx, hb, hk⟩
  · rw [hx, if_pos (by decide)]
    exact law_24 hi hj (by omega) I1 fun q => absurd q (by decide)
  · subst hx
    by_cases q0 : L = 0
    · subst q0
      rw [if_pos (by decide)]
      exact law_24 hi hj (by omega) I1 fun _ k hk2 => hk k (by omega) (by omega)
    · have a1 : ¬ nI L < 1 := nI_nlt (b := 1) (by omega) (by omega)
      rw [if_neg a1]
      rcases hb with hb | hb
      · exact absurd hb q0
      by_cases q99 : L ≤ 99
      · have a2 : nI L ≤ 99 := nI_le (b := 99) (by omega) (by omega)
        rw [if_pos a2]
        by_cases q1 : L = 1
        · subst q1
          rw [if_pos (by decide)]
          obtain ⟨V2, e2, I2⟩ := law_75 (y := 0) hi hj (by omega) I1 (by decide) hb (fun k k1 k2 => hk k k1 (by omega))
          exact ⟨V2, 1 + 99, e2, I2, by omega⟩
        · have a3 : ¬ nI L ≤ 1 := nI_ge (a := 1) (by omega) (by omega)
          obtain ⟨m, rfl⟩ : ∃ m, L = m + 1 := ⟨L - 1, by omega⟩
          obtain ⟨V3, e3, n3, I3⟩ := drive_eq (n := m) hi hj (by omega) (by omega) (by omega) I1
          rw [if_neg a3, nI_pred, e3, Option.bind_some]
          have ec := itC_le (mf_L_fast i) (mf_L_deep j) (v5_now V1) m
          have hb' : ¬ itB (mf_L_fast i) (mf_L_deep j) (v5_now V3) 0 = 0 := by
            rw [n3, ← itB_add]
            exact hb
          obtain ⟨V2, e2, I2⟩ := law_75 (y := nI (itC (mf_L_fast i) (mf_L_deep j) (v5_now V1) m)) hi hj (by omega) I3 (nI_pos (by omega)) hb' (fun k k1 k2 => by
            rw [n3, ← itB_add]
            exact hk (m + k) (by omega) (by omega))
          exact ⟨V2, m + 1 + 99, e2, by rw [show t + (m + 1 + 99) = t + m + 1 + 99 by omega]; exact I2, by omega⟩
      · have a2 : ¬ nI L ≤ 99 := nI_ge (a := 99) (by omega) (by omega)
        rw [if_neg a2]
        exact law_24 hi hj (by omega) I1 fun q => absurd q (nI_ne0 (by omega) (by omega))
