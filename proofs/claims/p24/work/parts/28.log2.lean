def addL (L : LgV) (a : Nat) (t o n w h : Int32) : LgV := (add_cells (v2_cells L) a t o n w h, nI (if a + 1 < 10 then a + 1 else 0), if (10 : Int32) < v2_size L + 1 then 10 else v2_size L + 1)
theorem ac_new (c : Nat → Int32) (a : Nat) (t o n w h : Int32) : add_cells c a t o n w h (a * 5) = t ∧ add_cells c a t o n w h (a * 5 + 1) = o ∧ add_cells c a t o n w h (a * 5 + 2) = n ∧ add_cells c a t o n w h (a * 5 + 3) = w ∧ add_cells c a t o n w h (a * 5 + 4) = h := by
  unfold add_cells upd
  refine ⟨?_, ?_, ?_, ?_, ?_⟩ <;> simp
theorem ac_old (c : Nat → Int32) (a : Nat) (t o n w h : Int32) {p k : Nat} (hp : p ≠ a) (hk : k < 5) : add_cells c a t o n w h (p * 5 + k) = c (p * 5 + k) := by
  unfold add_cells upd
  rw [if_neg (by omega), if_neg (by omega), if_neg (by omega), if_neg (by omega), if_neg (by omega)]
theorem lpos_0 {a : Nat} (ha : a < 10) : lpos (if a + 1 < 10 then a + 1 else 0) 0 = a := by
  unfold lpos
  by_cases h : a + 1 < 10
  · rw [if_pos h, if_pos (by omega)]; omega
  · rw [if_neg h, if_neg (by omega)]; omega
theorem lpos_s {a b : Nat} (ha : a < 10) (hb : b < 9) : lpos (if a + 1 < 10 then a + 1 else 0) (b + 1) = lpos a b ∧ lpos a b ≠ a := by
  unfold lpos
  by_cases h : a + 1 < 10
  · rw [if_pos h]
    by_cases h2 : b < a
    · rw [if_pos h2, if_pos (by omega)]; omega
    · rw [if_neg h2, if_neg (by omega)]; omega
  · rw [if_neg h, if_neg (by omega), if_pos (by omega)]; omega
theorem sz_pos {z : Int32} (h : 0 ≤ z ∧ z ≤ 10) : 0 < (if (10 : Int32) < z + 1 then (10 : Int32) else z + 1) ∧ (if (10 : Int32) < z + 1 then (10 : Int32) else z + 1) ≤ 10 := by
  by_cases q : (10 : Int32) < z + 1
  · rw [if_pos q]; exact ⟨by decide, by decide⟩
  · rw [if_neg q]; constructor <;> grind
theorem sz_lt {z x : Int32} (h : 0 ≤ z ∧ z ≤ 10) (hx : 0 ≤ x) (hx2 : x < 9) (hl : x + 1 < (if (10 : Int32) < z + 1 then (10 : Int32) else z + 1)) : x < z := by
  by_cases q : (10 : Int32) < z + 1
  · rw [if_pos q] at hl; grind
  · rw [if_neg q] at hl; grind
theorem addL_new (L : LgV) {a : Nat} (ha : a < 10) (hz : 0 ≤ v2_size L ∧ v2_size L ≤ 10) (t o n w h : Int32) : mf_X2_told (addL L a t o n w h) 0 0 = t ∧ mf_X2_told (addL L a t o n w h) 0 1 = o ∧ mf_X2_told (addL L a t o n w h) 0 2 = n ∧ mf_X2_told (addL L a t o n w h) 0 3 = w ∧ mf_X2_told (addL L a t o n w h) 0 4 = h := by
  have hs : nI 0 < v2_size (addL L a t o n w h) := by rw [nI_0]; exact (sz_pos hz).1
  have ha2 : (if a + 1 < 10 then a + 1 else 0) < 10 := by split <;> omega
  have key : ∀ k : Nat, k < 5 → mf_X2_told (addL L a t o n w h) (nI 0) (nI k) = add_cells (v2_cells L) a t o n w h (a * 5 + k) := fun k hk => by
    rw [told_at (addL L a t o n w h) (a := if a + 1 < 10 then a + 1 else 0) ha2 (by omega) hk rfl hs, lpos_0 ha]
    rfl
  obtain ⟨n0, n1, n2, n3, n4⟩ := ac_new (v2_cells L) a t o n w h
  have k0 := key 0 (by omega)
  have k1 := key 1 (by omega)
  have k2 := key 2 (by omega)
  have k3 := key 3 (by omega)
  have k4 := key 4 (by omega)
  rw [nI_0] at k0 k1 k2 k3 k4
  have l1 : nI 1 = 1 := by decide
  have l2 : nI 2 = 2 := by decide
  have l3 : nI 3 = 3 := by decide
  have l4 : nI 4 = 4 := by decide
  rw [l1] at k1
  rw [l2] at k2
  rw [l3] at k3
  rw [l4] at k4
  exact ⟨k0.trans n0, k1.trans n1, k2.trans n2, k3.trans n3, k4.trans n4⟩
theorem addL_old (L : LgV) {a : Nat} (ha : a < 10) (hn : v2_next L = nI a) (hz : 0 ≤ v2_size L ∧ v2_size L ≤ 10) (t o n w h : Int32) {b : Nat} (hb : b < 9) (hs : nI (b + 1) < v2_size (addL L a t o n w h)) : nI b < v2_size L ∧ mf_X2_told (addL L a t o n w h) (nI (b + 1)) 0 = mf_X2_told L (nI b) 0 ∧ mf_X2_told (addL L a t o n w h) (nI (b + 1)) 1 = mf_X2_told L (nI b) 1 ∧ mf_X2_told (addL L a t o n w h) (nI (b + 1)) 2 = mf_X2_told L (nI b) 2 ∧ mf_X2_told (addL L a t o n w h) (nI (b + 1)) 3 = mf_X2_told L (nI b) 3 ∧ mf_X2_told (addL L a t o n w h) (nI (b + 1)) 4 = mf_X2_told L (nI b) 4 := by
  have hs0 : nI b < v2_size L := by
    refine sz_lt hz (nI_pos' (by omega)) (nI_lt (b := 9) hb (by omega)) ?_
    rw [nI_1]
    exact hs
  have ha2 : (if a + 1 < 10 then a + 1 else 0) < 10 := by split <;> omega
  obtain ⟨p1, p2⟩ := lpos_s ha hb
  have key : ∀ k : Nat, k < 5 → mf_X2_told (addL L a t o n w h) (nI (b + 1)) (nI k) = mf_X2_told L (nI b) (nI k) := fun k hk => by
    rw [told_at (addL L a t o n w h) (a := if a + 1 < 10 then a + 1 else 0) ha2 (by omega) hk rfl hs, told_at L ha (by omega) hk hn hs0, p1]
    exact ac_old _ _ _ _ _ _ _ p2 hk
  have k0 := key 0 (by omega)
  have k1 := key 1 (by omega)
  have k2 := key 2 (by omega)
  have k3 := key 3 (by omega)
  have k4 := key 4 (by omega)
  rw [nI_0] at k0
  have l1 : nI 1 = 1 := by decide
  have l2 : nI 2 = 2 := by decide
  have l3 : nI 3 = 3 := by decide
  have l4 : nI 4 = 4 := by decide
  rw [l1] at k1
  rw [l2] at k2
  rw [l3] at k3
  rw [l4] at k4
  exact ⟨hs0, k0, k1, k2, k3, k4⟩
theorem LogOK_mono {L : LgV} {t t' last : Int32} (h : LogOK L t last) (ht : t ≤ t') : LogOK L t' last := ⟨h.1, h.2.1, fun b hb hs => by
  obtain ⟨h1, h2, h3, h4⟩ := h.2.2.1 b hb hs
  exact ⟨h1, h2, h3, Int32.le_trans h4 ht⟩, h.2.2.2.1, h.2.2.2.2⟩
theorem LogOK_add {L : LgV} {t last n w h : Int32} (hL : LogOK L t last) (ht : 0 ≤ t) (hf : fits w (n - last)) (hh : h = 1 → w ≤ 1) {a : Nat} (ha : a < 10) (hn : v2_next L = nI a) : LogOK (addL L a t last n w h) t n := by
  obtain ⟨-, hz, hr, hc, hl⟩ := hL
  obtain ⟨n0, n1, n2, n3, n4⟩ := addL_new L ha hz t last n w h
  have ha2 : (if a + 1 < 10 then a + 1 else 0) < 10 := by split <;> omega
  refine ⟨⟨nI_pos' (by omega), nI_lt (b := 10) ha2 (by omega)⟩, ⟨Int32.le_of_lt (sz_pos hz).1, (sz_pos hz).2⟩, fun b hb hs => ?_, fun b hb hs => ?_, fun _ => n2⟩
  · cases b with
    | zero =>
      rw [nI_0]
      unfold RowOK
      rw [n0, n1, n2, n3, n4]
      exact ⟨hf, hh, ht, Int32.le_refl _⟩
    | succ b =>
      obtain ⟨h0, e0, e1, e2, e3, e4⟩ := addL_old L ha hn hz t last n w h (by omega) hs
      unfold RowOK
      rw [e0, e1, e2, e3, e4]
      exact hr b (by omega) h0
  · obtain ⟨h0, e0, e1, e2, e3, e4⟩ := addL_old L ha hn hz t last n w h hb hs
    cases b with
    | zero =>
      rw [e0, e2, nI_0, n0, n1]
      rw [nI_0] at h0
      refine ⟨hl h0, ?_⟩
      have := (hr 0 (by omega) (by rw [nI_0]; exact h0)).2.2.2
      rw [nI_0] at this
      exact this
    | succ b =>
      have hs2 : nI (b + 1) < v2_size (addL L a t last n w h) := Int32.lt_trans (nI_lt (by omega) (by omega)) hs
      obtain ⟨g0, f0, f1, f2, f3, f4⟩ := addL_old L ha hn hz t last n w h (by omega) hs2
      rw [e0, e2, f0, f1]
      exact hc b (by omega) h0
