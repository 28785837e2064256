/-! to and fro: what the law finds is what the car found -/
theorem w_no (V : CarV) : mf_L_wentToAndFro_B35 V 0 = some 0 := by
  simp [mf_L_wentToAndFro_B35, mf_L_wentToAndFro_B38_0, mf_L_wentToAndFro_B91_0, mf_L_wentToAndFro_B92_0, mf_L_wentToAndFro_B38_1, mf_L_wentToAndFro_B91_1, mf_L_wentToAndFro_B92_1, mf_L_wentToAndFro_B38_2, mf_L_wentToAndFro_B91_2, mf_L_wentToAndFro_B92_2, mf_L_wentToAndFro_B38_3]
theorem w_380 (V : CarV) : mf_L_wentToAndFro_B38_1 V 0 = some 0 := by
  simp [mf_L_wentToAndFro_B38_1, mf_L_wentToAndFro_B91_1, mf_L_wentToAndFro_B92_1, mf_L_wentToAndFro_B38_2, mf_L_wentToAndFro_B91_2, mf_L_wentToAndFro_B92_2, mf_L_wentToAndFro_B38_3]
theorem w_381 (V : CarV) : mf_L_wentToAndFro_B38_2 V 0 = some 0 := by
  simp [mf_L_wentToAndFro_B38_2, mf_L_wentToAndFro_B91_2, mf_L_wentToAndFro_B92_2, mf_L_wentToAndFro_B38_3]
theorem i32_bit {c : Int32} (h0 : ¬ c < 0) (h1 : ¬ 1 < c) : c = 0 ∨ c = 1 := by
  by_cases q : c = 0
  · exact Or.inl q
  · right; grind
theorem w_yes (V : CarV) {w y c d : Int32} (hw : (w = 0 ∧ y = 1) ∨ (w = 1 ∧ y = 0)) (h0 : mf_X5_change V 0 3 = w) (h1 : mf_X5_change V 1 3 = c) (h2 : mf_X5_change V 2 3 = d) : mf_L_wentToAndFro_B35 V 1 = some (if c = y then if d = w then 1 else 0 else 0) := by
  have hw01 : ¬ w < 0 ∧ ¬ 1 < w ∧ ¬ w = y := by
    rcases hw with ⟨rfl, rfl⟩ | ⟨rfl, rfl⟩ <;> exact ⟨by decide, by decide, by decide⟩
  have hyw : ∀ {e : Int32}, ¬ e < 0 → ¬ 1 < e → ¬ e = y → e = w := by
    intro e e0 e1 e2
    rcases hw with ⟨rfl, rfl⟩ | ⟨rfl, rfl⟩ <;> rcases i32_bit e0 e1 with q | q
    · exact q
    · exact absurd q e2
    · exact absurd q e2
    · exact q
  have hwy : ∀ {e : Int32}, ¬ e < 0 → ¬ 1 < e → ¬ e = w → e = y := by
    intro e e0 e1 e2
    rcases hw with ⟨rfl, rfl⟩ | ⟨rfl, rfl⟩ <;> rcases i32_bit e0 e1 with q | q
    · exact absurd q e2
    · exact q
    · exact q
    · exact absurd q e2
  have k2 : mf_L_wentToAndFro_B38_2 V 1 = some (if d < 0 then 0 else if 1 < d then 0 else if d = c then 0 else 1) := by
    have e1 : (2 : Int32) - 1 = 1 := by decide
    unfold mf_L_wentToAndFro_B38_2 mf_L_wentToAndFro_B91_2 mf_L_wentToAndFro_B87_2 mf_L_wentToAndFro_B92_2 mf_L_wentToAndFro_B38_3
    simp only [bnd]
    rw [e1, h1, h2, if_neg (by decide)]
    by_cases q1 : d < 0
    · rw [if_pos q1, if_pos q1]; exact if_pos (Or.inl trivial)
    · rw [if_neg q1, if_neg q1]
      by_cases q2 : 1 < d
      · rw [if_pos q2, if_pos q2]; exact if_pos (Or.inl trivial)
      · rw [if_neg q2, if_neg q2]
        by_cases q3 : d = c
        · rw [if_pos q3, if_pos q3]; exact if_pos (Or.inl trivial)
        · rw [if_neg q3, if_neg q3]; exact if_pos (Or.inr trivial)
  have k1 : mf_L_wentToAndFro_B38_1 V 1 = if c < 0 then some 0 else if 1 < c then some 0 else if c = w then some 0 else mf_L_wentToAndFro_B38_2 V 1 := by
    have e1 : (1 : Int32) - 1 = 0 := by decide
    unfold mf_L_wentToAndFro_B38_1 mf_L_wentToAndFro_B91_1 mf_L_wentToAndFro_B87_1 mf_L_wentToAndFro_B92_1
    simp only [bnd]
    rw [e1, h1, h0, if_neg (by decide), w_381]
  have k0 : mf_L_wentToAndFro_B35 V 1 = mf_L_wentToAndFro_B38_1 V 1 := by
    unfold mf_L_wentToAndFro_B35 mf_L_wentToAndFro_B38_0 mf_L_wentToAndFro_B91_0 mf_L_wentToAndFro_B87_0 mf_L_wentToAndFro_B92_0
    simp only [bnd]
    rw [h0, if_neg (by decide), if_neg hw01.1, if_neg hw01.2.1]
  have c2 : ∀ {e : Int32}, e = y → ¬ e < 0 ∧ ¬ 1 < e ∧ ¬ e = w := by
    rintro e rfl
    rcases hw with ⟨rfl, rfl⟩ | ⟨rfl, rfl⟩ <;> exact ⟨by decide, by decide, by decide⟩
  rw [k0, k1, k2]
  by_cases q1 : c = y
  · obtain ⟨a1, a2, a3⟩ := c2 q1
    rw [if_neg a1, if_neg a2, if_neg a3, if_pos q1]
    by_cases q2 : d = w
    · rw [if_pos q2, q2, q1, if_neg hw01.1, if_neg hw01.2.1, if_neg hw01.2.2]
    · rw [if_neg q2]
      by_cases p1 : d < 0
      · rw [if_pos p1]
      · rw [if_neg p1]
        by_cases p2 : 1 < d
        · rw [if_pos p2]
        · rw [if_neg p2, if_pos ((hwy p1 p2 q2).trans q1.symm)]
  · rw [if_neg q1]
    by_cases p1 : c < 0
    · rw [if_pos p1]
    · rw [if_neg p1]
      by_cases p2 : 1 < c
      · rw [if_pos p2]
      · rw [if_neg p2, if_pos (hyw p1 p2 q1)]
theorem sw_eq (S : St) {w y : Int32} (hw : (w = 0 ∧ y = 1) ∨ (w = 1 ∧ y = 0)) : mf_X4_swings S w = if mf_X2_told (v4_log S) 0 3 = y then if mf_X2_told (v4_log S) 1 3 = w then if v4_settings S 2 < v4_counts S 0 - mf_X2_told (v4_log S) 1 0 then 0 else 1 else 0 else 0 := by
  have e0 : mf_X4_tick S = v4_counts S 0 := rfl
  have k : mf_X4_swings_B20 S w y = if mf_X2_told (v4_log S) 0 3 = y then if mf_X2_told (v4_log S) 1 3 = w then if v4_settings S 2 < v4_counts S 0 - mf_X2_told (v4_log S) 1 0 then 0 else 1 else 0 else 0 := by
    unfold mf_X4_swings_B20
    simp only [bnd]
    rw [e0, set_2]
  rw [← k]
  unfold mf_X4_swings mf_X4_swings_B11
  rcases hw with ⟨rfl, rfl⟩ | ⟨rfl, rfl⟩
  · rw [if_pos rfl, if_pos rfl]
  · rw [if_neg (by decide), if_pos rfl, if_neg (by decide)]
theorem i32_z1 {z : Int32} (h : 0 ≤ z ∧ z ≤ 10) (q : 1 < z) : 2 < (if (10 : Int32) < z + 1 then (10 : Int32) else z + 1) ∧ 1 < (if (10 : Int32) < z + 1 then (10 : Int32) else z + 1) ∧ 0 < z := by
  by_cases p : (10 : Int32) < z + 1
  · rw [if_pos p]; exact ⟨by decide, by decide, by grind⟩
  · rw [if_neg p]; refine ⟨?_, ?_, ?_⟩ <;> grind
theorem i32_z2 {z : Int32} (h : 0 ≤ z ∧ z ≤ 10) (q : ¬ 1 < z) : (if (10 : Int32) < z + 1 then (10 : Int32) else z + 1) ≤ 2 ∧ z ≤ 1 := by
  have p : ¬ (10 : Int32) < z + 1 := by grind
  rw [if_neg p]
  constructor <;> grind
theorem went_eq {V : CarV} {S : St} {t l o n h : Int32} {a w : Nat} (hL : LogOK (v4_log S) t l) (ha : a < 10) (hn : v2_next (v4_log S) = nI a) (hw : w = 0 ∨ w = 1) (eL : v4_log (v5_now V) = addL (v4_log S) a (v4_counts S 0) o n (nI w) h) (es : v4_settings (v5_now V) = v4_settings S) : mf_L_wentToAndFro V = some (mf_X4_swings S (nI w)) := by
  have hz := hL.2.1
  have c00 : mf_X5_change V 0 0 = v4_counts S 0 := by
    rw [chg V _ _ (by decide) (by decide) (by decide), eL]
    exact (addL_new _ ha hz _ _ _ _ _).1
  have c03 : mf_X5_change V 0 3 = nI w := by
    rw [chg V _ _ (by decide) (by decide) (by decide), eL]
    exact (addL_new _ ha hz _ _ _ _ _).2.2.2.1
  have m2 : mf_X5_number V 2 = v4_settings S 2 := by rw [num_2, es]
  have hwy : ∃ y, (nI w = 0 ∧ y = 1) ∨ (nI w = 1 ∧ y = (0 : Int32)) := by
    rcases hw with rfl | rfl
    · exact ⟨1, Or.inl ⟨by decide, rfl⟩⟩
    · exact ⟨0, Or.inr ⟨by decide, rfl⟩⟩
  obtain ⟨y, hy⟩ := hwy
  rw [sw_eq S hy]
  unfold mf_L_wentToAndFro mf_L_wentToAndFro_B34
  simp only [bnd]
  rw [c00, m2, w_no]
  by_cases q : 1 < v2_size (v4_log S)
  · obtain ⟨s2, s1, s0⟩ := i32_z1 hz q
    obtain ⟨-, o0, o1, o2, o3, o4⟩ := addL_old (v4_log S) ha hn hz (v4_counts S 0) o n (nI w) h (b := 1) (by omega) s2
    obtain ⟨-, p0, p1, p2, p3, p4⟩ := addL_old (v4_log S) ha hn hz (v4_counts S 0) o n (nI w) h (b := 0) (by omega) s1
    have c20 : mf_X5_change V 2 0 = mf_X2_told (v4_log S) 1 0 := by
      rw [chg V _ _ (by decide) (by decide) (by decide), eL]
      exact o0
    have c23 : mf_X5_change V 2 3 = mf_X2_told (v4_log S) 1 3 := by
      rw [chg V _ _ (by decide) (by decide) (by decide), eL]
      exact o3
    have c13 : mf_X5_change V 1 3 = mf_X2_told (v4_log S) 0 3 := by
      rw [chg V _ _ (by decide) (by decide) (by decide), eL]
      exact p3
    have pos : ¬ mf_X2_told (v4_log S) 1 0 < 0 := Int32.not_lt.mpr (hL.2.2.1 1 (by omega) q).2.2.1
    rw [c20, if_neg pos, w_yes V hy c03 c13 c23]
    by_cases r1 : v4_settings S 2 < v4_counts S 0 - mf_X2_told (v4_log S) 1 0
    · rw [if_pos r1, if_pos r1, ite_self, ite_self]
    · rw [if_neg r1, if_neg r1]
  · obtain ⟨s2, s1⟩ := i32_z2 hz q
    have c20 : mf_X5_change V 2 0 = -5 := by
      rw [chg V _ _ (by decide) (by decide) (by decide), eL]
      exact told_out _ _ _ s2
    have t13 : mf_X2_told (v4_log S) 1 3 = -5 := told_out _ _ _ s1
    have nw : ¬ (-5 : Int32) = nI w := by
      rcases hw with rfl | rfl <;> decide
    rw [c20, if_pos (by decide), t13, if_neg nw, ite_self]
