/-! a change that begins keeps what holds -/
theorem inc_sum (c : Nat → Int32) {w : Nat} (hw : w < 5) : inc c (1 + w) 1 + inc c (1 + w) 2 + inc c (1 + w) 3 + inc c (1 + w) 4 + inc c (1 + w) 5 = c 1 + c 2 + c 3 + c 4 + c 5 + 1 := by
  have r : ∀ i, i ≠ 1 + w → inc c (1 + w) i = c i := fun i q => inc_no _ q
  have r1 := inc_at c (1 + w)
  obtain rfl | rfl | rfl | rfl | rfl : w = 0 ∨ w = 1 ∨ w = 2 ∨ w = 3 ∨ w = 4 := by omega
  · rw [r1, r 2 (by omega), r 3 (by omega), r 4 (by omega), r 5 (by omega)]; grind
  · rw [r1, r 1 (by omega), r 3 (by omega), r 4 (by omega), r 5 (by omega)]; grind
  · rw [r1, r 2 (by omega), r 1 (by omega), r 4 (by omega), r 5 (by omega)]; grind
  · rw [r1, r 2 (by omega), r 3 (by omega), r 1 (by omega), r 5 (by omega)]; grind
  · rw [r1, r 2 (by omega), r 3 (by omega), r 4 (by omega), r 1 (by omega)]; grind
theorem sz_step {z a : Int32} (hz : 0 ≤ z ∧ z ≤ 10) (h : SzOK z a) : SzOK (if (10 : Int32) < z + 1 then 10 else z + 1) (a + 1) ∨ a = 2147483647 := by
  unfold SzOK at *
  rcases h with ⟨h1, h2⟩ | ⟨h1, h2⟩
  · subst h2
    rw [if_pos (by decide)]
    by_cases q : 10 ≤ a + 1
    · exact Or.inl (Or.inl ⟨q, rfl⟩)
    · right
      grind
  · subst h2
    left
    by_cases q : (10 : Int32) < z + 1
    · exact absurd q (by grind)
    · rw [if_neg q]
      by_cases q2 : 10 ≤ z + 1
      · exact Or.inl ⟨q2, by grind⟩
      · exact Or.inr ⟨q2, rfl⟩
theorem add_s {a b x y : Int32} (hx : 0 ≤ x ∧ x ≤ 100000) (hy : 0 ≤ y ∧ y ≤ 20000) (ha : 0 ≤ a ∧ a ≤ x) (hb : 0 ≤ b ∧ b ≤ y) : 0 ≤ a + b ∧ a + b ≤ x + y := by constructor <;> grind
theorem sum_small {a b c d e T : Int32} (hT : 0 ≤ T ∧ T ≤ 20000) (ha : 0 ≤ a ∧ a ≤ T) (hb : 0 ≤ b ∧ b ≤ T) (hc : 0 ≤ c ∧ c ≤ T) (hd : 0 ≤ d ∧ d ≤ T) (he : 0 ≤ e ∧ e ≤ T) : a + b + c + d + e ≠ 2147483647 := by
  have up : ∀ {x : Int32}, 0 ≤ x ∧ x ≤ T → 0 ≤ x ∧ x ≤ 20000 := fun h => ⟨h.1, Int32.le_trans h.2 hT.2⟩
  have k20 : 0 ≤ (20000 : Int32) ∧ (20000 : Int32) ≤ 20000 := ⟨by decide, by decide⟩
  have s1 := add_s (x := 20000) (y := 20000) ⟨by decide, by decide⟩ k20 (up ha) (up hb)
  have s2 := add_s (x := 20000 + 20000) (y := 20000) ⟨by decide, by decide⟩ k20 s1 (up hc)
  have s3 := add_s (x := 20000 + 20000 + 20000) (y := 20000) ⟨by decide, by decide⟩ k20 s2 (up hd)
  have s4 := add_s (x := 20000 + 20000 + 20000 + 20000) (y := 20000) ⟨by decide, by decide⟩ k20 s3 (up he)
  intro q
  rw [q] at s4
  exact absurd s4.2 (by decide)
theorem sw_le {S : St} {w : Nat} (hw : w < 5) (h : mf_X4_swings S (nI w) = 1) : nI w ≤ 1 := by
  obtain rfl | rfl | rfl | rfl | rfl : w = 0 ∨ w = 1 ∨ w = 2 ∨ w = 3 ∨ w = 4 := by omega
  · decide
  · decide
  · exact absurd h (by unfold mf_X4_swings; rw [if_neg (by decide), if_neg (by decide)]; decide)
  · exact absurd h (by unfold mf_X4_swings; rw [if_neg (by decide), if_neg (by decide)]; decide)
  · exact absurd h (by unfold mf_X4_swings; rw [if_neg (by decide), if_neg (by decide)]; decide)
/-- what a beginning counts -/
def begC (c : Nat → Int32) (w : Nat) (h : Int32) : Nat → Int32 := if h = 0 then inc c (1 + w) else inc (inc c (1 + w)) 6
theorem begC_no (c : Nat → Int32) {w : Nat} (h : Int32) (hw : w < 5) {i : Nat} (hi : i = 0 ∨ 7 ≤ i) : begC c w h i = c i := by
  unfold begC
  split
  · rw [inc_no _ (by omega)]
  · rw [inc_no _ (by omega), inc_no _ (by omega)]
theorem begC_5 (c : Nat → Int32) {w : Nat} (h : Int32) {i : Nat} (hi : i < 6) : begC c w h i = inc c (1 + w) i := by
  unfold begC
  split
  · rfl
  · rw [inc_no _ (by omega)]
theorem begC_6 (c : Nat → Int32) {w : Nat} (h : Int32) (hw : w < 5) : begC c w h 6 = if h = 0 then c 6 else c 6 + 1 := by
  unfold begC
  split
  · rw [inc_no _ (by omega)]
  · rw [inc_at, inc_no _ (by omega)]
theorem begC_b (c : Nat → Int32) {T : Int32} (hT : 0 ≤ T ∧ T ≤ 20000) {w : Nat} (h : Int32) (hw : w < 5) (hC : CntOK c T) : CntB (begC c w h) T := by
  obtain ⟨h1, h2, h3⟩ := hC
  refine ⟨fun i hi => ?_, fun i hi q => ?_, ?_, ?_⟩
  · have u := i32_u hT (h1 i hi).1 (h1 i hi).2
    have v := i32_t hT (h1 i hi).2
    by_cases q : i = 0 ∨ 7 ≤ i
    · rw [begC_no c h hw q]
      exact ⟨(h1 i hi).1, v⟩
    · by_cases q6 : i = 6
      · subst q6
        rw [begC_6 c h hw]
        split
        · exact ⟨(h1 6 hi).1, v⟩
        · exact ⟨u.1, u.2.1⟩
      · rw [begC_5 c h (by omega)]
        by_cases qw : i = 1 + w
        · subst qw
          rw [inc_at]
          exact ⟨u.1, u.2.1⟩
        · rw [inc_no _ qw]
          exact ⟨(h1 i hi).1, v⟩
  · rw [begC_no c h hw q]
    exact (h1 i hi).2
  · rw [begC_no c h hw (i := 7) (by omega), begC_no c h hw (i := 8) (by omega), begC_no c h hw (i := 9) (by omega), begC_no c h hw (i := 10) (by omega), begC_no c h hw (i := 11) (by omega), begC_no c h hw (i := 0) (by omega)]
    exact h2
  · rw [begC_no c h hw (i := 12) (by omega), begC_no c h hw (i := 0) (by omega)]
    exact h3
theorem beg_f (S : St) (a w : Nat) (n h : Int32) : v4_maps (begS S a w n h) = v4_maps S ∧ v4_log (begS S a w n h) = addL (v4_log S) a (v4_counts S 0) (v4_gear S) n (nI w) h ∧ v4_counts (begS S a w n h) = begC (v4_counts S) w h ∧ v4_settings (begS S a w n h) = v4_settings S ∧ v4_gear (begS S a w n h) = v4_gear S ∧ v4_target (begS S a w n h) = n ∧ v4_done (begS S a w n h) = 0 ∧ v4_held (begS S a w n h) = (if h = 0 then v4_held S else v4_settings S 3) ∧ v4_handMode (begS S a w n h) = v4_handMode S := by
  unfold begS begC
  by_cases q : h = 0
  · rw [if_pos q, if_pos q, if_pos q]
    exact ⟨rfl, rfl, rfl, rfl, rfl, rfl, rfl, rfl, rfl⟩
  · rw [if_neg q, if_neg q, if_neg q]
    exact ⟨rfl, rfl, rfl, rfl, rfl, rfl, rfl, rfl, rfl⟩
theorem beg_ok {T : Int32} {S : St} (hT : 0 ≤ T ∧ T ≤ 20000) (hI : NowOK T S) (ht : v4_target S = 0) {a w : Nat} (ha : a < 10) (hn : v2_next (v4_log S) = nI a) (hw : w < 5) {n : Int32} (hd : n = v4_gear S + 1 ∨ n = v4_gear S - 1 ∨ n = v4_gear S - 2) (hn1 : 1 ≤ n) (hn5 : n ≤ 5) (hf : fits (nI w) (n - v4_gear S)) : NowB T (begS S a w n (mf_X4_swings S (nI w))) := by
  obtain ⟨⟨hg, -, hs0, hl, h2, h3, hh, hm, hv⟩, hC, hL, hz⟩ := hI
  obtain ⟨h, eh⟩ : ∃ h, mf_X4_swings S (nI w) = h := ⟨_, rfl⟩
  have hh1 : h = 1 → nI w ≤ 1 := fun q => sw_le hw (eh.trans q)
  rw [eh]
  obtain ⟨f1, f2, f3, f4, f5, f6, f7, f8, f9⟩ := beg_f S a w n h
  have eL : LastG S = v4_gear S := if_pos ht
  have hn0 : ¬ n = 0 := fun q => absurd hn1 (by rw [q]; decide)
  have e0 : begC (v4_counts S) w h 0 = v4_counts S 0 := begC_no _ h hw (Or.inl rfl)
  unfold NowB StOK LastG
  rw [f1, f2, f3, f4, f5, f6, f7, f8, f9, if_neg hn0, e0]
  refine ⟨⟨hg, Or.inr ⟨hd, hn1, hn5, by decide, Int32.lt_of_lt_of_le (by decide) hs0.1⟩, hs0, hl, h2, h3, ?_, hm, hv⟩, begC_b _ hT h hw hC, ?_, ?_⟩
  · by_cases q : h = 0
    · rw [if_pos q]
      exact hh
    · rw [if_neg q]
      exact ⟨Int32.le_trans (by decide) h3.1, h3.2⟩
  · rw [eL] at hL
    exact LogOK_add hL (hC.1 0 (by omega)).1 hf hh1 ha hn
  · have sm : v4_counts S 1 + v4_counts S 2 + v4_counts S 3 + v4_counts S 4 + v4_counts S 5 ≠ 2147483647 := sum_small hT (hC.1 1 (by omega)) (hC.1 2 (by omega)) (hC.1 3 (by omega)) (hC.1 4 (by omega)) (hC.1 5 (by omega))
    rw [begC_5 _ h (i := 1) (by omega), begC_5 _ h (i := 2) (by omega), begC_5 _ h (i := 3) (by omega), begC_5 _ h (i := 4) (by omega), begC_5 _ h (i := 5) (by omega), inc_sum _ hw]
    rcases sz_step hL.2.1 hz with q | q
    · exact q
    · exact absurd q sm
