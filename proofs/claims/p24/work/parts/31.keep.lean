/-! a tick keeps what holds -/
theorem inc_at (c : Nat → Int32) (k : Nat) : inc c k k = c k + 1 := by
  unfold inc upd
  exact if_pos rfl
theorem inc_no (c : Nat → Int32) {k i : Nat} (h : i ≠ k) : inc c k i = c i := by
  unfold inc upd
  exact if_neg h
theorem go_eq1 (S : St) (h : v4_target S = 0) : goS S = S := if_pos h
theorem go_eq2 (S : St) (h : ¬ v4_target S = 0) (h2 : v4_done S + 1 < v4_settings S 0) : goS S = u4_done S (v4_done S + 1) := (if_neg h).trans (if_pos h2)
theorem go_eq3 (S : St) (h : ¬ v4_target S = 0) (h2 : ¬ v4_done S + 1 < v4_settings S 0) : goS S = u4_target (u4_gear (u4_done S (v4_done S + 1)) (v4_target S)) 0 := (if_neg h).trans (if_neg h2)
theorem i32_d {d n : Int32} (h0 : 0 ≤ d) (h1 : d < n) (h2 : d + 1 < n) : 0 ≤ d + 1 := by grind
theorem go_ok {T : Int32} {S : St} (hI : NowOK T S) : NowOK T (goS S) := by
  obtain ⟨⟨hg, ht, hn, hl, h2, h3, hh, hm, hv⟩, hC, hL, hz⟩ := hI
  by_cases h : v4_target S = 0
  · rw [go_eq1 S h]
    exact ⟨⟨hg, ht, hn, hl, h2, h3, hh, hm, hv⟩, hC, hL, hz⟩
  · rcases ht with ht | ⟨ht, h1, h5, hd0, hd1⟩
    · exact absurd ht h
    by_cases q : v4_done S + 1 < v4_settings S 0
    · rw [go_eq2 S h q]
      exact ⟨⟨hg, Or.inr ⟨ht, h1, h5, i32_d hd0 hd1 q, q⟩, hn, hl, h2, h3, hh, hm, hv⟩, hC, hL, hz⟩
    · rw [go_eq3 S h q]
      refine ⟨⟨⟨h1, h5⟩, Or.inl rfl, hn, hl, h2, h3, hh, hm, hv⟩, hC, ?_, hz⟩
      have e : LastG S = v4_target S := if_neg h
      rw [e] at hL
      exact hL
theorem go_f (S : St) : v4_maps (goS S) = v4_maps S ∧ v4_log (goS S) = v4_log S ∧ v4_counts (goS S) = v4_counts S ∧ v4_settings (goS S) = v4_settings S ∧ v4_held (goS S) = v4_held S ∧ v4_handMode (goS S) = v4_handMode S := by
  unfold goS
  split
  · exact ⟨rfl, rfl, rfl, rfl, rfl, rfl⟩
  · split <;> exact ⟨rfl, rfl, rfl, rfl, rfl, rfl⟩
theorem dec_f (S : St) : v4_maps (decS S) = v4_maps S ∧ v4_log (decS S) = v4_log S ∧ v4_counts (decS S) = v4_counts S ∧ v4_settings (decS S) = v4_settings S ∧ v4_gear (decS S) = v4_gear S ∧ v4_target (decS S) = v4_target S ∧ v4_done (decS S) = v4_done S ∧ v4_handMode (decS S) = v4_handMode S := by
  unfold decS
  split <;> exact ⟨rfl, rfl, rfl, rfl, rfl, rfl, rfl, rfl⟩
theorem dec_h (S : St) : v4_held (decS S) = if v4_held S ≤ 0 then v4_held S else v4_held S - 1 := by
  unfold decS
  split <;> rfl
theorem i32_h {h : Int32} (h0 : 0 ≤ h ∧ h ≤ 100) (q : ¬ h ≤ 0) : 0 ≤ h - 1 ∧ h - 1 ≤ 100 := by constructor <;> grind
theorem dec_ok {T : Int32} {S : St} (hI : NowOK T S) : NowOK T (decS S) := by
  obtain ⟨⟨hg, ht, hn, hl, h2, h3, hh, hm, hv⟩, hC, hL, hz⟩ := hI
  unfold decS
  by_cases h : v4_held S ≤ 0
  · rw [if_pos h]
    exact ⟨⟨hg, ht, hn, hl, h2, h3, hh, hm, hv⟩, hC, hL, hz⟩
  · rw [if_neg h]
    exact ⟨⟨hg, ht, hn, hl, h2, h3, i32_h hh h, hm, hv⟩, hC, hL, hz⟩
/-- the counts while a tick goes on -/
def CntB (c : Nat → Int32) (T : Int32) : Prop := (∀ i, i < 13 → 0 ≤ c i ∧ c i ≤ T + 1) ∧ (∀ i, i < 13 → (i = 0 ∨ 7 ≤ i) → c i ≤ T) ∧ c 7 + c 8 + c 9 + c 10 + c 11 = c 0 ∧ c 12 ≤ c 0
def NowB (T : Int32) (S : St) : Prop := StOK S ∧ CntB (v4_counts S) T ∧ LogOK (v4_log S) (v4_counts S 0) (LastG S) ∧ SzOK (v2_size (v4_log S)) (v4_counts S 1 + v4_counts S 2 + v4_counts S 3 + v4_counts S 4 + v4_counts S 5)
theorem i32_t {x T : Int32} (hT : 0 ≤ T ∧ T ≤ 20000) (h : x ≤ T) : x ≤ T + 1 := by grind
theorem i32_u {x T : Int32} (hT : 0 ≤ T ∧ T ≤ 20000) (h0 : 0 ≤ x) (h : x ≤ T) : 0 ≤ x + 1 ∧ x + 1 ≤ T + 1 ∧ x ≤ x + 1 := by refine ⟨?_, ?_, ?_⟩ <;> grind
theorem now_b {T : Int32} {S : St} (hT : 0 ≤ T ∧ T ≤ 20000) (hI : NowOK T S) : NowB T S := by
  obtain ⟨hS, ⟨h1, h2, h3⟩, hL, hz⟩ := hI
  exact ⟨hS, ⟨fun i hi => ⟨(h1 i hi).1, i32_t hT (h1 i hi).2⟩, fun i hi _ => (h1 i hi).2, h2, h3⟩, hL, hz⟩
theorem b_now {T : Int32} {S : St} (hI : NowB T S) : NowOK (T + 1) S := by
  obtain ⟨hS, ⟨h1, -, h2, h3⟩, hL, hz⟩ := hI
  exact ⟨hS, ⟨h1, h2, h3⟩, hL, hz⟩
theorem cb_tk {c : Nat → Int32} {T : Int32} (hT : 0 ≤ T ∧ T ≤ 20000) (hC : CntB c T) {g : Nat} (h1 : 1 ≤ g) (h5 : g ≤ 5) : CntOK (inc (inc c 0) (6 + g)) (T + 1) ∧ CntOK (inc (inc (inc c 0) (6 + g)) 12) (T + 1) ∧ c 0 ≤ inc (inc c 0) (6 + g) 0 := by
  obtain ⟨ha, hb, hs, h12⟩ := hC
  have b0 := hb 0 (by omega) (Or.inl rfl)
  have b12 := hb 12 (by omega) (Or.inr (by omega))
  have a0 := (ha 0 (by omega)).1
  have a12 := (ha 12 (by omega)).1
  have e0 : inc (inc c 0) (6 + g) 0 = c 0 + 1 := by rw [inc_no _ (by omega), inc_at]
  have e12 : inc (inc c 0) (6 + g) 12 = c 12 := by rw [inc_no _ (by omega), inc_no _ (by omega)]
  have eb : ∀ i, i < 13 → 0 ≤ inc (inc c 0) (6 + g) i ∧ inc (inc c 0) (6 + g) i ≤ T + 1 := by
    intro i hi
    by_cases q : i = 6 + g
    · subst q
      rw [inc_at, inc_no _ (by omega)]
      have := i32_u hT (ha _ hi).1 (hb _ hi (Or.inr (by omega)))
      exact ⟨this.1, this.2.1⟩
    · rw [inc_no _ q]
      by_cases q0 : i = 0
      · subst q0
        rw [inc_at]
        have := i32_u hT a0 b0
        exact ⟨this.1, this.2.1⟩
      · rw [inc_no _ q0]
        exact ha i hi
  have es : inc (inc c 0) (6 + g) 7 + inc (inc c 0) (6 + g) 8 + inc (inc c 0) (6 + g) 9 + inc (inc c 0) (6 + g) 10 + inc (inc c 0) (6 + g) 11 = c 0 + 1 := by
    have r : ∀ i, 7 ≤ i → i ≠ 6 + g → inc (inc c 0) (6 + g) i = c i := fun i hi q => by rw [inc_no _ q, inc_no _ (by omega)]
    have r1 : inc (inc c 0) (6 + g) (6 + g) = c (6 + g) + 1 := by rw [inc_at, inc_no _ (by omega)]
    rw [← hs]
    obtain rfl | rfl | rfl | rfl | rfl : g = 1 ∨ g = 2 ∨ g = 3 ∨ g = 4 ∨ g = 5 := by omega
    · rw [r1, r 8 (by omega) (by omega), r 9 (by omega) (by omega), r 10 (by omega) (by omega), r 11 (by omega) (by omega)]; grind
    · rw [r1, r 7 (by omega) (by omega), r 9 (by omega) (by omega), r 10 (by omega) (by omega), r 11 (by omega) (by omega)]; grind
    · rw [r1, r 8 (by omega) (by omega), r 7 (by omega) (by omega), r 10 (by omega) (by omega), r 11 (by omega) (by omega)]; grind
    · rw [r1, r 8 (by omega) (by omega), r 9 (by omega) (by omega), r 7 (by omega) (by omega), r 11 (by omega) (by omega)]; grind
    · rw [r1, r 8 (by omega) (by omega), r 9 (by omega) (by omega), r 10 (by omega) (by omega), r 7 (by omega) (by omega)]; grind
  have u0 := i32_u hT a0 b0
  refine ⟨⟨eb, by rw [es, e0], by rw [e12, e0]; exact Int32.le_trans h12 u0.2.2⟩, ⟨fun i hi => ?_, ?_, ?_⟩, by rw [e0]; exact u0.2.2⟩
  · by_cases q : i = 12
    · subst q
      rw [inc_at, e12]
      have := i32_u hT a12 b12
      exact ⟨this.1, this.2.1⟩
    · rw [inc_no _ q]
      exact eb i hi
  · rw [inc_no _ (show 7 ≠ 12 by omega), inc_no _ (show 8 ≠ 12 by omega), inc_no _ (show 9 ≠ 12 by omega), inc_no _ (show 10 ≠ 12 by omega), inc_no _ (show 11 ≠ 12 by omega), inc_no _ (show 0 ≠ 12 by omega), es, e0]
  · rw [inc_at, inc_no _ (show 0 ≠ 12 by omega), e12, e0]
    clear eb es e0 e12 u0
    grind
theorem gear_nat {S : St} (h : 1 ≤ v4_gear S ∧ v4_gear S ≤ 5) : ∃ g : Nat, v4_gear S = nI g ∧ 1 ≤ g ∧ g ≤ 5 := by
  rcases i32_15 h with e | e | e | e | e
  · exact ⟨1, e.trans (by decide), by omega, by omega⟩
  · exact ⟨2, e.trans (by decide), by omega, by omega⟩
  · exact ⟨3, e.trans (by decide), by omega, by omega⟩
  · exact ⟨4, e.trans (by decide), by omega, by omega⟩
  · exact ⟨5, e.trans (by decide), by omega, by omega⟩
/-- what a tick counts -/
def tkC (S : St) (g : Nat) : Nat → Int32 := if v4_target S = 0 then inc (inc (v4_counts S) 0) (6 + g) else inc (inc (inc (v4_counts S) 0) (6 + g)) 12
theorem tk_eq (S : St) (sp pe : UInt32) {g : Nat} (hg : v4_gear S = nI g) (h1 : 1 ≤ g) (h5 : g ≤ 5) : tkS S sp pe = u4_counts (u4_latestPedal (u4_latestSpeed S sp) pe) (tkC S g) := by
  unfold tkS tkC
  rw [ct_eq (u4_latestPedal (u4_latestSpeed S sp) pe) (g := g) hg h1 h5]
  by_cases h : v4_target S = 0
  · rw [if_pos h]
    exact if_pos h
  · rw [if_neg h]
    exact if_neg h
theorem tkC_0 (S : St) {g : Nat} (h1 : 1 ≤ g) (h5 : g ≤ 5) : tkC S g 0 = v4_counts S 0 + 1 := by
  unfold tkC
  split
  · rw [inc_no _ (by omega), inc_at]
  · rw [inc_no _ (by omega), inc_no _ (by omega), inc_at]
theorem tkC_16 (S : St) {g : Nat} (h1 : 1 ≤ g) (h5 : g ≤ 5) {i : Nat} (hi : 1 ≤ i) (hi6 : i ≤ 6) : tkC S g i = v4_counts S i := by
  unfold tkC
  split
  · rw [inc_no _ (by omega), inc_no _ (by omega)]
  · rw [inc_no _ (by omega), inc_no _ (by omega), inc_no _ (by omega)]
theorem tk_ok {T : Int32} {S : St} (sp pe : UInt32) (hT : 0 ≤ T ∧ T ≤ 20000) (hI : NowB T S) : NowOK (T + 1) (tkS S sp pe) := by
  obtain ⟨hS, hC, hL, hz⟩ := hI
  obtain ⟨g, hg, h1, h5⟩ := gear_nat hS.1
  obtain ⟨c1, c2, c3⟩ := cb_tk hT hC h1 h5
  have e0 := tkC_0 S h1 h5
  have e : ∀ i, 1 ≤ i → i ≤ 6 → tkC S g i = v4_counts S i := fun i hi hi6 => tkC_16 S h1 h5 hi hi6
  have cc : CntOK (tkC S g) (T + 1) := by
    unfold tkC
    split
    · exact c1
    · exact c2
  have c0 : v4_counts S 0 ≤ tkC S g 0 := by
    rw [e0, ← inc_at, ← inc_no (inc (v4_counts S) 0) (show 0 ≠ 6 + g by omega)]
    exact c3
  rw [tk_eq S sp pe hg h1 h5]
  refine ⟨hS, cc, ?_, ?_⟩
  · exact LogOK_mono hL c0
  · show SzOK (v2_size (v4_log S)) (tkC S g 1 + tkC S g 2 + tkC S g 3 + tkC S g 4 + tkC S g 5)
    rw [e 1 (by omega) (by omega), e 2 (by omega) (by omega), e 3 (by omega) (by omega), e 4 (by omega) (by omega), e 5 (by omega) (by omega)]
    exact hz
