/-! ticks, one after another -/
theorem tk_f {X : St} (sp pe : UInt32) (hg : 1 ≤ v4_gear X ∧ v4_gear X ≤ 5) : v4_maps (tkS X sp pe) = v4_maps X ∧ v4_log (tkS X sp pe) = v4_log X ∧ v4_settings (tkS X sp pe) = v4_settings X ∧ v4_gear (tkS X sp pe) = v4_gear X ∧ v4_target (tkS X sp pe) = v4_target X ∧ v4_done (tkS X sp pe) = v4_done X ∧ v4_held (tkS X sp pe) = v4_held X ∧ v4_handMode (tkS X sp pe) = v4_handMode X ∧ v4_counts (tkS X sp pe) 0 = v4_counts X 0 + 1 ∧ ∀ i, 1 ≤ i → i ≤ 6 → v4_counts (tkS X sp pe) i = v4_counts X i := by
  obtain ⟨g, eg, h1, h5⟩ := gear_nat hg
  rw [tk_eq X sp pe eg h1 h5]
  exact ⟨rfl, rfl, rfl, rfl, rfl, rfl, rfl, rfl, tkC_0 X h1 h5, fun i hi hi6 => tkC_16 X h1 h5 hi hi6⟩
def nx (sp pe : UInt32) (S : St) : Int32 × St := (mf_X4_passTick S sp pe).getD (0, S)
def itS (sp pe : UInt32) (S : St) : Nat → St
  | 0 => S
  | k + 1 => (nx sp pe (itS sp pe S k)).2
def itB (sp pe : UInt32) (S : St) (k : Nat) : Int32 := (nx sp pe (itS sp pe S k)).1
def itC (sp pe : UInt32) (S : St) : Nat → Nat
  | 0 => 0
  | k + 1 => itC sp pe S k + (if itB sp pe S k = 0 then 0 else 1)
theorem nI_T {t : Nat} (h : t ≤ 20000) : 0 ≤ nI t ∧ nI t ≤ 20000 := ⟨nI_pos' (by omega), nI_le (b := 20000) h (by omega)⟩
theorem nx_ok {t : Nat} {S : St} {sp pe : UInt32} (ht : t ≤ 20000) (hI : NowOK (nI t) S) (hp : pe ∈ FPd) : mf_X4_passTick S sp pe = some (nx sp pe S) ∧ NowOK (nI (t + 1)) (nx sp pe S).2 ∧ (TkA S sp pe (nx sp pe S).1 (nx sp pe S).2 ∨ TkB S sp pe (nx sp pe S).1 (nx sp pe S).2 ∨ TkC S sp pe (nx sp pe S).1 (nx sp pe S).2) := by
  obtain ⟨b, N, e, h1, h2⟩ := tick_main (sp := sp) (nI_T ht) hI hp
  have en : nx sp pe S = (b, N) := by
    unfold nx
    rw [e]
    rfl
  rw [en, ← nI_1]
  exact ⟨e, h1, h2⟩
theorem it_ok {t : Nat} {S : St} {sp pe : UInt32} (hI : NowOK (nI t) S) (hp : pe ∈ FPd) : ∀ k, t + k ≤ 20000 → NowOK (nI (t + k)) (itS sp pe S k) := by
  intro k
  induction k with
  | zero => intro _; exact hI
  | succ k ih =>
    intro h
    exact (nx_ok (t := t + k) (by omega) (ih (by omega)) hp).2.1
theorem itS_1 (sp pe : UInt32) (S : St) (k : Nat) : itS sp pe S (k + 1) = itS sp pe (itS sp pe S 1) k := by
  induction k with
  | zero => rfl
  | succ k ih =>
    show (nx sp pe (itS sp pe S (k + 1))).2 = (nx sp pe (itS sp pe (itS sp pe S 1) k)).2
    rw [ih]
theorem itS_add (sp pe : UInt32) (S : St) (a b : Nat) : itS sp pe S (a + b) = itS sp pe (itS sp pe S a) b := by
  induction b with
  | zero => rfl
  | succ b ih =>
    show (nx sp pe (itS sp pe S (a + b))).2 = (nx sp pe (itS sp pe (itS sp pe S a) b)).2
    rw [ih]
theorem itB_add (sp pe : UInt32) (S : St) (a b : Nat) : itB sp pe S (a + b) = itB sp pe (itS sp pe S a) b := by
  unfold itB
  rw [itS_add]
theorem itC_add (sp pe : UInt32) (S : St) (a b : Nat) : itC sp pe S (a + b) = itC sp pe S a + itC sp pe (itS sp pe S a) b := by
  induction b with
  | zero => rfl
  | succ b ih =>
    show itC sp pe S (a + b) + (if itB sp pe S (a + b) = 0 then 0 else 1) = itC sp pe S a + (itC sp pe (itS sp pe S a) b + (if itB sp pe (itS sp pe S a) b = 0 then 0 else 1))
    rw [ih, itB_add]
    omega
theorem ticks_lp {t n : Nat} {S : St} {sp pe : UInt32} (hI : NowOK (nI t) S) (hp : pe ∈ FPd) (hn : n < 1000) (ht : t + n ≤ 20000) : ∀ (r j fu : Nat), r < fu → j + r = n → mf_X4_passTicks_B6 fu (itS sp pe S j) sp pe (nI n) (nI (itC sp pe S j)) (nI j) = some (nI (itC sp pe S n), itS sp pe S n) := by
  intro r
  induction r with
  | zero =>
    intro j fu hf e
    have e2 : j = n := by omega
    subst e2
    obtain ⟨f, rfl⟩ : ∃ f, fu = f + 1 := ⟨fu - 1, by omega⟩
    rw [mf_X4_passTicks_B6, if_pos (Int32.le_refl _)]
  | succ r ih =>
    intro j fu hf e
    obtain ⟨f, rfl⟩ : ∃ f, fu = f + 1 := ⟨fu - 1, by omega⟩
    have hj := it_ok (sp := sp) hI hp j (by omega)
    have hx := (nx_ok (sp := sp) (by omega) hj hp).1
    rw [mf_X4_passTicks_B6, if_neg (nI_ge (by omega) (by omega)), hx, Option.bind_some]
    have key := ih (j + 1) f (by omega) (by omega)
    by_cases q : itB sp pe S j = 0
    · rw [if_pos (show (nx sp pe (itS sp pe S j)).1 = 0 from q)]
      have ec : itC sp pe S (j + 1) = itC sp pe S j := by
        show itC sp pe S j + (if itB sp pe S j = 0 then 0 else 1) = _
        rw [if_pos q]
        rfl
      rw [ec] at key
      unfold mf_X4_passTicks_B24
      rw [nI_1]
      exact key
    · rw [if_neg (show ¬ (nx sp pe (itS sp pe S j)).1 = 0 from q)]
      have ec : itC sp pe S (j + 1) = itC sp pe S j + 1 := by
        show itC sp pe S j + (if itB sp pe S j = 0 then 0 else 1) = _
        rw [if_neg q]
      rw [ec] at key
      unfold mf_X4_passTicks_B24
      rw [nI_1, nI_1]
      exact key
theorem ticks_eq {t n : Nat} {S : St} {sp pe : UInt32} (hI : NowOK (nI t) S) (hp : pe ∈ FPd) (hn : n < 200) (ht : t + n ≤ 20000) : mf_X4_passTicks S sp pe (nI n) = some (nI (itC sp pe S n), itS sp pe S n) := by
  have h := ticks_lp (sp := sp) hI hp (by omega) ht n 0 200 hn (by omega)
  have e0 : (nI (itC sp pe S 0)) = 0 := nI_0
  rw [e0, nI_0] at h
  exact h
theorem itC_le (sp pe : UInt32) (S : St) (n : Nat) : itC sp pe S n ≤ n := by
  induction n with
  | zero => exact Nat.le_refl _
  | succ n ih =>
    show itC sp pe S n + (if itB sp pe S n = 0 then 0 else 1) ≤ n + 1
    split <;> omega
/-- the changes that drives begin -/
def sum4 (c : Nat → Int32) : Int32 := c 1 + c 2 + c 3 + c 5
theorem nx_cnt {t : Nat} {S : St} {sp pe : UInt32} (ht : t ≤ 20000) (hI : NowOK (nI t) S) (hp : pe ∈ FPd) : v4_counts (nx sp pe S).2 0 = v4_counts S 0 + 1 ∧ sum4 (v4_counts (nx sp pe S).2) = sum4 (v4_counts S) + (if (nx sp pe S).1 = 0 then 0 else 1) := by
  obtain ⟨-, -, h⟩ := nx_ok (sp := sp) ht hI hp
  obtain ⟨b, N, e⟩ : ∃ b N, nx sp pe S = (b, N) := ⟨_, _, rfl⟩
  rw [e] at h ⊢
  have hG := go_ok hI
  obtain ⟨g1, g2, g3, g4, g5, g6⟩ := go_f S
  obtain ⟨d1, d2, d3, d4, d5, d6, d7, d8⟩ := dec_f (goS S)
  obtain ⟨t1, t2, t3, t4, t5, t6, t7, t8, t9, t10⟩ := tk_f (X := decS (goS S)) sp pe (by rw [d5]; exact hG.1.1)
  have same : v4_counts (tkS (decS (goS S)) sp pe) 0 = v4_counts S 0 + 1 ∧ sum4 (v4_counts (tkS (decS (goS S)) sp pe)) = sum4 (v4_counts S) := by
    refine ⟨by rw [t9, d3, g3], ?_⟩
    unfold sum4
    rw [t10 1 (by omega) (by omega), t10 2 (by omega) (by omega), t10 3 (by omega) (by omega), t10 5 (by omega) (by omega), d3, g3]
  rcases h with ⟨h0, hb, hN⟩ | ⟨h0, hb, hr, hN⟩ | ⟨h0, hb, a, w, n, ha, hn, hr, hc, hN⟩
  · rw [show (b, N).1 = 0 from hb, show (b, N).2 = _ from hN, if_pos rfl, same.1, same.2]
    exact ⟨rfl, (Int32.add_zero _).symm⟩
  · rw [show (b, N).1 = 0 from hb, show (b, N).2 = _ from hN, if_pos rfl, same.1, same.2]
    exact ⟨rfl, (Int32.add_zero _).symm⟩
  · rw [show (b, N).1 = 1 from hb, show (b, N).2 = _ from hN, if_neg (by decide)]
    obtain ⟨f1, f2, f3, f4, f5, f6, f7, f8, f9⟩ := beg_f (decS (goS S)) a w n (mf_X4_swings (decS (goS S)) (nI w))
    obtain ⟨u1, u2, u3, u4, u5, u6, u7, u8, u9, u10⟩ := tk_f (X := begS (decS (goS S)) a w n (mf_X4_swings (decS (goS S)) (nI w))) sp pe (by rw [f5, d5]; exact hG.1.1)
    have hw := (cho_ok hG.1.1 hc).1
    refine ⟨by rw [u9, f3, begC_no _ _ hw (Or.inl rfl), d3, g3], ?_⟩
    unfold sum4
    rw [u10 1 (by omega) (by omega), u10 2 (by omega) (by omega), u10 3 (by omega) (by omega), u10 5 (by omega) (by omega), f3, begC_5 _ _ (i := 1) (by omega), begC_5 _ _ (i := 2) (by omega), begC_5 _ _ (i := 3) (by omega), begC_5 _ _ (i := 5) (by omega), d3, g3]
    have r : ∀ i, i ≠ 1 + w → inc (v4_counts S) (1 + w) i = v4_counts S i := fun i q => inc_no _ q
    have r1 := inc_at (v4_counts S) (1 + w)
    rcases hc with ⟨rfl, -⟩ | ⟨rfl, -⟩ | ⟨rfl, -⟩ | ⟨rfl, -⟩
    · rw [r1, r 1 (by omega), r 2 (by omega), r 3 (by omega)]; grind
    · rw [r1, r 1 (by omega), r 2 (by omega), r 5 (by omega)]; grind
    · rw [r1, r 2 (by omega), r 3 (by omega), r 5 (by omega)]; grind
    · rw [r1, r 1 (by omega), r 3 (by omega), r 5 (by omega)]; grind
theorem it_cnt {t : Nat} {S : St} {sp pe : UInt32} (hI : NowOK (nI t) S) (hp : pe ∈ FPd) : ∀ k, t + k ≤ 20000 → v4_counts (itS sp pe S k) 0 = v4_counts S 0 + nI k ∧ sum4 (v4_counts (itS sp pe S k)) = sum4 (v4_counts S) + nI (itC sp pe S k) := by
  intro k
  induction k with
  | zero => intro _; exact ⟨(Int32.add_zero _).symm, (Int32.add_zero _).symm⟩
  | succ k ih =>
    intro h
    obtain ⟨i1, i2⟩ := ih (by omega)
    obtain ⟨n1, n2⟩ := nx_cnt (sp := sp) (t := t + k) (by omega) (it_ok hI hp k (by omega)) hp
    refine ⟨?_, ?_⟩
    · show v4_counts (nx sp pe (itS sp pe S k)).2 0 = _
      rw [n1, i1, ← nI_1]
      grind
    · show sum4 (v4_counts (nx sp pe (itS sp pe S k)).2) = sum4 (v4_counts S) + nI (itC sp pe S k + (if itB sp pe S k = 0 then 0 else 1))
      rw [n2, i2]
      by_cases q : itB sp pe S k = 0
      · rw [if_pos q, if_pos (show (nx sp pe (itS sp pe S k)).1 = 0 from q)]
        exact Int32.add_zero _
      · rw [if_neg q, if_neg (show ¬ (nx sp pe (itS sp pe S k)).1 = 0 from q), ← nI_1]
        grind
