/-! a tick, as a whole -/
theorem kd_congr (fu : Nat) (S R : St) (sp : UInt32) (hg : v4_gear R = v4_gear S) (hm : v4_maps R = v4_maps S) : ∀ z, mf_X4_kickdownGear_B11 fu R sp z = mf_X4_kickdownGear_B11 fu S sp z := by
  induction fu with
  | zero => intro z; rfl
  | succ fu ih =>
    intro z
    rw [mf_X4_kickdownGear_B11, mf_X4_kickdownGear_B11, hg, hm, ih]
theorem kd_dec (S : St) (sp : UInt32) : mf_X4_kickdownGear (decS S) sp = mf_X4_kickdownGear S sp := by
  obtain ⟨d1, d2, d3, d4, d5, d6, d7, d8⟩ := dec_f S
  unfold mf_X4_kickdownGear
  rw [d5]
  exact kd_congr _ _ _ _ d5 d1 _
/-- the gear that a change goes to -/
def Cho (m : Nat → UInt32) (sp : UInt32) (g : Int32) (w : Nat) (n : Int32) : Prop := (w = 4 ∧ n = g + 1 ∧ ¬ 5 ≤ g) ∨ (w = 2 ∧ kdG m sp g n) ∨ (w = 0 ∧ n = g + 1 ∧ ¬ 5 ≤ g) ∨ (w = 1 ∧ n = g - 1 ∧ ¬ g ≤ 1)
theorem i32_up {g n : Int32} (h : 1 ≤ g ∧ g ≤ 5) (q : ¬ 5 ≤ g) (e : n = g + 1) : (1 ≤ n ∧ n ≤ 5) ∧ n - g = 1 := by refine ⟨⟨?_, ?_⟩, ?_⟩ <;> grind
theorem i32_dn {g n : Int32} (h : 1 ≤ g ∧ g ≤ 5) (q : ¬ g ≤ 1) (e : n = g - 1) : (1 ≤ n ∧ n ≤ 5) ∧ n - g = -1 := by refine ⟨⟨?_, ?_⟩, ?_⟩ <;> grind
theorem i32_kd {g n : Int32} (h : 1 ≤ g ∧ g ≤ 5) (h1 : 1 ≤ n) (h2 : g - 2 ≤ n) (h3 : n < g) : n ≤ 5 ∧ ((n - g = -1 ∧ n = g - 1) ∨ (n - g = -2 ∧ n = g - 2)) := by
  refine ⟨by grind, ?_⟩
  by_cases q : n = g - 1
  · left; exact ⟨by grind, q⟩
  · right; exact ⟨by grind, by grind⟩
theorem cho_ok {m : Nat → UInt32} {sp : UInt32} {g : Int32} {w : Nat} {n : Int32} (hg : 1 ≤ g ∧ g ≤ 5) (h : Cho m sp g w n) : w < 5 ∧ (n = g + 1 ∨ n = g - 1 ∨ n = g - 2) ∧ 1 ≤ n ∧ n ≤ 5 ∧ fits (nI w) (n - g) := by
  rcases h with ⟨rfl, e, q⟩ | ⟨rfl, k0, k1, k2, k3, -⟩ | ⟨rfl, e, q⟩ | ⟨rfl, e, q⟩
  · obtain ⟨⟨a, b⟩, c⟩ := i32_up hg q e
    exact ⟨by omega, Or.inl e, a, b, by rw [c]; exact Or.inr (Or.inr (Or.inr (Or.inr ⟨by decide, rfl⟩)))⟩
  · obtain ⟨a, ⟨b, c⟩ | ⟨b, c⟩⟩ := i32_kd hg k1 k2 k3
    · exact ⟨by omega, Or.inr (Or.inl c), k1, a, by rw [b]; exact Or.inl ⟨by decide, Or.inl rfl⟩⟩
    · exact ⟨by omega, Or.inr (Or.inr c), k1, a, by rw [b]; exact Or.inl ⟨by decide, Or.inr rfl⟩⟩
  · obtain ⟨⟨a, b⟩, c⟩ := i32_up hg q e
    exact ⟨by omega, Or.inl e, a, b, by rw [c]; exact Or.inr (Or.inr (Or.inr (Or.inl ⟨by decide, rfl⟩)))⟩
  · obtain ⟨⟨a, b⟩, c⟩ := i32_dn hg q e
    exact ⟨by omega, Or.inr (Or.inl e), a, b, by rw [c]; exact Or.inr (Or.inr (Or.inl ⟨by decide, rfl⟩))⟩
theorem log_nat {L : LgV} {t l : Int32} (h : LogOK L t l) : ∃ a : Nat, a < 10 ∧ v2_next L = nI a := by
  have q : v2_next L ≤ 9 := by
    have := h.1.2
    clear h
    grind
  obtain ⟨a, ha, e⟩ := i32_nat (N := 9) (m := 9) (by decide) (by decide) h.1.1 q
  exact ⟨a, by omega, e⟩
/-- a tick while a change goes on; a tick that begins none; a tick that begins one -/
def TkA (S : St) (sp pe : UInt32) (b : Int32) (N : St) : Prop := ¬ v4_target (goS S) = 0 ∧ b = 0 ∧ N = tkS (decS (goS S)) sp pe
def TkB (S : St) (sp pe : UInt32) (b : Int32) (N : St) : Prop := v4_target (goS S) = 0 ∧ b = 0 ∧ Rea (goS S) sp pe (-1) ∧ N = tkS (decS (goS S)) sp pe
def TkC (S : St) (sp pe : UInt32) (b : Int32) (N : St) : Prop := v4_target (goS S) = 0 ∧ b = 1 ∧ ∃ (a w : Nat) (n : Int32), a < 10 ∧ v2_next (v4_log S) = nI a ∧ Rea (goS S) sp pe (nI w) ∧ Cho (v4_maps S) sp (v4_gear (goS S)) w n ∧ N = tkS (begS (decS (goS S)) a w n (mf_X4_swings (decS (goS S)) (nI w))) sp pe
theorem tick_c {T : Int32} {S : St} {sp pe : UInt32} (hT : 0 ≤ T ∧ T ≤ 20000) (hI : NowOK T S) (h0 : v4_target (goS S) = 0) {w : Nat} {n : Int32} (hr : Rea (goS S) sp pe (nI w)) (hw : w < 5) (hg : mf_X4_gearChosenBy (decS (goS S)) (nI w) sp = some n) (hc : Cho (v4_maps S) sp (v4_gear (goS S)) w n) : ∃ N, resS (goS S) sp pe (nI w) = some (1, N) ∧ NowOK (T + 1) N ∧ TkC S sp pe 1 N := by
  obtain ⟨a, ha, ea⟩ := log_nat hI.2.2.1
  have hG := go_ok hI
  have hD := dec_ok hG
  obtain ⟨g1, g2, g3, g4, g5, g6⟩ := go_f S
  obtain ⟨d1, d2, d3, d4, d5, d6, d7, d8⟩ := dec_f (goS S)
  have en : v2_next (v4_log (decS (goS S))) = nI a := by rw [d2, g2]; exact ea
  have hn1 : ¬ nI w = -1 := fun q => by
    have := nI_pos (show w < 2147483648 by omega)
    rw [q] at this
    exact this (by decide)
  obtain ⟨-, c2, c3, c4, c5⟩ := cho_ok hG.1.1 hc
  refine ⟨tkS (begS (decS (goS S)) a w n (mf_X4_swings (decS (goS S)) (nI w))) sp pe, ?_, ?_, h0, rfl, a, w, n, ha, ea, hr, hc, rfl⟩
  · unfold resS
    rw [if_neg hn1, hg, Option.bind_some, beg_eq _ ha en hw, Option.bind_some]
  · exact tk_ok sp pe hT (beg_ok hT hD (d6.trans h0) ha en hw (by rw [d5]; exact c2) c3 c4 (by rw [d5]; exact c5))
theorem tick_main {T : Int32} {S : St} {sp pe : UInt32} (hT : 0 ≤ T ∧ T ≤ 20000) (hI : NowOK T S) (hp : pe ∈ FPd) : ∃ b N, mf_X4_passTick S sp pe = some (b, N) ∧ NowOK (T + 1) N ∧ (TkA S sp pe b N ∨ TkB S sp pe b N ∨ TkC S sp pe b N) := by
  have hG := go_ok hI
  have hD := dec_ok hG
  have kk : NowOK (T + 1) (tkS (decS (goS S)) sp pe) := tk_ok sp pe hT (now_b hT hD)
  obtain ⟨g1, g2, g3, g4, g5, g6⟩ := go_f S
  rw [pass_eq]
  by_cases h0 : v4_target (goS S) = 0
  · rw [if_pos h0]
    obtain ⟨r, er, hr⟩ := rea_eq (goS S) sp hG.1.2.2.2.2.2.2.2.2 hp hG.1.1
    rw [er, Option.bind_some]
    have fin : ∀ (w : Nat) (n : Int32), w < 5 → r = nI w → mf_X4_gearChosenBy (decS (goS S)) (nI w) sp = some n → Cho (v4_maps S) sp (v4_gear (goS S)) w n → ∃ b N, resS (goS S) sp pe r = some (b, N) ∧ NowOK (T + 1) N ∧ (TkA S sp pe b N ∨ TkB S sp pe b N ∨ TkC S sp pe b N) := by
      intro w n hw e hg hc
      subst e
      obtain ⟨N, e1, e2, e3⟩ := tick_c hT hI h0 hr hw hg hc
      exact ⟨1, N, e1, e2, Or.inr (Or.inr e3)⟩
    have eg : v4_gear (decS (goS S)) = v4_gear (goS S) := (dec_f (goS S)).2.2.2.2.1
    rcases hr with ⟨e, q⟩ | ⟨e, -, -, k, ek, hk⟩ | ⟨e, -, -, q⟩ | ⟨e, -, -, -, q⟩ | ⟨e, q⟩
    · refine fin 4 (v4_gear (goS S) + 1) (by omega) (e.trans (by decide)) ?_ (Or.inl ⟨rfl, rfl, q.1⟩)
      rw [← eg]
      rfl
    · refine fin 2 k (by omega) (e.trans (by decide)) ?_ (Or.inr (Or.inl ⟨rfl, by rw [← g1]; exact hk⟩))
      unfold mf_X4_gearChosenBy
      rw [kd_dec, ek]
      rfl
    · refine fin 0 (v4_gear (goS S) + 1) (by omega) (e.trans (by decide)) ?_ (Or.inr (Or.inr (Or.inl ⟨rfl, rfl, q.1⟩)))
      rw [← eg]
      rfl
    · refine fin 1 (v4_gear (goS S) - 1) (by omega) (e.trans (by decide)) ?_ (Or.inr (Or.inr (Or.inr ⟨rfl, rfl, q.1⟩)))
      rw [← eg]
      rfl
    · refine ⟨0, tkS (decS (goS S)) sp pe, ?_, kk, Or.inr (Or.inl ⟨h0, rfl, ?_, rfl⟩)⟩
      · unfold resS
        exact if_pos e
      · exact Or.inr (Or.inr (Or.inr (Or.inr ⟨rfl, q⟩)))
  · rw [if_neg h0]
    exact ⟨0, _, rfl, kk, Or.inl ⟨h0, rfl, rfl⟩⟩
