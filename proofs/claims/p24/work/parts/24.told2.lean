/-! told, the log -/
def fits (why way : Int32) : Prop := (why = 2 ∧ (way = -1 ∨ way = -2)) ∨ (why = 3 ∧ (way = 1 ∨ way = -1)) ∨ (why = 1 ∧ way = -1) ∨ (why = 0 ∧ way = 1) ∨ (why = 4 ∧ way = 1)
/-- a row of the log is as told -/
def RowOK (L : LgV) (tick : Int32) (b : Int32) : Prop := fits (mf_X2_told L b 3) (mf_X2_told L b 2 - mf_X2_told L b 1) ∧ (mf_X2_told L b 4 = 1 → mf_X2_told L b 3 ≤ 1) ∧ 0 ≤ mf_X2_told L b 0 ∧ mf_X2_told L b 0 ≤ tick
def LogOK (L : LgV) (tick last : Int32) : Prop := (0 ≤ v2_next L ∧ v2_next L < 10) ∧ (0 ≤ v2_size L ∧ v2_size L ≤ 10) ∧ (∀ b : Nat, b < 10 → nI b < v2_size L → RowOK L tick (nI b)) ∧ (∀ b : Nat, b < 9 → nI (b + 1) < v2_size L → mf_X2_told L (nI (b + 1)) 2 = mf_X2_told L (nI b) 1 ∧ mf_X2_told L (nI (b + 1)) 0 ≤ mf_X2_told L (nI b) 0) ∧ (0 < v2_size L → mf_X2_told L 0 2 = last)
theorem i32_succ {a b : Int32} (h : a < b) : a + 1 ≤ b := by grind
theorem told_out (L : LgV) (x w : Int32) (h : v2_size L ≤ x) : mf_X2_told L x w = -5 := by
  unfold mf_X2_told
  by_cases h0 : x < 0
  · rw [if_pos h0]
  · rw [if_neg h0, if_pos h]
theorem b609 {rc : Int32 → Int32 → Int32 → Int32 → Option Int32} {V : CarV} {z1 z2 z9 z14 : Int32} {b : Nat} (hb : b < 10) (h4 : mf_X2_told (v4_log (v5_now V)) (nI b) 4 = 1 → z14 ≤ 1) (hrc : rc z1 z2 z9 (nI (b + 1)) = some 1) : mf_L_told_B609 rc V z1 z2 z9 (nI b) z14 1 1 = some 1 := by
  have e : mf_X5_change V (nI b) 4 = mf_X2_told (v4_log (v5_now V)) (nI b) 4 := chg V _ _ (nI_pos (by omega)) (by decide) (by decide)
  have h6 : mf_L_told_B640 rc V z1 z2 z9 (nI b) = some 1 := by
    unfold mf_L_told_B640
    rw [nI_1]
    exact hrc
  unfold mf_L_told_B609
  simp only [bnd, e]
  rw [if_neg (by decide), if_neg (by decide)]
  by_cases h : mf_X2_told (v4_log (v5_now V)) (nI b) 4 = 1
  · rw [if_pos h, if_pos (h4 h)]
    exact h6
  · rw [if_neg h]
    exact h6
theorem b540 {rc : Int32 → Int32 → Int32 → Int32 → Option Int32} {V : CarV} {z1 z2 z9 z13 z14 : Int32} {b : Nat} (hb : b < 10) (h4 : mf_X2_told (v4_log (v5_now V)) (nI b) 4 = 1 → z14 ≤ 1)
    (h0 : b = 0 → z13 = if z2 = -5 then z1 else z2) (h1 : ∀ c : Nat, b = c + 1 → z13 = mf_X2_told (v4_log (v5_now V)) (nI c) 1 ∧ mf_X2_told (v4_log (v5_now V)) (nI b) 0 ≤ mf_X2_told (v4_log (v5_now V)) (nI c) 0) (hrc : rc z1 z2 z9 (nI (b + 1)) = some 1) : mf_L_told_B540 rc V z1 z2 z9 (nI b) z13 z14 1 = some 1 := by
  have h9 := b609 (z9 := z9) (z14 := z14) (z1 := z1) (z2 := z2) hb h4 hrc
  unfold mf_L_told_B540
  cases b with
  | zero =>
    rw [if_pos nI_0]
    have e := h0 rfl
    by_cases h5 : z2 = -5
    · rw [if_pos h5] at e ⊢
      unfold mf_L_told_B560
      rw [if_pos e]
      exact h9
    · rw [if_neg h5] at e ⊢
      unfold mf_L_told_B560
      rw [if_pos e]
      exact h9
  | succ c =>
    obtain ⟨e1, e2⟩ := h1 c rfl
    rw [if_neg (nI_ne0 (by omega) (by omega))]
    have p : nI (c + 1) - 1 = nI c := nI_pred c
    have q1 : mf_X5_change V (nI c) 1 = mf_X2_told (v4_log (v5_now V)) (nI c) 1 := chg V _ _ (nI_pos (by omega)) (by decide) (by decide)
    have q2 : mf_X5_change V (nI c) 0 = mf_X2_told (v4_log (v5_now V)) (nI c) 0 := chg V _ _ (nI_pos (by omega)) (by decide) (by decide)
    have q3 : mf_X5_change V (nI (c + 1)) 0 = mf_X2_told (v4_log (v5_now V)) (nI (c + 1)) 0 := chg V _ _ (nI_pos (by omega)) (by decide) (by decide)
    simp only [bnd, p, q1, q2, q3]
    rw [if_pos e1, if_neg (Int32.not_lt.mpr e2)]
    exact h9
theorem nI_10 : nI 10 = 10 := by decide
theorem chg_m1 (V : CarV) : mf_X5_change V (-1) 0 = -2 := by
  unfold mf_X5_change
  exact if_pos (by decide)
theorem chg_05 (V : CarV) : mf_X5_change V 0 5 = -2 := by
  unfold mf_X5_change
  rw [if_neg (by decide), if_neg (by decide), if_neg (by decide)]
  rfl
theorem chg_o (V : CarV) (x : Int32) (h0 : 0 ≤ x) (h : v2_size (v4_log (v5_now V)) ≤ x) : mf_X5_change V x 0 = -5 := by
  rw [chg V x 0 (Int32.not_lt.mpr h0) (by decide) (by decide)]
  exact told_out _ _ _ h
theorem told_fin (V : CarV) (s : Int32) (h : mf_X5_change V s 0 = -5) : (bnd (mf_X5_change V s (0 : Int32)) (fun r_89 => (if r_89 = (-5 : Int32) then (bnd (mf_X5_change V (-1 : Int32) (0 : Int32)) (fun r_92 => (if r_92 = (-2 : Int32) then (bnd (mf_X5_change V (0 : Int32) (5 : Int32)) (fun r_95 => (if r_95 = (-2 : Int32) then some (1 : Int32) else some (0 : Int32)))) else some (0 : Int32)))) else some (0 : Int32)))) = some 1 := by
  unfold bnd
  rw [h, chg_m1, chg_05]
  exact (if_pos rfl).trans ((if_pos rfl).trans (if_pos rfl))
theorem told_end (V : CarV) (z1 z2 : Int32) (b : Nat) (fu : Nat) (h0 : 0 ≤ v2_size (v4_log (v5_now V))) (he : v2_size (v4_log (v5_now V)) ≤ nI b) : mf_L_told_B415 (fu + 1) V z1 z2 (v2_size (v4_log (v5_now V))) (nI b) = some 1 := by
  rw [mf_L_told_B415, if_pos he]
  exact told_fin V _ (chg_o V _ h0 (Int32.le_refl _))
theorem told_row {rc : Int32 → Int32 → Int32 → Int32 → Option Int32} (V : CarV) (z1 z2 z9 r1 r2 r3 : Int32) (b : Nat) (hfit : fits r3 (r2 - r1)) (h5 : mf_L_told_B540 rc V z1 z2 z9 (nI b) r2 r3 1 = some 1) :
    (if r3 = (2 : Int32) then (if (r2 - r1) = (-1 : Int32) then (mf_L_told_B475 rc V z1 z2 z9 (nI b) r2 r3) else (if (r2 - r1) = (-2 : Int32) then (mf_L_told_B475 rc V z1 z2 z9 (nI b) r2 r3) else (mf_L_told_B540 rc V z1 z2 z9 (nI b) r2 r3 (0 : Int32)))) else (if r3 = (3 : Int32) then (if (r2 - r1) = (1 : Int32) then (mf_L_told_B501 rc V z1 z2 z9 (nI b) r2 r3) else (if (r2 - r1) = (-1 : Int32) then (mf_L_told_B501 rc V z1 z2 z9 (nI b) r2 r3) else (mf_L_told_B540 rc V z1 z2 z9 (nI b) r2 r3 (0 : Int32)))) else (if r3 = (1 : Int32) then (if (r2 - r1) = (-1 : Int32) then (mf_L_told_B540 rc V z1 z2 z9 (nI b) r2 r3 (1 : Int32)) else (mf_L_told_B540 rc V z1 z2 z9 (nI b) r2 r3 (0 : Int32))) else (if (r2 - r1) = (1 : Int32) then (mf_L_told_B540 rc V z1 z2 z9 (nI b) r2 r3 (1 : Int32)) else (mf_L_told_B540 rc V z1 z2 z9 (nI b) r2 r3 (0 : Int32)))))) = some 1 := by
  unfold mf_L_told_B475 mf_L_told_B501
  obtain ⟨w, ew⟩ : ∃ w : Int32, w = r2 - r1 := ⟨_, rfl⟩
  rw [← ew] at hfit ⊢
  rcases hfit with ⟨rfl, rfl | rfl⟩ | ⟨rfl, rfl | rfl⟩ | ⟨rfl, rfl⟩ | ⟨rfl, rfl⟩ | ⟨rfl, rfl⟩ <;> simp [h5]
theorem told_lp (V : CarV) (z1 z2 tick : Int32) (hL : LogOK (v4_log (v5_now V)) tick (if z2 = -5 then z1 else z2)) : ∀ (fu b : Nat), b ≤ 10 → nI b ≤ v2_size (v4_log (v5_now V)) → 10 - b < fu → mf_L_told_B415 fu V z1 z2 (v2_size (v4_log (v5_now V))) (nI b) = some 1 := by
  obtain ⟨hn, hs, hr, hc, hh⟩ := hL
  intro fu
  induction fu with
  | zero => intro b _ _ h; omega
  | succ fu ih =>
    intro b hb10 hbs hf
    by_cases he : v2_size (v4_log (v5_now V)) ≤ nI b
    · exact told_end V z1 z2 b fu hs.1 he
    · have hlt : nI b < v2_size (v4_log (v5_now V)) := Int32.not_le.mp he
      have hb : b < 10 := by
        rcases Nat.lt_or_ge b 10 with q | q
        · exact q
        · have e10 : b = 10 := by omega
          rw [e10, nI_10] at hlt
          exact absurd hs.2 (Int32.not_le.mpr hlt)
      have e1 : mf_X5_change V (nI b) 1 = mf_X2_told (v4_log (v5_now V)) (nI b) 1 := chg V _ _ (nI_pos (by omega)) (by decide) (by decide)
      have e2 : mf_X5_change V (nI b) 2 = mf_X2_told (v4_log (v5_now V)) (nI b) 2 := chg V _ _ (nI_pos (by omega)) (by decide) (by decide)
      have e3 : mf_X5_change V (nI b) 3 = mf_X2_told (v4_log (v5_now V)) (nI b) 3 := chg V _ _ (nI_pos (by omega)) (by decide) (by decide)
      obtain ⟨hfit, h4, -, -⟩ := hr b hb hlt
      have hnext : nI (b + 1) ≤ v2_size (v4_log (v5_now V)) := by
        rw [← nI_1]
        exact i32_succ hlt
      have hrc : (fun w0 w1 w2 w3 => mf_L_told_B415 fu V w0 w1 w2 w3) z1 z2 (v2_size (v4_log (v5_now V))) (nI (b + 1)) = some 1 := ih (b + 1) (by omega) hnext (by omega)
      have h5 : mf_L_told_B540 (fun w0 w1 w2 w3 => mf_L_told_B415 fu V w0 w1 w2 w3) V z1 z2 (v2_size (v4_log (v5_now V))) (nI b) (mf_X2_told (v4_log (v5_now V)) (nI b) 2) (mf_X2_told (v4_log (v5_now V)) (nI b) 3) 1 = some 1 := by
        refine b540 hb h4 (fun hz => ?_) (fun c hcb => ?_) hrc
        · rw [hz, nI_0]
          rw [hz, nI_0] at hlt
          exact hh hlt
        · subst hcb
          exact hc c (by omega) hlt
      rw [mf_L_told_B415, if_neg he]
      simp only [bnd, e1, e2, e3]
      exact told_row V z1 z2 _ _ _ _ b hfit h5
