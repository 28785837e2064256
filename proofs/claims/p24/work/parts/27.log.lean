/-! the log: a row more -/
def lpos (a b : Nat) : Nat := if b < a then a - 1 - b else a + 9 - b
theorem lpos_lt {a b : Nat} (ha : a < 10) (hb : b < 10) : lpos a b < 10 := by
  unfold lpos
  split <;> omega
theorem idx_5 (p k : Nat) : nI p * (5 : Int32) + nI k = nI (p * 5 + k) := by
  rw [show (5 : Int32) = nI 5 by decide, pk_mul, nI_add]
theorem ring_a (x y : Int32) : x - 1 - y + 10 = x + 9 - y := by grind
theorem ring_b (x y : Int32) : x - 1 - y = x - (y + 1) := by grind
theorem told_at (L : LgV) {a b k : Nat} (ha : a < 10) (hb : b < 10) (hk : k < 5) (hn : v2_next L = nI a) (hs : nI b < v2_size L) : mf_X2_told L (nI b) (nI k) = v2_cells L (lpos a b * 5 + k) := by
  have k5 : nI k < 5 := by
    have h := nI_lt hk (by omega)
    exact h
  unfold mf_X2_told
  rw [if_neg (nI_pos (by omega)), if_neg (Int32.not_le.mpr hs), if_neg (nI_pos (by omega)), if_pos k5, hn]
  have key : ∀ y : Int32, y = nI (lpos a b) → mf_X2_told_B45 L (nI k) y = v2_cells L (lpos a b * 5 + k) := by
    intro y hy
    have hp := lpos_lt ha hb
    subst hy
    unfold mf_X2_told_B45
    have h50 : ¬ (50 : Int32) ≤ nI (lpos a b * 5 + k) := nI_ge (b := 50) (by omega) (by omega)
    rw [idx_5, if_neg (nI_pos (by omega)), if_neg h50, nI_clamp (by omega)]
  have e1 : nI a - 1 - nI b = nI a - nI (b + 1) := by rw [ring_b, nI_1]
  by_cases h : b < a
  · have e : nI a - 1 - nI b = nI (lpos a b) := by
      rw [e1, pk_sub (by omega)]
      unfold lpos
      rw [if_pos h]
      congr 1
      omega
    rw [if_pos (by rw [e]; exact nI_pos' (by have := lpos_lt ha hb; omega))]
    exact key _ e
  · have e : nI a - 1 - nI b + 10 = nI (lpos a b) := by
      rw [ring_a, show (9 : Int32) = nI 9 by decide, nI_add, pk_sub (by omega)]
      unfold lpos
      rw [if_neg h]
    rw [if_neg (by rw [e1]; exact Int32.not_le.mpr (pk_sneg (by omega) (by omega)))]
    exact key _ e
def add_cells (c : Nat → Int32) (a : Nat) (t o n w h : Int32) : Nat → Int32 := upd (upd (upd (upd (upd c (a * 5) t) (a * 5 + 1) o) (a * 5 + 2) n) (a * 5 + 3) w) (a * 5 + 4) h
theorem add_eq (L : LgV) {a : Nat} (ha : a < 10) (hn : v2_next L = nI a) (t o n w h : Int32) (hh : h = 0 ∨ h = 1) : mf_X2_add L t o n w h = some (add_cells (v2_cells L) a t o n w h, nI (if a + 1 < 10 then a + 1 else 0), if (10 : Int32) < v2_size L + 1 then 10 else v2_size L + 1) := by
  have e0 : v2_next L * (5 : Int32) = nI (a * 5) := by
    rw [hn, show (5 : Int32) = nI 5 by decide, pk_mul]
  have f1 : nI (a * 5) + 1 = nI (a * 5 + 1) := nI_1 _
  have f2 : nI (a * 5) + 2 = nI (a * 5 + 2) := by rw [show (2 : Int32) = nI 2 by decide, nI_add]
  have f3 : nI (a * 5) + 3 = nI (a * 5 + 3) := by rw [show (3 : Int32) = nI 3 by decide, nI_add]
  have f4 : nI (a * 5) + 4 = nI (a * 5 + 4) := by rw [show (4 : Int32) = nI 4 by decide, nI_add]
  have g : ∀ j : Nat, j < 5 → (¬ nI (a * 5 + j) < 0 ∧ ¬ (50 : Int32) ≤ nI (a * 5 + j)) := fun j hj => ⟨nI_pos (by omega), nI_ge (b := 50) (by omega) (by omega)⟩
  have g0 : ¬ nI (a * 5) < 0 ∧ ¬ (50 : Int32) ≤ nI (a * 5) := g 0 (by omega)
  have le50 : nI (a * 5) + 5 ≤ (50 : Int32) := by
    rw [show (5 : Int32) = nI 5 by decide, nI_add]
    exact nI_le (b := 50) (by omega) (by omega)
  have cl : ∀ j : Nat, j < 5 → (nI (a * 5 + j)).toNatClampNeg = a * 5 + j := fun j hj => nI_clamp (by omega)
  have tail : ∀ (W : LgV) (y : Int32), v2_next W = nI a → v2_size W = v2_size L → v2_cells W = upd (upd (upd (upd (v2_cells L) (a * 5) t) (a * 5 + 1) o) (a * 5 + 2) n) (a * 5 + 3) w → mf_X2_add_B83 W y (nI (a * 5 + 4)) = some (add_cells (v2_cells L) a t o n w y, nI (if a + 1 < 10 then a + 1 else 0), if (10 : Int32) < v2_size L + 1 then 10 else v2_size L + 1) := by
    intro W y w1 w2 w3
    unfold mf_X2_add_B83
    rw [if_pos (g 4 (by omega)), cl 4 (by omega)]
    have n1 : v2_next (u2_cells W (upd (v2_cells W) (a * 5 + 4) y)) = nI a := w1
    simp only [bnd]
    rw [n1]
    have fin : ∀ z : Int32, mf_X2_add_B106 (u2_cells W (upd (v2_cells W) (a * 5 + 4) y)) z = some (add_cells (v2_cells L) a t o n w y, z, if (10 : Int32) < v2_size L + 1 then 10 else v2_size L + 1) := by
      intro z
      have s1 : v2_size (u2_next (u2_cells W (upd (v2_cells W) (a * 5 + 4) y)) z) = v2_size L := w2
      unfold mf_X2_add_B106
      simp only [bnd]
      rw [s1]
      unfold add_cells
      rw [← w3]
      rfl
    by_cases h9 : a + 1 < 10
    · have q : ¬ (10 : Int32) ≤ nI a + 1 := by rw [nI_1]; exact nI_ge (b := 10) h9 (by omega)
      rw [if_neg q, fin, if_pos h9, nI_1]
    · have q : (10 : Int32) ≤ nI a + 1 := by rw [nI_1]; exact nI_le (a := 10) (by omega) (by omega)
      rw [if_pos q, fin, if_neg h9, nI_0]
  unfold mf_X2_add
  rw [e0, if_neg (nI_pos (by omega)), if_pos le50, if_pos g0]
  simp only [bnd]
  rw [f1, if_pos (g 1 (by omega)), f2, if_pos (g 2 (by omega)), f3, if_pos (g 3 (by omega)), f4, cl 1 (by omega), cl 2 (by omega), cl 3 (by omega), show (nI (a * 5)).toNatClampNeg = a * 5 from nI_clamp (by omega)]
  rcases hh with rfl | rfl
  · rw [if_pos rfl]
    exact tail _ 0 hn rfl rfl
  · rw [if_neg (by decide)]
    exact tail _ 1 hn rfl rfl
