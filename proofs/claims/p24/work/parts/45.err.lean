/-! errors: what is refused, texts that are none, undo -/
theorem vp_51 : vp_nar .char 51 = 51 := by decide
theorem vp_48 : vp_nar .char 48 = 48 := by decide
theorem vp_49 : vp_nar .char 49 = 49 := by decide
theorem vp_53 : vp_nar .char 53 = 53 := by decide
theorem vp_44 : vp_nar .char 44 = 44 := by decide
theorem vp_42 : vp_nar .char 42 = 42 := by decide
theorem tk_a (c n : Nat → Int32) : mf_X0_takes (c, 3, n, 0, 0, 0, 0) 51 = some (1, (c, 3, n, 0, 0, 3, 1)) := by simp [mf_X0_read_B50, mf_X0_expectNumber, mf_X0_takes, mf_X0_takesDigit, mf_X0_takesDigit_B16, mf_X0_takesDigit_B37, mf_X0_endNumber, mf_X0_putNumber, mf_X0_endPart, mf_X0_endPart_B13, mf_X0_endPart_B41, bnd, tb_gr, v0_characters, v0_length, v0_numbers, v0_parts, v0_place, v0_value, v0_digits, u0_characters, u0_length, u0_numbers, u0_parts, u0_place, u0_value, u0_digits]
theorem tk_b (c n : Nat → Int32) : mf_X0_takes (c, 3, n, 0, 0, 3, 1) 48 = some (1, (c, 3, n, 0, 0, 30, 2)) := by simp [mf_X0_read_B50, mf_X0_expectNumber, mf_X0_takes, mf_X0_takesDigit, mf_X0_takesDigit_B16, mf_X0_takesDigit_B37, mf_X0_endNumber, mf_X0_putNumber, mf_X0_endPart, mf_X0_endPart_B13, mf_X0_endPart_B41, bnd, tb_gr, v0_characters, v0_length, v0_numbers, v0_parts, v0_place, v0_value, v0_digits, u0_characters, u0_length, u0_numbers, u0_parts, u0_place, u0_value, u0_digits]
theorem tk_c (c n : Nat → Int32) : mf_X0_takes (c, 3, n, 0, 0, 30, 2) 49 = some (0, (c, 3, n, 0, 0, 30, 2)) := by simp [mf_X0_read_B50, mf_X0_expectNumber, mf_X0_takes, mf_X0_takesDigit, mf_X0_takesDigit_B16, mf_X0_takesDigit_B37, mf_X0_endNumber, mf_X0_putNumber, mf_X0_endPart, mf_X0_endPart_B13, mf_X0_endPart_B41, bnd, tb_gr, v0_characters, v0_length, v0_numbers, v0_parts, v0_place, v0_value, v0_digits, u0_characters, u0_length, u0_numbers, u0_parts, u0_place, u0_value, u0_digits]
theorem tk_d (c n : Nat → Int32) : mf_X0_takes (c, 4, n, 0, 0, 0, 0) 53 = some (1, (c, 4, n, 0, 0, 5, 1)) := by simp [mf_X0_read_B50, mf_X0_expectNumber, mf_X0_takes, mf_X0_takesDigit, mf_X0_takesDigit_B16, mf_X0_takesDigit_B37, mf_X0_endNumber, mf_X0_putNumber, mf_X0_endPart, mf_X0_endPart_B13, mf_X0_endPart_B41, bnd, tb_gr, v0_characters, v0_length, v0_numbers, v0_parts, v0_place, v0_value, v0_digits, u0_characters, u0_length, u0_numbers, u0_parts, u0_place, u0_value, u0_digits]
theorem tk_e (c n : Nat → Int32) : mf_X0_takes (c, 4, n, 0, 0, 5, 1) 44 = some (1, (c, 4, upd n 0 5, 0, 1, 0, 0)) := by simp [mf_X0_read_B50, mf_X0_expectNumber, mf_X0_takes, mf_X0_takesDigit, mf_X0_takesDigit_B16, mf_X0_takesDigit_B37, mf_X0_endNumber, mf_X0_putNumber, mf_X0_endPart, mf_X0_endPart_B13, mf_X0_endPart_B41, bnd, tb_gr, v0_characters, v0_length, v0_numbers, v0_parts, v0_place, v0_value, v0_digits, u0_characters, u0_length, u0_numbers, u0_parts, u0_place, u0_value, u0_digits]
theorem tk_f1 (c n : Nat → Int32) : mf_X0_takes (c, 4, n, 0, 1, 0, 0) 53 = some (1, (c, 4, n, 0, 1, 5, 1)) := by simp [mf_X0_read_B50, mf_X0_expectNumber, mf_X0_takes, mf_X0_takesDigit, mf_X0_takesDigit_B16, mf_X0_takesDigit_B37, mf_X0_endNumber, mf_X0_putNumber, mf_X0_endPart, mf_X0_endPart_B13, mf_X0_endPart_B41, bnd, tb_gr, v0_characters, v0_length, v0_numbers, v0_parts, v0_place, v0_value, v0_digits, u0_characters, u0_length, u0_numbers, u0_parts, u0_place, u0_value, u0_digits]
theorem tk_g (c n : Nat → Int32) : mf_X0_takes (c, 4, n, 0, 1, 5, 1) 42 = some (1, (c, 4, upd n 1 5, 0, 2, 0, 0)) := by simp [mf_X0_read_B50, mf_X0_expectNumber, mf_X0_takes, mf_X0_takesDigit, mf_X0_takesDigit_B16, mf_X0_takesDigit_B37, mf_X0_endNumber, mf_X0_putNumber, mf_X0_endPart, mf_X0_endPart_B13, mf_X0_endPart_B41, bnd, tb_gr, v0_characters, v0_length, v0_numbers, v0_parts, v0_place, v0_value, v0_digits, u0_characters, u0_length, u0_numbers, u0_parts, u0_place, u0_value, u0_digits]
theorem ep_4 (c n : Nat → Int32) : mf_X0_read_B50 (c, 4, n, 0, 2, 0, 0) = some (4, (c, 4, n, 0, 2, 0, 0)) := by simp [mf_X0_read_B50, mf_X0_expectNumber, mf_X0_takes, mf_X0_takesDigit, mf_X0_takesDigit_B16, mf_X0_takesDigit_B37, mf_X0_endNumber, mf_X0_putNumber, mf_X0_endPart, mf_X0_endPart_B13, mf_X0_endPart_B41, bnd, tb_gr, v0_characters, v0_length, v0_numbers, v0_parts, v0_place, v0_value, v0_digits, u0_characters, u0_length, u0_numbers, u0_parts, u0_place, u0_value, u0_digits]
theorem rd_st (fu : Nat) {W W1 : TxV} {k : Nat} {x z z1 : Int32} (hz : z = nI k) (hz1 : z1 = nI (k + 1)) (hk : k < 60) (hl : ¬ v0_length W ≤ z) (hx : v0_characters W k = x) (ht : mf_X0_takes W x = some (1, W1)) : mf_X0_read_B12 (fu + 1) W z = mf_X0_read_B12 fu W1 z1 := by
  have q : ¬ (60 : Int32) ≤ nI k := nI_ge (b := 60) hk (by omega)
  subst hz hz1
  rw [mf_X0_read_B12, if_neg hl, if_neg q, if_pos ⟨nI_pos (by omega), q⟩, nI_clamp (by omega), hx, ht, Option.bind_some, nI_1]
  exact if_neg (show ¬ (1 : Int32) = 0 by decide)
theorem rd_no (fu : Nat) {W W1 : TxV} {k : Nat} {x z : Int32} (hz : z = nI k) (hk : k < 60) (hl : ¬ v0_length W ≤ z) (hx : v0_characters W k = x) (ht : mf_X0_takes W x = some (0, W1)) : mf_X0_read_B12 (fu + 1) W z = some (z, W1) := by
  have q : ¬ (60 : Int32) ≤ nI k := nI_ge (b := 60) hk (by omega)
  subst hz
  rw [mf_X0_read_B12, if_neg hl, if_neg q, if_pos ⟨nI_pos (by omega), q⟩, nI_clamp (by omega), hx, ht, Option.bind_some]
  exact if_pos rfl
theorem rd_in (c n : Nat → Int32) (z p pl v d : Int32) : mf_X0_read (c, z, n, p, pl, v, d) = mf_X0_read_B12 (69 + 1) (c, z, n, 0, 0, 0, 0) 0 := rfl
theorem tx_0 (c n : Nat → Int32) (p pl v d : Int32) : mf_X0_read (c, 0, n, p, pl, v, d) = some (0, (c, 0, n, 0, 0, 0, 0)) := id rfl
theorem tx_301 (c n : Nat → Int32) (p pl v d : Int32) : mf_X0_read (upd (upd (upd c 0 51) 1 48) 2 49, 3, n, p, pl, v, d) = some (2, (upd (upd (upd c 0 51) 1 48) 2 49, 3, n, 0, 0, 30, 2)) := by
  rw [rd_in, rd_st 69 (k := 0) (z1 := 1) (by decide) (by decide) (by omega) (show ¬ (3 : Int32) ≤ 0 by decide) (x := 51) rfl (tk_a _ n), rd_st 68 (k := 1) (z1 := 2) (by decide) (by decide) (by omega) (show ¬ (3 : Int32) ≤ 1 by decide) (x := 48) rfl (tk_b _ n), rd_no 67 (k := 2) (by decide) (by omega) (show ¬ (3 : Int32) ≤ 2 by decide) (x := 49) rfl (tk_c _ n)]
theorem tx_55 (c n : Nat → Int32) (p pl v d : Int32) : mf_X0_read (upd (upd (upd (upd c 0 53) 1 44) 2 53) 3 42, 4, n, p, pl, v, d) = some (4, (upd (upd (upd (upd c 0 53) 1 44) 2 53) 3 42, 4, upd (upd n 0 5) 1 5, 0, 2, 0, 0)) := by
  rw [rd_in, rd_st 69 (k := 0) (z1 := 1) (by decide) (by decide) (by omega) (show ¬ (4 : Int32) ≤ 0 by decide) (x := 53) rfl (tk_d _ n), rd_st 68 (k := 1) (z1 := 2) (by decide) (by decide) (by omega) (show ¬ (4 : Int32) ≤ 1 by decide) (x := 44) rfl (tk_e _ n), rd_st 67 (k := 2) (z1 := 3) (by decide) (by decide) (by omega) (show ¬ (4 : Int32) ≤ 2 by decide) (x := 53) rfl (tk_f1 _ _), rd_st 66 (k := 3) (z1 := 4) (by decide) (by decide) (by omega) (show ¬ (4 : Int32) ≤ 3 by decide) (x := 42) rfl (tk_g _ _)]
  rw [show (66 : Nat) = 65 + 1 from rfl, mf_X0_read_B12]
  exact (if_pos (show (4 : Int32) ≤ 4 by decide)).trans (ep_4 _ _)
theorem undo_ok {V : CarV} (h : HisOK (v5_history V)) : ∃ V1, mf_X5_undo V = some (if v1_size (v5_history V) ≤ 0 then -5 else v1_size (v5_history V) - 1, V1) := by
  obtain ⟨hn, hs, hh⟩ := h
  have key : ∀ y : Int32, (y = 0 ∨ y = 1 ∨ y = 2 ∨ y = 3) → ∃ q : Int32 × HiV × St, mf_X1_takeLatestInto_B17 (v5_history V) (v5_now V) y = some q ∧ ((v1_size (v5_history V) ≤ 0 ∧ q.1 = 0) ∨ (¬ v1_size (v5_history V) ≤ 0 ∧ q.1 = 1 ∧ v1_size q.2.1 = v1_size (v5_history V) - 1)) := by
    intro y hy
    have cpy : ∀ k, k < 4 → ¬ v1_size (v5_history V) = 0 → ∃ q : Int32 × HiV × St, (Option.bind (mf_X4_copyFrom (v5_now V) ((v1_states (v5_history V)) k)) (fun r_7 => (bnd (u1_next (v5_history V) y) (fun V_11 => (bnd (u1_size V_11 ((v1_size V_11) - (1 : Int32))) (fun V_15 => some ((1 : Int32), V_15, r_7))))))) = some q ∧ ((v1_size (v5_history V) ≤ 0 ∧ q.1 = 0) ∨ (¬ v1_size (v5_history V) ≤ 0 ∧ q.1 = 1 ∧ v1_size q.2.1 = v1_size (v5_history V) - 1)) := fun k hk h0 => by
      rw [copy_eq _ (hh k hk), Option.bind_some]
      exact ⟨_, rfl, Or.inr ⟨fun q => h0 (i32_hd hs.1 q), rfl, rfl⟩⟩
    unfold mf_X1_takeLatestInto_B17
    by_cases h0 : v1_size (v5_history V) = 0
    · have hz : v1_size (v5_history V) ≤ 0 := by rw [h0]; decide
      rcases hy with e | e | e | e
      · rw [if_pos e, if_pos h0]; exact ⟨_, rfl, Or.inl ⟨hz, rfl⟩⟩
      · rw [if_neg (by rw [e]; decide), if_pos e, if_pos h0]; exact ⟨_, rfl, Or.inl ⟨hz, rfl⟩⟩
      · rw [if_neg (by rw [e]; decide), if_neg (by rw [e]; decide), if_pos e, if_pos h0]; exact ⟨_, rfl, Or.inl ⟨hz, rfl⟩⟩
      · rw [if_neg (by rw [e]; decide), if_neg (by rw [e]; decide), if_neg (by rw [e]; decide), if_pos e, if_pos h0]; exact ⟨_, rfl, Or.inl ⟨hz, rfl⟩⟩
    · rcases hy with e | e | e | e
      · rw [if_pos e, if_neg h0]; exact cpy 0 (by omega) h0
      · rw [if_neg (by rw [e]; decide), if_pos e, if_neg h0]; exact cpy 1 (by omega) h0
      · rw [if_neg (by rw [e]; decide), if_neg (by rw [e]; decide), if_pos e, if_neg h0]; exact cpy 2 (by omega) h0
      · rw [if_neg (by rw [e]; decide), if_neg (by rw [e]; decide), if_neg (by rw [e]; decide), if_pos e, if_neg h0]; exact cpy 3 (by omega) h0
  have key2 : ∃ q : Int32 × HiV × St, mf_X1_takeLatestInto (v5_history V) (v5_now V) = some q ∧ ((v1_size (v5_history V) ≤ 0 ∧ q.1 = 0) ∨ (¬ v1_size (v5_history V) ≤ 0 ∧ q.1 = 1 ∧ v1_size q.2.1 = v1_size (v5_history V) - 1)) := by
    unfold mf_X1_takeLatestInto
    rcases hn with e | e | e | e
    · rw [if_pos (by rw [e]; decide)]; exact key 3 (by decide)
    · rw [if_neg (by rw [e]; decide), e]; exact key _ (by decide)
    · rw [if_neg (by rw [e]; decide), e]; exact key _ (by decide)
    · rw [if_neg (by rw [e]; decide), e]; exact key _ (by decide)
  obtain ⟨q, eq, hq⟩ := key2
  unfold mf_X5_undo
  rw [eq, Option.bind_some]
  simp only [bnd]
  rcases hq with ⟨h0, q1⟩ | ⟨h0, q1, q2⟩
  · rw [if_pos q1, if_pos h0]
    exact ⟨_, rfl⟩
  · rw [if_neg (by rw [q1]; decide), if_neg h0, ← q2]
    exact ⟨_, rfl⟩
theorem e385 {V : CarV} (h : HisOK (v5_history V)) : ∃ V1, mf_L_errors_B385 V 1 = some (1, V1) := by
  obtain ⟨V1, e⟩ := undo_ok h
  unfold mf_L_errors_B385 mf_L_errors_B413
  simp only [bnd, cnt_13]
  rw [if_neg (by decide), e, Option.bind_some]
  by_cases q : v1_size (v5_history V) ≤ 0
  · rw [if_pos q, if_pos q]
    exact ⟨V1, if_pos rfl⟩
  · rw [if_neg q, if_neg q]
    exact ⟨V1, if_pos rfl⟩
/-- a text that is none -/
theorem rd_err {V : CarV} {T1 : TxV} {k r : Int32} (hr : (-100 : Int32) - k = r) (hk : ¬ k = -1) (e : mf_X0_read (v5_text V) = some (k, T1)) : mf_X5_readDrive V = some (r, u5_text V T1) := by
  subst hr
  unfold mf_X5_readDrive
  rw [e, Option.bind_some]
  simp only [bnd]
  exact if_neg hk
theorem ty_1 (V : CarV) (x y : Int32) (hy : vp_nar .char x = y) (c n : Nat → Int32) (k : Nat) (p pl v d : Int32) (hk : k < 60) (h : v5_text V = (c, nI k, n, p, pl, v, d)) : mf_X5_type V x = (nI (k + 1), u5_text V (upd c k y, nI (k + 1), n, p, pl, v, d)) := by
  have q : nI k < 60 := nI_lt (b := 60) hk (by omega)
  have ea : mf_X0_append (c, nI k, n, p, pl, v, d) x = (1, (upd c k y, nI (k + 1), n, p, pl, v, d)) := by
    have e1 : v0_length ((c, nI k, n, p, pl, v, d) : TxV) = nI k := rfl
    unfold mf_X0_append
    simp only [bnd]
    rw [e1, if_neg (nI_pos (by omega)), if_pos q, nI_clamp (by omega), hy]
    have e2 : v0_length (u0_characters ((c, nI k, n, p, pl, v, d) : TxV) (upd (v0_characters ((c, nI k, n, p, pl, v, d) : TxV)) k y)) = nI k := rfl
    rw [e2, nI_1]
    rfl
  unfold mf_X5_type
  simp only [bnd]
  rw [h, ea]
  exact if_neg (show ¬ (1 : Int32) = 0 by decide)
theorem cl_1 (V : CarV) (c n : Nat → Int32) (z p pl v d : Int32) (h : v5_text V = (c, z, n, p, pl, v, d)) : mf_X5_clearText V = (z, u5_text V (c, 0, n, p, pl, v, d)) := by
  unfold mf_X5_clearText
  simp only [bnd]
  rw [h]
  rfl
theorem utx (V : CarV) (a b : TxV) : u5_text (u5_text V a) b = u5_text V b := rfl
theorem vtx (V : CarV) (a : TxV) : v5_text (u5_text V a) = a := rfl
theorem htx (V : CarV) (a : TxV) : v5_history (u5_text V a) = v5_history V := rfl
theorem e328 {V : CarV} {c n : Nat → Int32} {p pl v d : Int32} (hH : HisOK (v5_history V)) (h : v5_text V = (c, 0, n, p, pl, v, d)) : ∃ V1, mf_L_errors_B328 V 1 = some (1, V1) := by
  have k1 := ty_1 V 53 53 vp_53 c n 0 p pl v d (by omega) (by rw [h, nI_0])
  have k2 := ty_1 (u5_text V _) 44 44 vp_44 _ n 1 p pl v d (by omega) (vtx V (upd c 0 53, nI (0 + 1), n, p, pl, v, d))
  have k3 := ty_1 (u5_text V _) 53 53 vp_53 _ n 2 p pl v d (by omega) (vtx V (upd (upd c 0 53) 1 44, nI (1 + 1), n, p, pl, v, d))
  have k4 := ty_1 (u5_text V _) 42 42 vp_42 _ n 3 p pl v d (by omega) (vtx V (upd (upd (upd c 0 53) 1 44) 2 53, nI (2 + 1), n, p, pl, v, d))
  rw [utx] at k2 k3 k4
  have e4 : nI (3 + 1) = 4 := by decide
  rw [e4] at k4
  unfold mf_L_errors_B328
  simp only [bnd]
  rw [k1]
  simp only [k2, k3, k4]
  rw [if_neg (by decide), rd_err (V := u5_text V _) (r := -104) (by decide) (by decide) (tx_55 c n p pl v d), Option.bind_some, if_pos rfl]
  simp only [cnt_14]
  rw [if_pos (by rfl), utx]
  exact e385 (by rw [htx]; exact hH)
theorem e280 {V : CarV} {c n : Nat → Int32} {p pl v d : Int32} (hH : HisOK (v5_history V)) (h : v5_text V = (c, 0, n, p, pl, v, d)) : ∃ V1, mf_L_errors_B280 V 1 = some (1, V1) := by
  have k1 := ty_1 V 51 51 vp_51 c n 0 p pl v d (by omega) (by rw [h, nI_0])
  have k2 := ty_1 (u5_text V _) 48 48 vp_48 _ n 1 p pl v d (by omega) (vtx V (upd c 0 51, nI (0 + 1), n, p, pl, v, d))
  have k3 := ty_1 (u5_text V _) 49 49 vp_49 _ n 2 p pl v d (by omega) (vtx V (upd (upd c 0 51) 1 48, nI (1 + 1), n, p, pl, v, d))
  rw [utx] at k2 k3
  have e3 : nI (2 + 1) = 3 := by decide
  rw [e3] at k3
  unfold mf_L_errors_B280
  simp only [bnd]
  rw [k1]
  simp only [k2, k3]
  rw [if_neg (by decide), rd_err (V := u5_text V _) (r := -102) (by decide) (by decide) (tx_301 c n p pl v d), Option.bind_some, if_pos rfl]
  have k5 := cl_1 (u5_text (u5_text V (upd (upd (upd c 0 51) 1 48) 2 49, 3, n, p, pl, v, d)) _) _ _ _ _ _ _ _ (vtx _ (upd (upd (upd c 0 51) 1 48) 2 49, 3, n, 0, 0, 30, 2))
  simp only [k5]
  rw [if_pos trivial]
  exact e328 (by rw [htx, htx, htx]; exact hH) (vtx _ _)
theorem n_1 : (-100 : Int32) - 0 = -100 := Int32.sub_zero _
theorem n_2 : ¬ (0 : Int32) = -1 := by decide
theorem b256 {V W1 W2 : CarV} {z r : Int32} (hr : r = -100) (k1 : mf_X5_clearText V = (z, W1)) (k2 : mf_X5_readDrive W1 = some (r, W2)) : mf_L_errors_B256 V 1 = mf_L_errors_B280 W2 1 := by
  unfold mf_L_errors_B256
  rw [k1]
  show (if (1 : Int32) = 0 then mf_L_errors_B279 W1 else Option.bind (mf_X5_readDrive W1) (fun r_42 => if r_42.1 = (-100 : Int32) then mf_L_errors_B280 r_42.2 1 else mf_L_errors_B279 r_42.2)) = _
  rw [if_neg (show ¬ (1 : Int32) = 0 by decide), k2, Option.bind_some]
  show (if r = (-100 : Int32) then mf_L_errors_B280 W2 1 else mf_L_errors_B279 W2) = _
  rw [if_pos hr]
theorem rd_0 (V : CarV) (c n : Nat → Int32) (p pl v d : Int32) : mf_X5_readDrive (u5_text V (c, 0, n, p, pl, v, d)) = some (-100, u5_text (u5_text V (c, 0, n, p, pl, v, d)) (c, 0, n, 0, 0, 0, 0)) := rd_err n_1 n_2 (tx_0 c n p pl v d)
theorem e256 {V : CarV} (hH : HisOK (v5_history V)) : ∃ V1, mf_L_errors_B256 V 1 = some (1, V1) := by
  obtain ⟨⟨c, z, n, p, pl, v, d⟩, hT⟩ : ∃ T, v5_text V = T := ⟨_, rfl⟩
  rw [b256 rfl (cl_1 V c n z p pl v d hT) (rd_0 V c n p pl v d)]
  exact e280 (by rw [htx, htx]; exact hH) (vtx _ _)
