/-! acts: by hand, shifts, drives; all acts -/
theorem hand_b {t : Nat} {V : CarV} (hI : CarOK t V) : mf_X5_car V 4 = v4_handMode (v5_now V) := by
  rw [car_4]
  rcases now_hm hI.1 with q | q
  · rw [if_pos q, q]
  · rw [if_neg (by rw [q]; decide), q]
theorem now_hand {T : Int32} {S : St} (h : NowOK T S) {x : Int32} (hx : x = 0 ∨ x = 1) : NowOK T (u4_handMode S x) := by
  obtain ⟨⟨hg, ht, hn, hl, h2, h3, hh, hd, hv⟩, hC, hL, hz⟩ := h
  exact ⟨⟨hg, ht, hn, hl, h2, h3, hh, hx, hv⟩, hC, hL, hz⟩
theorem b406 {V : CarV} {x e : Int32} (hx : x = 0 ∨ x = 1) (h : mf_X5_car V 4 = x) : mf_L_acts_B406 V x e e = some (1, V) := by
  unfold mf_L_acts_B406
  simp only [bnd]
  rw [if_pos trivial, h]
  rcases hx with rfl | rfl
  · rw [if_pos rfl]
    exact if_pos rfl
  · rw [if_neg (by decide)]
    exact if_pos rfl
theorem acts_2 {t : Nat} {V : CarV} {x : Int32} (hI : CarOK t V) (hx : x = 0 ∨ x = 1) : ∃ V1, mf_L_acts_B368 V x = some (1, V1) ∧ CarOK t V1 := by
  obtain ⟨H1, eH, oH⟩ := rec_ok hI.2 (now_hm hI.1)
  have hb := hand_b hI
  have hm := now_hm hI.1
  have k : ∀ (W : CarV) (e : Int32), (if v4_handMode (v5_now V) = 1 then mf_L_acts_B392 W x 1 e else mf_L_acts_B392 W x 0 e) = mf_L_acts_B392 W x (v4_handMode (v5_now V)) e := fun W e => by
    rcases hm with q | q
    · rw [if_neg (by rw [q]; decide), q]
    · rw [if_pos q, q]
  unfold mf_L_acts_B368 mf_X5_byHand
  simp only [bnd]
  rw [eH, hb]
  by_cases q : v4_handMode (v5_now V) = x
  · refine ⟨V, ?_, hI⟩
    rw [if_pos q, Option.bind_some, k]
    unfold mf_L_acts_B392
    rw [if_pos q]
    exact b406 hx (hb.trans q)
  · have I1 : CarOK t (u5_now (u5_history V H1) (u4_handMode (v5_now (u5_history V H1)) x)) := ⟨now_hand hI.1 hx, oH⟩
    refine ⟨_, ?_, I1⟩
    rw [if_neg q, Option.bind_some, if_pos hx, Option.bind_some, k]
    unfold mf_L_acts_B392
    simp only [bnd]
    rw [if_neg q, car_0]
    exact b406 hx (hand_b I1)
theorem may_no {S : St} {n : Int32} (h : v4_handMode S = 0 ∨ ¬ v4_target S = 0 ∨ n < 1 ∨ 5 < n) : mf_X4_mayShiftTo S n = 0 := by
  unfold mf_X4_mayShiftTo mf_X4_isChanging
  simp only [bnd]
  by_cases h0 : v4_handMode S = 0
  · rw [if_pos h0]
  · rw [if_neg h0]
    by_cases h1 : v4_target S = 0
    · rw [if_pos h1, if_pos rfl]
      rcases h with h | h | h | h
      · exact absurd h h0
      · exact absurd h1 h
      · rw [if_pos h]
      · by_cases q : n < 1
        · rw [if_pos q]
        · rw [if_neg q, if_pos h]
    · rw [if_neg h1]
      exact if_neg (by decide)
theorem b25_no {V : CarV} {n : Int32} (h : mf_X4_mayShiftTo (v5_now V) n = 0) : mf_X5_shift_B25 V n = some (-4, V) := by
  unfold mf_X5_shift_B25
  simp only [bnd]
  rw [h]
  exact if_pos rfl
theorem shift_b (V : CarV) {x : Int32} (hx : x = 0 ∨ x = 1) : mf_X5_shift V x = mf_X5_shift_B25 V (v4_gear (v5_now V) + (if x = 0 then -1 else 1)) := by
  unfold mf_X5_shift
  rcases hx with rfl | rfl
  · have e : v4_gear (v5_now V) - 1 = v4_gear (v5_now V) + -1 := by grind
    rw [if_pos rfl, if_pos rfl, e]
  · rw [if_neg (by decide), if_neg (by decide)]
theorem b498 {V : CarV} {x : Int32} (hx : x = 0 ∨ x = 1) (m : Int32) (h : mf_X4_mayShiftTo (v5_now V) (v4_gear (v5_now V) + (if x = 0 then -1 else 1)) = 0) : mf_L_acts_B498 V x m = some (1, V) := by
  unfold mf_L_acts_B498 mf_L_acts_B499
  simp only [bnd]
  rw [shift_b V hx, b25_no h, Option.bind_some, if_pos trivial]
  exact if_pos rfl
theorem i32_st {g n : Int32} (h : 1 ≤ g ∧ g ≤ 5) (h1 : ¬ n ≤ 0) (h6 : ¬ 6 ≤ n) : 1 ≤ n ∧ n ≤ 5 := by constructor <;> grind
theorem i32_lo {n : Int32} (h : n ≤ 0) : n < 1 := by grind
theorem i32_hi {n : Int32} (h : 6 ≤ n) : 5 < n := by grind
theorem i32_w {g n : Int32} {x : Int32} (hg : 1 ≤ g ∧ g ≤ 5) (hx : x = 0 ∨ x = 1) (hn : n = g + (if x = 0 then -1 else 1)) : (n = g + 1 ∨ n = g - 1 ∨ n = g - 2) ∧ fits (nI 3) (n - g) := by
  rcases hx with rfl | rfl
  · rw [if_pos rfl] at hn
    have e : n - g = -1 := by grind
    exact ⟨Or.inr (Or.inl (by grind)), by rw [e]; exact Or.inr (Or.inl ⟨by decide, Or.inr rfl⟩)⟩
  · rw [if_neg (by decide)] at hn
    have e : n - g = 1 := by grind
    exact ⟨Or.inl hn, by rw [e]; exact Or.inr (Or.inl ⟨by decide, Or.inl rfl⟩)⟩
theorem acts_3s {t : Nat} {V : CarV} {x n : Int32} (ht : t ≤ 15000) (hI : CarOK t V) (hx : x = 0 ∨ x = 1) (hn : n = v4_gear (v5_now V) + (if x = 0 then -1 else 1)) (h0 : v4_target (v5_now V) = 0) (h1 : 1 ≤ n) (h5 : n ≤ 5) : ∃ V1, mf_L_acts_B499 V x n 1 = some (1, V1) ∧ CarOK (t + 1) V1 := by
  by_cases q : mf_X4_mayShiftTo (v5_now V) n = 0
  · refine ⟨V, ?_, car_mono hI (by omega) (by omega)⟩
    have ne : ¬ (-4 : Int32) = n := fun e => by
      rw [← e] at h1
      exact absurd h1 (by decide)
    unfold mf_L_acts_B499 mf_L_acts_B559
    simp only [bnd, cnt_4]
    rw [shift_b V hx, ← hn, b25_no q, Option.bind_some, if_neg (by decide), if_neg ne, if_pos rfl, if_pos rfl]
    rfl
  · obtain ⟨H1, eH, oH⟩ := rec_ok hI.2 (now_hm hI.1)
    obtain ⟨a, ha, ea⟩ := log_nat hI.1.2.2.1
    obtain ⟨hd, hf⟩ := i32_w hI.1.1.1 hx hn
    have eb := beg_eq (v5_now V) ha ea (w := 3) (by omega) n
    have ok := b_now (beg_ok (w := 3) (nI_T (t := t) (by omega)) hI.1 h0 ha ea (by omega) hd h1 h5 hf)
    obtain ⟨f1, f2, f3, f4, f5, f6, f7, f8, f9⟩ := beg_f (v5_now V) a 3 n (mf_X4_swings (v5_now V) (nI 3))
    obtain ⟨B, eB⟩ : ∃ B, begS (v5_now V) a 3 n (mf_X4_swings (v5_now V) (nI 3)) = B := ⟨_, rfl⟩
    rw [eB] at eb ok f1 f2 f3 f4 f5 f6 f7 f8 f9
    rw [nI_1] at ok
    have e3 : nI 3 = 3 := by decide
    have eV : ∀ H, v5_now (u5_history V H) = v5_now V := fun _ => rfl
    have es : mf_X5_shift V x = some (n, u5_now (u5_history V H1) B) := by
      rw [shift_b V hx, ← hn]
      unfold mf_X5_shift_B25
      simp only [bnd]
      rw [if_neg q, eH, Option.bind_some, eV, ← e3, eb, Option.bind_some]
    have I1 : CarOK (t + 1) (u5_now (u5_history V H1) B) := ⟨ok, oH⟩
    have eN : v5_now (u5_now (u5_history V H1) B) = B := rfl
    have n0 : ¬ n = 0 := fun e => absurd h1 (by rw [e]; decide)
    have c1 : mf_X5_car (u5_now (u5_history V H1) B) 1 = n := by rw [car_1, eN, f6, if_neg n0]
    have c4 : v4_counts (v5_now (u5_now (u5_history V H1) B)) 4 = v4_counts (v5_now V) 4 + 1 := by
      rw [eN, f3, begC_5 _ _ (by omega)]
      exact inc_at _ 4
    have c03 : mf_X5_change (u5_now (u5_history V H1) B) 0 3 = 3 := by
      rw [chg _ _ _ (by decide) (by decide) (by decide), eN, f2, ← e3]
      exact (addL_new _ ha hI.1.2.2.1.2.1 _ _ _ _ _).2.2.2.1
    refine ⟨_, ?_, I1⟩
    unfold mf_L_acts_B499
    simp only [bnd, cnt_4]
    rw [es, Option.bind_some, if_neg (by decide), if_pos rfl, if_pos c1, if_pos c4, if_pos c03]
    rfl
theorem acts_3 {t : Nat} {V : CarV} {x : Int32} (ht : t ≤ 15000) (hI : CarOK t V) (hx : x = 0 ∨ x = 1) : ∃ V1, mf_L_acts_B445 V x = some (1, V1) ∧ CarOK (t + 1) V1 := by
  have hb := hand_b hI
  have I0 : CarOK (t + 1) V := car_mono hI (by omega) (by omega)
  have e : mf_L_acts_B445 V x = mf_L_acts_B460 V x (if x = 0 then -1 else 1) (v4_gear (v5_now V)) := by
    unfold mf_L_acts_B445
    simp only [bnd, car_0]
    rcases hx with rfl | rfl
    · rw [if_pos rfl, if_pos rfl]
    · rw [if_neg (by decide), if_neg (by decide)]
  obtain ⟨n, hn⟩ : ∃ n, n = v4_gear (v5_now V) + (if x = 0 then -1 else 1) := ⟨_, rfl⟩
  rw [e]
  unfold mf_L_acts_B460
  simp only [bnd]
  rw [← hn, hb]
  have k498 : mf_X4_mayShiftTo (v5_now V) n = 0 → ∃ V1, mf_L_acts_B498 V x n = some (1, V1) ∧ CarOK (t + 1) V1 := fun h => ⟨V, b498 hx n (by rw [← hn]; exact h), I0⟩
  by_cases q1 : v4_handMode (v5_now V) = 1
  · rw [if_pos q1]
    by_cases q2 : v4_target (v5_now V) = 0
    · rw [if_pos (car1_no q2)]
      by_cases q3 : n ≤ 0
      · rw [if_pos q3]
        exact k498 (may_no (Or.inr (Or.inr (Or.inl (i32_lo q3)))))
      · rw [if_neg q3]
        by_cases q4 : 6 ≤ n
        · rw [if_pos q4]
          exact k498 (may_no (Or.inr (Or.inr (Or.inr (i32_hi q4)))))
        · rw [if_neg q4]
          obtain ⟨a1, a5⟩ := i32_st hI.1.1.1 q3 q4
          exact acts_3s ht hI hx hn q2 a1 a5
    · rw [if_neg (car1_ch hI q2)]
      exact k498 (may_no (Or.inr (Or.inl q2)))
  · rw [if_neg q1]
    refine k498 (may_no (Or.inl ?_))
    rcases now_hm hI.1 with h | h
    · exact h
    · exact absurd h q1
theorem P_acts0 (g h : Int32) {t : Nat} {V : CarV} (hI : CarOK t V) (ht : t ≤ 13000) : ∃ V1 d, mf_L_acts V g h = some (1, V1) ∧ CarOK (t + d) V1 ∧ d ≤ 200 := by
  obtain ⟨c, hc, ec⟩ := low_12 g
  have e1 : nI 1 = 1 := by decide
  have e2 : nI 2 = 2 := by decide
  have e3 : nI 3 = 3 := by decide
  have e4 : nI 4 = 4 := by decide
  have e5 : nI 5 = 5 := by decide
  have lit : ∀ {a b : Nat}, a < 12 → b < 12 → a ≠ b → ¬ nI a = nI b := fun ha hb hn e => hn ((nI_eq (by omega) (by omega)).mp e)
  unfold mf_L_acts
  rw [ec, Option.bind_some]
  by_cases c0 : c = 0
  · subst c0
    rw [if_pos nI_0]
    obtain ⟨a, ha, ea⟩ := low_5 h
    obtain ⟨b, hb, eb⟩ := low_4 (h >>> ((3 : Int32) &&& 31))
    obtain ⟨i, hi, ei⟩ := low_12 (h >>> ((5 : Int32) &&& 31))
    rw [ea, Option.bind_some, eb, Option.bind_some, ei, Option.bind_some, ← e1, nI_add, e1]
    obtain ⟨V1, q, r⟩ := acts_0 (h := h) hI (in_sp i hi) ha hb
    exact ⟨V1, 0, q, r, by omega⟩
  have n0 : ¬ nI c = 0 := nI_ne0 (by omega) (by omega)
  rw [if_neg n0]
  by_cases c1 : c = 1
  · subst c1
    rw [if_pos e1]
    obtain ⟨r, hr, er⟩ := low_4 h
    rw [er, Option.bind_some]
    have fin : (∃ V1, mf_L_acts_B238 V (nI r) 0 = some (1, V1) ∧ CarOK t V1) → True := fun _ => trivial
    by_cases r0 : r = 0
    · subst r0
      obtain ⟨k, hk, ek⟩ := low_8 (h >>> ((2 : Int32) &&& 31))
      rw [if_pos nI_0, ek, Option.bind_some, ← e2, nI_add]
      obtain ⟨V1, q, s⟩ := acts_1a (v := nI (2 + k)) hI ⟨nI_le (a := 2) (by omega) (by omega), nI_le (b := 20) (by omega) (by omega)⟩
      exact ⟨V1, 0, q, s, by omega⟩
    · have m0 : ¬ nI r = 0 := nI_ne0 (by omega) (by omega)
      rw [if_neg m0]
      by_cases r1 : r = 1
      · subst r1
        obtain ⟨k, hk, ek⟩ := low_4 (h >>> ((2 : Int32) &&& 31))
        rw [if_pos e1, ek, Option.bind_some]
        obtain ⟨V1, q, s⟩ := acts_1b (v := nI k) hI (nI_pos' (by omega))
        exact ⟨V1, 0, q, s, by omega⟩
      · have m1 : ¬ nI r = 1 := by rw [← e1]; exact lit (by omega) (by omega) r1
        obtain ⟨k, hk, ek⟩ := low_100 (h >>> ((2 : Int32) &&& 31))
        rw [if_neg m1, ek, Option.bind_some, ← e1, nI_add]
        obtain ⟨V1, q, s⟩ := acts_1c (r := r) (v := nI (1 + k)) hI (by omega) ⟨nI_le (a := 1) (by omega) (by omega), nI_le (b := 100) (by omega) (by omega)⟩
        exact ⟨V1, 0, q, s, by omega⟩
  have n1 : ¬ nI c = 1 := by rw [← e1]; exact lit hc (by omega) c1
  rw [if_neg n1]
  by_cases c2 : c = 2
  · subst c2
    obtain ⟨k, hk, ek⟩ := low_3 h
    rw [if_pos e2, ek, Option.bind_some]
    by_cases q : nI k = 0
    · rw [if_pos q]
      obtain ⟨V1, q, s⟩ := acts_2 hI (Or.inr rfl)
      exact ⟨V1, 0, q, s, by omega⟩
    · rw [if_neg q]
      obtain ⟨V1, q, s⟩ := acts_2 hI (Or.inl rfl)
      exact ⟨V1, 0, q, s, by omega⟩
  have n2 : ¬ nI c = 2 := by rw [← e2]; exact lit hc (by omega) c2
  rw [if_neg n2]
  by_cases c3 : c = 3
  · subst c3
    obtain ⟨k, hk, ek⟩ := low_2 h
    rw [if_pos e3, ek, Option.bind_some]
    by_cases q : nI k = 0
    · rw [if_pos q]
      obtain ⟨V1, q, s⟩ := acts_3 (by omega) hI (Or.inr rfl)
      exact ⟨V1, 1, q, s, by omega⟩
    · rw [if_neg q]
      obtain ⟨V1, q, s⟩ := acts_3 (by omega) hI (Or.inl rfl)
      exact ⟨V1, 1, q, s, by omega⟩
  have n3 : ¬ nI c = 3 := by rw [← e3]; exact lit hc (by omega) c3
  rw [if_neg n3]
  by_cases c4 : c = 4
  · subst c4
    obtain ⟨i, hi, ei⟩ := low_12 h
    obtain ⟨j, hj, ej⟩ := low_5 (h >>> ((4 : Int32) &&& 31))
    obtain ⟨k, hk, ek⟩ := low_30 (h >>> ((7 : Int32) &&& 31))
    obtain ⟨V1, ed, en, I1⟩ := drive_eq (n := 1 + k) (in_sp i hi) (in_pe j hj) (by omega) (by omega) (by omega) hI
    obtain ⟨k0, k1⟩ := it_cnt (sp := mf_L_fast (nI i)) hI.1 (fp_ofp _ (in_pe j hj)).2.1 (1 + k) (by omega)
    rw [← en] at k0 k1
    unfold sum4 at k1
    have a1 : (1 : Int32) + nI k = nI (1 + k) := by rw [← e1, nI_add]
    rw [if_pos e4, ei, Option.bind_some, ej, Option.bind_some, ek, Option.bind_some]
    simp only [bnd, cnt_0, cnt_1, cnt_2, cnt_3, cnt_5]
    rw [a1, ed, Option.bind_some, if_pos k0, if_pos k1]
    exact ⟨V1, 1 + k, rfl, I1, by omega⟩
  have n4 : ¬ nI c = 4 := by rw [← e4]; exact lit hc (by omega) c4
  rw [if_neg n4]
  by_cases c5 : c = 5
  · subst c5
    obtain ⟨k, hk, ek⟩ := low_3 h
    rw [if_pos e5, ek, Option.bind_some]
    by_cases q : 0 < nI k
    · rw [if_pos q]
      exact ⟨V, 0, rfl, hI, by omega⟩
    · obtain ⟨i, hi, ei⟩ := low_12 (h >>> ((2 : Int32) &&& 31))
      obtain ⟨j, hj, ej⟩ := low_5 (h >>> ((6 : Int32) &&& 31))
      obtain ⟨V1, d, el, I1, hd⟩ := law_settles (in_sp i hi) (in_pe j hj) ht hI
      rw [if_neg q, ei, Option.bind_some, ej, Option.bind_some, el, Option.bind_some, if_neg (show ¬ (1 : Int32) = 0 by decide)]
      exact ⟨V1, d, rfl, I1, by omega⟩
  have n5 : ¬ nI c = 5 := by rw [← e5]; exact lit hc (by omega) c5
  rw [if_neg n5]
  obtain ⟨i, hi, ei⟩ := low_12 h
  obtain ⟨j, hj, ej⟩ := low_5 (h >>> ((4 : Int32) &&& 31))
  obtain ⟨V1, el, I1⟩ := law_tick (in_sp i hi) (in_pe j hj) (by omega) hI
  rw [ei, Option.bind_some, ej, Option.bind_some, el, Option.bind_some]
  exact ⟨V1, 1, if_pos (Or.inr rfl), I1, by omega⟩
