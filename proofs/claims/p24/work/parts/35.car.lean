/-! the car: what it keeps of earlier states, drives, forecasts -/
def hmOK (S : St) : Prop := v4_handMode S = 0 ∨ v4_handMode S = 1
theorem copy_eq (V : St) {U : St} (h : hmOK U) : mf_X4_copyFrom V U = some U := by
  unfold mf_X4_copyFrom
  simp only [bnd]
  exact if_pos h
def HisOK (H : HiV) : Prop := (v1_next H = 0 ∨ v1_next H = 1 ∨ v1_next H = 2 ∨ v1_next H = 3) ∧ (0 ≤ v1_size H ∧ v1_size H ≤ 4) ∧ ∀ i, i < 4 → hmOK (v1_states H i)
theorem i32_s4 {z : Int32} (h : 0 ≤ z ∧ z ≤ 4) : 0 ≤ (if (4 : Int32) < z + 1 then (4 : Int32) else z + 1) ∧ (if (4 : Int32) < z + 1 then (4 : Int32) else z + 1) ≤ 4 := by
  by_cases q : (4 : Int32) < z + 1
  · rw [if_pos q]; exact ⟨by decide, by decide⟩
  · rw [if_neg q]; constructor <;> grind
theorem rec_40 (U : St) {H : HiV} {y : Int32} (hy : y = 0 ∨ y = 1 ∨ y = 2 ∨ y = 3) (hs : 0 ≤ v1_size H ∧ v1_size H ≤ 4) (hh : ∀ i, i < 4 → hmOK (v1_states H i)) : ∃ H1, mf_X1_record_B40 U H y = some H1 ∧ HisOK H1 := ⟨_, rfl, hy, i32_s4 hs, hh⟩
theorem up_hm {f : Nat → St} {U : St} (hU : hmOK U) (hh : ∀ i, i < 4 → hmOK (f i)) (k : Nat) : ∀ i, i < 4 → hmOK (va_up f k U i) := by
  intro i hi
  unfold va_up
  by_cases q : i = k
  · rw [if_pos q]; exact hU
  · rw [if_neg q]; exact hh i hi
theorem rec_ok {H : HiV} (hH : HisOK H) {U : St} (hU : hmOK U) : ∃ H1, mf_X1_record H U = some H1 ∧ HisOK H1 := by
  obtain ⟨hn, hs, hh⟩ := hH
  have st : ∀ (k : Nat) (nn : Int32), v1_next H = nn → (¬ 4 ≤ nn + 1 → nn + 1 = 0 ∨ nn + 1 = 1 ∨ nn + 1 = 2 ∨ nn + 1 = 3) → ∃ H1, (Option.bind (mf_X4_copyFrom (v1_states H k) U) (fun r_5 => (bnd (u1_states H (va_up (v1_states H) k r_5)) (fun V_7 => (if (4 : Int32) ≤ ((v1_next V_7) + (1 : Int32)) then (mf_X1_record_B40 U V_7 (0 : Int32)) else (mf_X1_record_B40 U V_7 ((v1_next V_7) + (1 : Int32)))))))) = some H1 ∧ HisOK H1 := by
    intro k m hm q
    have en : v1_next (u1_states H (va_up (v1_states H) k U)) = m := hm
    rw [copy_eq _ hU, Option.bind_some]
    simp only [bnd]
    rw [en]
    by_cases c : (4 : Int32) ≤ m + 1
    · rw [if_pos c]
      exact rec_40 U (Or.inl rfl) hs (up_hm hU hh k)
    · rw [if_neg c]
      exact rec_40 U (q c) hs (up_hm hU hh k)
  unfold mf_X1_record
  rcases hn with e | e | e | e
  · rw [if_pos e]
    exact st 0 0 e fun _ => Or.inr (Or.inl (by decide))
  · rw [if_neg (by rw [e]; decide), if_pos e]
    exact st 1 1 e fun _ => Or.inr (Or.inr (Or.inl (by decide)))
  · rw [if_neg (by rw [e]; decide), if_neg (by rw [e]; decide), if_pos e]
    exact st 2 2 e fun _ => Or.inr (Or.inr (Or.inr (by decide)))
  · rw [if_neg (by rw [e]; decide), if_neg (by rw [e]; decide), if_neg (by rw [e]; decide), if_pos e]
    exact st 3 3 e fun q => absurd (show (4 : Int32) ≤ 3 + 1 by decide) q
def CarOK (t : Nat) (V : CarV) : Prop := NowOK (nI t) (v5_now V) ∧ HisOK (v5_history V)
def spI : List Int32 := [0, 1, 2, 3, 4, 5, 6, 7, 8, 9, 10, 11]
def peI : List Int32 := [0, 1, 2, 3, 4]
theorem now_hm {T : Int32} {S : St} (h : NowOK T S) : hmOK S := h.1.2.2.2.2.2.2.2.1
theorem cnt_max {t : Nat} {S : St} (ht : t ≤ 20000) (h : NowOK (nI t) S) {n : Nat} (hn : n ≤ 99) : v4_counts S 0 + nI n ≤ 99999 := by
  obtain ⟨h0, h1⟩ := h.2.1.1 0 (by omega)
  obtain ⟨c, hc, e⟩ := nI_of (Int32.not_lt.mpr h0)
  rw [e] at h1 ⊢
  have := (nI_leI hc (by omega)).mp h1
  rw [nI_add]
  exact nI_le (b := 99999) (by omega) (by omega)
theorem drive_eq {t n : Nat} {V : CarV} {i j : Int32} (hi : i ∈ spI) (hj : j ∈ peI) (hn1 : 1 ≤ n) (hn : n ≤ 99) (ht : t + n ≤ 20000) (hI : CarOK t V) : ∃ V1, mf_X5_drive V (mf_L_speed i) (mf_L_pedal j) (nI n) = some (nI (itC (mf_L_fast i) (mf_L_deep j) (v5_now V) n), V1) ∧ v5_now V1 = itS (mf_L_fast i) (mf_L_deep j) (v5_now V) n ∧ CarOK (t + n) V1 := by
  obtain ⟨s1, s2, s3⟩ := fp_of i hi
  obtain ⟨p1, p2, p3⟩ := fp_ofp j hj
  obtain ⟨H1, eH, oH⟩ := rec_ok hI.2 (now_hm hI.1)
  have et := ticks_eq (sp := mf_L_fast i) hI.1 p2 (by omega) ht
  have e1 : ¬ nI n < 1 := nI_nlt (b := 1) (by omega) (by omega)
  have e99 : nI n ≤ 99 := nI_le (b := 99) hn (by omega)
  have e0 : mf_X4_tick (v5_now V) = v4_counts (v5_now V) 0 := rfl
  unfold mf_X5_drive
  simp only [bnd]
  rw [s3, p3, e0, if_neg (by decide), if_neg (by decide), if_neg e1, if_pos e99, if_pos (cnt_max (by omega) hI.1 hn), eH, Option.bind_some, s1, Option.bind_some, p1, Option.bind_some]
  have en : v5_now (u5_history V H1) = v5_now V := rfl
  rw [en, et, Option.bind_some]
  exact ⟨_, rfl, rfl, it_ok hI.1 p2 n ht, oH⟩
theorem would_eq {t : Nat} {V : CarV} {i j : Int32} (hi : i ∈ spI) (hj : j ∈ peI) (ht : t ≤ 20000) (hI : CarOK t V) : ∃ V1, mf_X5_wouldChoose V (mf_L_speed i) (mf_L_pedal j) = some (if (nx (mf_L_fast i) (mf_L_deep j) (v5_now V)).1 = 0 then -5 else v4_target (nx (mf_L_fast i) (mf_L_deep j) (v5_now V)).2, V1) ∧ v5_now V1 = v5_now V ∧ v5_history V1 = v5_history V := by
  obtain ⟨s1, s2, s3⟩ := fp_of i hi
  obtain ⟨p1, p2, p3⟩ := fp_ofp j hj
  have ex := (nx_ok (sp := mf_L_fast i) ht hI.1 p2).1
  have en : v5_forecast (u5_forecast V (v5_now V)) = v5_now V := rfl
  unfold mf_X5_wouldChoose
  simp only [bnd]
  rw [s3, p3, if_neg (by decide), if_neg (by decide), copy_eq _ (now_hm hI.1), Option.bind_some, s1, Option.bind_some, p1, Option.bind_some, en, ex, Option.bind_some]
  by_cases q : (nx (mf_L_fast i) (mf_L_deep j) (v5_now V)).1 = 0
  · rw [if_pos q, if_pos q]
    exact ⟨_, rfl, rfl, rfl⟩
  · rw [if_neg q, if_neg q]
    exact ⟨_, rfl, rfl, rfl⟩
theorem itC_no {sp pe : UInt32} {S : St} {n : Nat} (h : ∀ k, k < n → itB sp pe S k = 0) : itC sp pe S n = 0 := by
  induction n with
  | zero => rfl
  | succ n ih =>
    show itC sp pe S n + (if itB sp pe S n = 0 then 0 else 1) = 0
    rw [ih fun k hk => h k (by omega), if_pos (h n (by omega))]
def SetR (sp pe : UInt32) (S : St) (x : Int32) : Prop := x = -5 ∨ ∃ L : Nat, L ≤ 200 ∧ x = nI L ∧ (L = 0 ∨ ¬ itB sp pe S (L - 1) = 0) ∧ ∀ k, L ≤ k → k < L + 100 → itB sp pe S k = 0
theorem set_97 {sp pe : UInt32} {S : St} {L : Nat} (hL : L < 1000) (h1 : L = 0 ∨ ¬ itB sp pe S (L - 1) = 0) (h2 : L ≤ 200 → ∀ k, L ≤ k → k < L + 100 → itB sp pe S k = 0) (W : CarV) : ∃ x, mf_X5_settles_B97 W (nI L) = some (x, W) ∧ SetR sp pe S x := by
  unfold mf_X5_settles_B97
  by_cases q : L ≤ 200
  · have q1 : nI L ≤ 200 := nI_le (b := 200) q (by omega)
    rw [if_pos q1]
    exact ⟨_, rfl, Or.inr ⟨L, q, rfl, h1, h2 q⟩⟩
  · have q1 : ¬ nI L ≤ 200 := nI_ge (a := 200) (by omega) (by omega)
    rw [if_neg q1]
    exact ⟨_, rfl, Or.inl rfl⟩
theorem set_lp {t : Nat} {S : St} {sp pe : UInt32} (hI : NowOK (nI t) S) (hp : pe ∈ FPd) (ht : t ≤ 15000) : ∀ (fu j L : Nat) (W : CarV), 301 < fu + j → j ≤ 300 → L ≤ j → (L = 0 ∨ ¬ itB sp pe S (L - 1) = 0) → (∀ k, L ≤ k → k < j → itB sp pe S k = 0) → v5_forecast W = itS sp pe S j → ∃ x W1, mf_X5_settles_B45 fu W sp pe (nI L) (nI (j + 1)) = some (x, W1) ∧ v5_now W1 = v5_now W ∧ v5_history W1 = v5_history W ∧ SetR sp pe S x := by
  intro fu
  induction fu with
  | zero => intro j L W h; omega
  | succ fu ih =>
    intro j L W hf hj hLj hL hk hW
    rw [mf_X5_settles_B45]
    have out : (L ≤ 200 → L + 100 ≤ j) → ∃ x W1, mf_X5_settles_B97 W (nI L) = some (x, W1) ∧ v5_now W1 = v5_now W ∧ v5_history W1 = v5_history W ∧ SetR sp pe S x := by
      intro q
      obtain ⟨x, e, r⟩ := set_97 (L := L) (by omega) hL (fun q2 k k1 k2 => hk k k1 (by have := q q2; omega)) W
      exact ⟨x, W, e, rfl, rfl, r⟩
    by_cases c1 : j = 300
    · have q1 : (300 : Int32) < nI (j + 1) := nI_lt (a := 300) (b := j + 1) (by omega) (by omega)
      rw [if_pos q1]
      exact out (by omega)
    · have q1 : ¬ (300 : Int32) < nI (j + 1) := nI_nlt (a := 300) (b := j + 1) (by omega) (by omega)
      rw [if_neg q1]
      have e100 : nI L + 100 = nI (L + 100) := by rw [show (100 : Int32) = nI 100 by decide, nI_add]
      rw [e100]
      by_cases c2 : L + 100 < j + 1
      · rw [if_pos (nI_lt c2 (by omega))]
        exact out (by omega)
      · rw [if_neg (nI_nlt (by omega) (by omega))]
        by_cases c3 : L ≤ 200
        · have ex := (nx_ok (sp := sp) (t := t + j) (by omega) (it_ok (sp := sp) hI hp j (by omega)) hp).1
          have q2 : nI L ≤ 200 := nI_le (b := 200) c3 (by omega)
          rw [if_pos q2, hW, ex, Option.bind_some]
          simp only [bnd]
          unfold mf_X5_settles_B91
          rw [nI_1]
          by_cases q : itB sp pe S j = 0
          · rw [if_pos (show (nx sp pe (itS sp pe S j)).1 = 0 from q)]
            exact ih (j + 1) L _ (by omega) (by omega) (by omega) hL (fun k k1 k2 => by
              by_cases kj : k = j
              · rw [kj]; exact q
              · exact hk k k1 (by omega)) rfl
          · rw [if_neg (show ¬ (nx sp pe (itS sp pe S j)).1 = 0 from q)]
            exact ih (j + 1) (j + 1) _ (by omega) (by omega) (by omega) (Or.inr q) (fun k k1 k2 => by omega) rfl
        · have q2 : ¬ nI L ≤ 200 := nI_ge (a := 200) (b := L) (by omega) (by omega)
          rw [if_neg q2]
          exact out (by omega)
theorem settles_eq {t : Nat} {V : CarV} {i j : Int32} (hi : i ∈ spI) (hj : j ∈ peI) (ht : t ≤ 15000) (hI : CarOK t V) : ∃ x V1, mf_X5_settles V (mf_L_speed i) (mf_L_pedal j) = some (x, V1) ∧ v5_now V1 = v5_now V ∧ v5_history V1 = v5_history V ∧ SetR (mf_L_fast i) (mf_L_deep j) (v5_now V) x := by
  obtain ⟨s1, s2, s3⟩ := fp_of i hi
  obtain ⟨p1, p2, p3⟩ := fp_ofp j hj
  obtain ⟨x, W1, e, h1, h2, h3⟩ := set_lp (sp := mf_L_fast i) hI.1 p2 ht 400 0 0 (u5_forecast V (v5_now V)) (by omega) (by omega) (by omega) (Or.inl rfl) (fun k k1 k2 => by omega) rfl
  have e1 : nI (0 + 1) = 1 := by decide
  rw [nI_0, e1] at e
  unfold mf_X5_settles
  simp only [bnd]
  rw [s3, p3, if_neg (by decide), if_neg (by decide), copy_eq _ (now_hm hI.1), Option.bind_some, s1, Option.bind_some, p1, Option.bind_some]
  exact ⟨x, W1, e, h1, h2, h3⟩
