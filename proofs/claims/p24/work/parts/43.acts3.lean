/-! acts: numbers, by hand, shifts, drives -/
def AlP (S : St) (r : Nat) (v : Int32) : Prop := (r = 0 ∧ (2 ≤ v ∧ v ≤ 20) ∧ ¬ v ≤ v4_settings S 1) ∨ (r = 1 ∧ 0 ≤ v ∧ ¬ v4_settings S 0 ≤ v) ∨ ((r = 2 ∨ r = 3) ∧ (1 ≤ v ∧ v ≤ 100))
theorem upd_at (f : Nat → Int32) (k : Nat) (v : Int32) : upd f k v k = v := by
  unfold upd
  exact if_pos rfl
theorem upd_no (f : Nat → Int32) {k i : Nat} (v : Int32) (h : i ≠ k) : upd f k v i = f i := by
  unfold upd
  exact if_neg h
theorem now_set {T : Int32} {S : St} {r : Nat} {v : Int32} (hI : NowOK T S) (ha : AlP S r v) (ht0 : 2 ≤ r ∨ v4_target S = 0) : NowOK T (u4_settings S (upd (v4_settings S) r v)) := by
  obtain ⟨⟨hg, ht, hn, hl, h2, h3, hh, hd, hv⟩, hC, hL, hz⟩ := hI
  have hs : ∀ i, v4_settings (u4_settings S (upd (v4_settings S) r v)) i = upd (v4_settings S) r v i := fun _ => rfl
  rcases ha with ⟨rfl, hb, hc⟩ | ⟨rfl, hb, hc⟩ | ⟨hr, hb⟩
  · have t0 : v4_target S = 0 := by
      rcases ht0 with h | h
      · omega
      · exact h
    refine ⟨⟨hg, Or.inl t0, ?_, ?_, ?_, ?_, hh, hd, hv⟩, hC, hL, hz⟩
    · rw [hs, upd_at]; exact hb
    · rw [hs, hs, upd_at, upd_no _ _ (by omega)]; exact ⟨hl.1, Int32.not_le.mp hc⟩
    · rw [hs, upd_no _ _ (by omega)]; exact h2
    · rw [hs, upd_no _ _ (by omega)]; exact h3
  · have t0 : v4_target S = 0 := by
      rcases ht0 with h | h
      · omega
      · exact h
    refine ⟨⟨hg, Or.inl t0, ?_, ?_, ?_, ?_, hh, hd, hv⟩, hC, hL, hz⟩
    · rw [hs, upd_no _ _ (by omega)]; exact hn
    · rw [hs, hs, upd_at, upd_no _ _ (by omega)]; exact ⟨hb, Int32.not_le.mp hc⟩
    · rw [hs, upd_no _ _ (by omega)]; exact h2
    · rw [hs, upd_no _ _ (by omega)]; exact h3
  · refine ⟨⟨hg, ?_, ?_, ?_, ?_, ?_, hh, hd, hv⟩, hC, hL, hz⟩
    · rw [hs, upd_no _ _ (by omega)]; exact ht
    · rw [hs, upd_no _ _ (by omega)]; exact hn
    · rw [hs, hs, upd_no _ _ (by omega), upd_no _ _ (by omega)]; exact hl
    · rcases hr with rfl | rfl
      · rw [hs, upd_at]; exact hb
      · rw [hs, upd_no _ _ (by omega)]; exact h2
    · rcases hr with rfl | rfl
      · rw [hs, upd_no _ _ (by omega)]; exact h3
      · rw [hs, upd_at]; exact hb
theorem setg_at (S : St) {r : Nat} (hr : r < 4) : mf_X4_setting S (nI r) = v4_settings S r := by
  have q : ¬ (4 : Int32) ≤ nI r := nI_ge (b := 4) hr (by omega)
  unfold mf_X4_setting
  rw [if_neg (nI_pos (by omega)), if_neg q, nI_clamp (by omega)]
theorem puts_at (S : St) {r : Nat} (hr : r < 4) (v : Int32) : mf_X4_putSetting S (nI r) v = u4_settings S (upd (v4_settings S) r v) := by
  have q : ¬ (4 : Int32) ≤ nI r := nI_ge (b := 4) hr (by omega)
  unfold mf_X4_putSetting
  rw [if_neg (nI_pos (by omega)), if_neg q, nI_clamp (by omega)]
  rfl
theorem i32_r {r : Nat} (hr : r < 4) : ¬ nI r < 0 ∧ nI r ≤ 3 := i32_b hr
theorem sn_bad {V : CarV} {r : Nat} {v : Int32} (hr : r < 4) (h : mf_X4_allows (v5_now V) (nI r) v = 0) : mf_X5_setNumber V (nI r) v = some (-2, V) := by
  unfold mf_X5_setNumber
  simp only [bnd]
  rw [if_neg (i32_r hr).1, if_pos (i32_r hr).2, if_pos h]
theorem sn_chg {V : CarV} {r : Nat} {v : Int32} (hr : r < 2) (h : mf_X4_allows (v5_now V) (nI r) v = 1) (ht : ¬ v4_target (v5_now V) = 0) : mf_X5_setNumber V (nI r) v = some (-4, V) := by
  have q : ¬ (1 : Int32) < nI r := nI_nlt (a := 1) (by omega) (by omega)
  have e : mf_X4_isChanging (v5_now V) = 1 := if_neg ht
  unfold mf_X5_setNumber
  simp only [bnd]
  rw [if_neg (i32_r (by omega)).1, if_pos (i32_r (by omega)).2, h, if_neg (by decide), if_neg q, e]
  exact if_neg (by decide)
theorem sn_ok {V : CarV} {r : Nat} {v : Int32} (hr : r < 4) (h : mf_X4_allows (v5_now V) (nI r) v = 1) (ht : 2 ≤ r ∨ v4_target (v5_now V) = 0) : mf_X5_setNumber V (nI r) v = mf_X5_setNumber_B44 V (nI r) v := by
  unfold mf_X5_setNumber
  simp only [bnd]
  rw [if_neg (i32_r hr).1, if_pos (i32_r hr).2, h, if_neg (by decide)]
  by_cases q : 2 ≤ r
  · have q1 : (1 : Int32) < nI r := nI_lt (a := 1) (by omega) (by omega)
    rw [if_pos q1]
  · have q1 : ¬ (1 : Int32) < nI r := nI_nlt (a := 1) (by omega) (by omega)
    have t0 : v4_target (v5_now V) = 0 := by
      rcases ht with h | h
      · omega
      · exact h
    have e : mf_X4_isChanging (v5_now V) = 0 := if_pos t0
    rw [if_neg q1, e]
    exact if_pos rfl
theorem b303_bad {V : CarV} {r : Nat} {v was y : Int32} (hr : r < 4) (h : mf_X4_allows (v5_now V) (nI r) v = 0) : mf_L_acts_B303 V (nI r) v was 1 y = some (1, V) := by
  unfold mf_L_acts_B303
  rw [sn_bad hr h, Option.bind_some, if_neg (by decide)]
  exact if_pos rfl
theorem b303_chg {V : CarV} {r : Nat} {v was : Int32} (hr : r < 2) (h : mf_X4_allows (v5_now V) (nI r) v = 1) (ht : ¬ v4_target (v5_now V) = 0) : mf_L_acts_B303 V (nI r) v was 0 1 = some (1, V) := by
  unfold mf_L_acts_B303
  rw [sn_chg hr h ht, Option.bind_some, if_pos rfl, if_neg (by decide)]
  exact if_pos rfl
theorem b303_ok {t : Nat} {V : CarV} {r : Nat} {v was : Int32} (hI : CarOK t V) (hr : r < 4) (h : mf_X4_allows (v5_now V) (nI r) v = 1) (ha : AlP (v5_now V) r v) (ht : 2 ≤ r ∨ v4_target (v5_now V) = 0) (hw : was = v4_settings (v5_now V) r) : ∃ V1, mf_L_acts_B303 V (nI r) v was 0 0 = some (1, V1) ∧ CarOK t V1 := by
  obtain ⟨H1, eH, oH⟩ := rec_ok hI.2 (now_hm hI.1)
  have eV : ∀ H, v5_now (u5_history V H) = v5_now V := fun _ => rfl
  unfold mf_L_acts_B303
  rw [sn_ok hr h ht]
  unfold mf_X5_setNumber_B44
  simp only [bnd]
  rw [setg_at _ hr, ← hw, eH]
  by_cases q : was = v
  · refine ⟨V, ?_, hI⟩
    rw [if_pos q, Option.bind_some, if_pos trivial, if_pos trivial, if_pos q]
    exact if_pos rfl
  · rw [if_neg q, Option.bind_some, eV, puts_at _ hr, Option.bind_some, if_pos trivial, if_pos trivial, if_neg q]
    refine ⟨_, if_pos rfl, now_set hI.1 ha ht, oH⟩
theorem num_at (V : CarV) {r : Nat} (hr : r < 4) : mf_X5_number V (nI r) = v4_settings (v5_now V) r := setg_at _ hr
theorem car1_no {V : CarV} (h : v4_target (v5_now V) = 0) : mf_X5_car V 1 = -5 := by rw [car_1, if_pos h]
theorem car1_ch {t : Nat} {V : CarV} (hI : CarOK t V) (h : ¬ v4_target (v5_now V) = 0) : ¬ mf_X5_car V 1 = -5 := by
  rw [car_1, if_neg h]
  rcases hI.1.1.2.1 with q | ⟨-, q, -⟩
  · exact absurd q h
  · exact i32_m5 q
theorem b281_lo {t : Nat} {V : CarV} {r : Nat} {v was bad : Int32} (hI : CarOK t V) (hr : r < 2) (hw : was = v4_settings (v5_now V) r) (h : (bad = 1 ∧ mf_X4_allows (v5_now V) (nI r) v = 0) ∨ (bad = 0 ∧ mf_X4_allows (v5_now V) (nI r) v = 1 ∧ AlP (v5_now V) r v)) : ∃ V1, mf_L_acts_B281 V (nI r) v was bad = some (1, V1) ∧ CarOK t V1 := by
  have q : ¬ (2 : Int32) ≤ nI r := nI_ge (b := 2) hr (by omega)
  unfold mf_L_acts_B281 mf_L_acts_B302
  simp only [bnd]
  rw [if_neg q]
  by_cases ht : v4_target (v5_now V) = 0
  · rw [if_pos (car1_no ht)]
    rcases h with ⟨rfl, h⟩ | ⟨rfl, h, ha⟩
    · exact ⟨V, b303_bad (by omega) h, hI⟩
    · exact b303_ok hI (by omega) h ha (Or.inr ht) hw
  · rw [if_neg (car1_ch hI ht)]
    rcases h with ⟨rfl, h⟩ | ⟨rfl, h, ha⟩
    · exact ⟨V, b303_bad (by omega) h, hI⟩
    · exact ⟨V, b303_chg hr h ht, hI⟩
theorem acts_1a {t : Nat} {V : CarV} {v : Int32} (hI : CarOK t V) (hv : 2 ≤ v ∧ v ≤ 20) : ∃ V1, mf_L_acts_B238 V (nI 0) v = some (1, V1) ∧ CarOK t V1 := by
  have al : mf_X4_allows (v5_now V) (nI 0) v = if v ≤ v4_settings (v5_now V) 1 then 0 else 1 := by
    unfold mf_X4_allows
    simp only [bnd]
    rw [if_pos nI_0, if_neg (Int32.not_lt.mpr hv.1), if_neg (Int32.not_lt.mpr hv.2), set_1]
  unfold mf_L_acts_B238 mf_L_acts_B276
  simp only [bnd]
  rw [num_at V (by omega), num_1, if_pos nI_0]
  by_cases q : v ≤ v4_settings (v5_now V) 1
  · rw [if_pos q] at al ⊢
    exact b281_lo hI (by omega) rfl (Or.inl ⟨rfl, al⟩)
  · rw [if_neg q] at al ⊢
    unfold mf_L_acts_B261 mf_L_acts_B280
    rw [if_neg (by decide)]
    exact b281_lo hI (by omega) rfl (Or.inr ⟨rfl, al, Or.inl ⟨rfl, hv, q⟩⟩)
theorem acts_1b {t : Nat} {V : CarV} {v : Int32} (hI : CarOK t V) (hv : 0 ≤ v) : ∃ V1, mf_L_acts_B238 V (nI 1) v = some (1, V1) ∧ CarOK t V1 := by
  have al : mf_X4_allows (v5_now V) (nI 1) v = if v4_settings (v5_now V) 0 ≤ v then 0 else 1 := by
    have e1 : nI 1 = 1 := by decide
    unfold mf_X4_allows
    simp only [bnd]
    rw [if_neg (by decide), if_pos e1, if_neg (Int32.not_lt.mpr hv), set_0]
  have e1 : nI 1 = 1 := by decide
  unfold mf_L_acts_B238 mf_L_acts_B261 mf_L_acts_B276 mf_L_acts_B280
  simp only [bnd]
  rw [num_at V (by omega), num_0, if_neg (by decide), if_pos e1]
  by_cases q : v < v4_settings (v5_now V) 0
  · have q2 : ¬ v4_settings (v5_now V) 0 ≤ v := Int32.not_le.mpr q
    rw [if_neg q2] at al
    rw [if_pos q]
    exact b281_lo hI (by omega) rfl (Or.inr ⟨rfl, al, Or.inr (Or.inl ⟨rfl, hv, q2⟩)⟩)
  · rw [if_pos (Int32.not_lt.mp q)] at al
    rw [if_neg q]
    exact b281_lo hI (by omega) rfl (Or.inl ⟨rfl, al⟩)
theorem acts_1c {t : Nat} {V : CarV} {r : Nat} {v : Int32} (hI : CarOK t V) (hr : r = 2 ∨ r = 3) (hv : 1 ≤ v ∧ v ≤ 100) : ∃ V1, mf_L_acts_B238 V (nI r) v = some (1, V1) ∧ CarOK t V1 := by
  have al : mf_X4_allows (v5_now V) (nI r) v = 1 := by
    unfold mf_X4_allows
    rcases hr with rfl | rfl
    · rw [if_neg (by decide), if_neg (by decide), if_neg (Int32.not_lt.mpr hv.1), if_neg (Int32.not_lt.mpr hv.2)]
    · rw [if_neg (by decide), if_neg (by decide), if_neg (Int32.not_lt.mpr hv.1), if_neg (Int32.not_lt.mpr hv.2)]
  have q : (2 : Int32) ≤ nI r := nI_le (a := 2) (by omega) (by omega)
  unfold mf_L_acts_B238 mf_L_acts_B261 mf_L_acts_B276 mf_L_acts_B280 mf_L_acts_B281 mf_L_acts_B302
  simp only [bnd]
  have n0 : ¬ nI r = 0 := nI_ne0 (by omega) (by omega)
  have n1 : ¬ nI r = 1 := fun e => by
    have := (nI_eq (a := r) (b := 1) (by omega) (by omega)).mp e
    omega
  rw [num_at V (by omega), if_neg n0, if_neg n1, if_pos q]
  exact b303_ok hI (by omega) al (Or.inr (Or.inr ⟨hr, hv⟩)) (Or.inl (by omega)) rfl
