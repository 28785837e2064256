/-! what holds between acts; the five that the law rests on -/
theorem n10 : ¬ (1 : Int32) = 0 := by decide
theorem bip {β : Type} {x e : Int32} (h : x = e) (A B : Int32 → β) : bnd x (fun r => if r = e then A r else B r) = A x := if_pos h
theorem bin {β : Type} {x e : Int32} (h : ¬ x = e) (A B : Int32 → β) : bnd x (fun r => if r = e then A r else B r) = B x := if_neg h
theorem bb {α β : Type} (x : α) (f : α → β) : bnd x f = f x := rfl
theorem sm_out (V : CarV) (g s : Int32) : mf_X5_setMap V g 4 s = some (-2, V) := by
  unfold mf_X5_setMap
  rw [if_neg (by decide), if_neg (by decide)]
theorem sm_no (V : CarV) {g w s : Int32} (h0 : ¬ w < 0) (h3 : w ≤ 3) (hh : mf_X3_has g w = 0) : mf_X5_setMap V g w s = some (-1, V) := by
  unfold mf_X5_setMap
  rw [if_neg h0, if_pos h3, hh, bip rfl]
theorem sm_sp (V : CarV) {g w s : Int32} (h0 : ¬ w < 0) (h3 : w ≤ 3) (hh : mf_X3_has g w = 1) (hs : mf_X5_isSpeed s = 0) : mf_X5_setMap V g w s = some (-2, V) := by
  unfold mf_X5_setMap
  rw [if_neg h0, if_pos h3, hh, hs, bin n10, bip rfl]
theorem sn_out (V : CarV) (v : Int32) : mf_X5_setNumber V 4 v = some (-1, V) := by
  unfold mf_X5_setNumber
  rw [if_neg (by decide), if_neg (by decide)]
theorem sn_no (V : CarV) {x v : Int32} (h0 : ¬ x < 0) (h3 : x ≤ 3) (h : mf_X4_allows (v5_now V) x v = 0) : mf_X5_setNumber V x v = some (-2, V) := by
  unfold mf_X5_setNumber
  rw [if_neg h0, if_pos h3, h, bip rfl]
theorem al_2 (S : St) : mf_X4_allows S 2 0 = 0 := by
  unfold mf_X4_allows
  rw [if_neg (by decide), if_neg (by decide), if_pos (by decide)]
theorem al_3 (S : St) : mf_X4_allows S 3 101 = 0 := by
  unfold mf_X4_allows
  rw [if_neg (by decide), if_neg (by decide), if_neg (by decide), if_pos (by decide)]
theorem al_0 (S : St) : mf_X4_allows S 0 21 = 0 := by
  unfold mf_X4_allows
  rw [if_pos rfl, if_neg (by decide), if_pos (by decide)]
theorem is_s0 : mf_X5_isSpeed 0 = 1 := by decide
theorem is_p0 : mf_X5_isPedal 0 = 1 := by decide
theorem is_s1 : mf_X5_isSpeed 1133903873 = 0 := by decide
theorem is_s2 : mf_X5_isSpeed (-2147483648) = 0 := by decide
theorem is_s3 : mf_X5_isSpeed 2143289344 = 0 := by decide
theorem is_p1 : mf_X5_isPedal 1065353217 = 0 := by decide
theorem is_p2 : mf_X5_isPedal (-2147483648) = 0 := by decide
theorem dr_t (V : CarV) {n : Int32} (h : n < 1 ∨ ¬ n ≤ 99) : mf_X5_drive V 0 0 n = some (-2, V) := by
  unfold mf_X5_drive
  rw [is_s0, is_p0, bin n10, bin n10]
  by_cases q : n < 1
  · rw [if_pos q]
  · rw [if_neg q]
    rcases h with h | h
    · exact absurd h q
    · rw [if_neg h]
theorem dr_p (V : CarV) (n : Int32) : mf_X5_drive V 0 1065353217 n = some (-2, V) := by
  unfold mf_X5_drive
  rw [is_s0, is_p1, bin n10, bip rfl]
theorem wo_s (V : CarV) (p : Int32) : mf_X5_wouldChoose V 1133903873 p = some (-2, V) := by
  unfold mf_X5_wouldChoose
  rw [is_s1, bip rfl]
theorem se_p (V : CarV) : mf_X5_settles V 0 (-2147483648) = some (-2, V) := by
  unfold mf_X5_settles
  rw [is_s0, is_p2, bin n10, bip rfl]
theorem h_50 : mf_X3_has 5 0 = 0 := by decide
theorem h_10 : mf_X3_has 1 0 = 1 := by decide
theorem nan_1 : mf_L_isNone mf_X5_notANumber = 1 := by decide +kernel
theorem mp_n (V : CarV) : mf_L_isNone (mf_X5_map V 5 0) = 1 := by
  unfold mf_X5_map
  rw [h_50, bip rfl]
  exact nan_1
theorem bo_1 (V : CarV) : mf_X5_border V 5 0 1 = some mf_X5_notANumber := by
  unfold mf_X5_border
  rw [h_50, bip rfl]
  rfl
theorem bo_2 (V : CarV) : mf_X5_border V 1 1065353217 1 = some mf_X5_notANumber := by
  unfold mf_X5_border
  rw [h_10, is_p1, bin n10, bip rfl]
  rfl
theorem nu_4 (V : CarV) : mf_X5_number V 4 = -1 := by
  unfold mf_X5_number mf_X4_setting
  rw [if_neg (by decide), if_pos (by decide)]
  rfl
theorem stq {β : Type} {f : Option (Int32 × CarV)} {r e : Int32} {V : CarV} (hf : f = some (r, V)) (hr : r = e) {A B : Int32 × CarV → Option β} : (Option.bind f (fun q => if q.1 = e then A q else B q)) = A (r, V) := by
  subst hf
  rw [Option.bind_some]
  exact if_pos hr
theorem e_end {V : CarV} (hH : HisOK (v5_history V)) : ∃ V1, (bnd (mf_X5_map V (5 : Int32) (0 : Int32)) (fun r_90 => (bnd (mf_L_isNone r_90) (fun r_92 => (if r_92 = 0 then (mf_L_errors_B255 V) else (Option.bind (mf_X5_border V (5 : Int32) (0 : Int32) (1 : Int32)) (fun r_95 => (bnd (mf_L_isNone r_95) (fun r_97 => (if r_97 = 0 then (mf_L_errors_B255 V) else (Option.bind (mf_X5_border V (1 : Int32) (1065353217 : Int32) (1 : Int32)) (fun r_100 => (bnd (mf_L_isNone r_100) (fun r_102 => (if r_102 = 0 then (mf_L_errors_B255 V) else (bnd (mf_X5_number V (4 : Int32)) (fun r_105 => (if r_105 = (-1 : Int32) then (bnd (mf_X5_count V (15 : Int32)) (fun r_108 => (if r_108 = (-2 : Int32) then (mf_L_errors_B256 V (1 : Int32)) else (mf_L_errors_B255 V)))) else (mf_L_errors_B255 V))))))))))))))))))) = some (1, V1) := by
  obtain ⟨V1, e⟩ := e256 hH
  refine ⟨V1, ?_⟩
  rw [bb (mf_X5_map V 5 0), mp_n, bin n10, bo_1, Option.bind_some, nan_1, bin n10, bo_2, Option.bind_some, nan_1, bin n10, nu_4, bip rfl, cnt_15, bip rfl]
  exact e
theorem P_errors0 {V : CarV} (hH : HisOK (v5_history V)) : ∃ V1, mf_L_errors V = some (1, V1) := by
  obtain ⟨V1, e⟩ := e_end hH
  refine ⟨V1, ?_⟩
  unfold mf_L_errors
  rw [stq (sm_out V 0 0) rfl]
  rw [stq (sm_no V (g := 0) (w := 0) (s := 0) (by decide) (by decide) (by decide)) rfl]
  rw [stq (sm_no V (g := 5) (w := 2) (s := 0) (by decide) (by decide) (by decide)) rfl]
  rw [stq (sm_no V (g := 6) (w := 3) (s := 0) (by decide) (by decide) (by decide)) rfl]
  rw [stq (sm_sp V (g := 1) (w := 0) (by decide) (by decide) h_10 is_s2) rfl]
  rw [stq (sm_sp V (g := 1) (w := 0) (by decide) (by decide) h_10 is_s1) rfl]
  rw [stq (sm_sp V (g := 1) (w := 0) (by decide) (by decide) h_10 is_s3) rfl]
  rw [stq (sn_out V 1) rfl]
  rw [stq (sn_no V (x := 2) (v := 0) (by decide) (by decide) (al_2 _)) rfl]
  rw [stq (sn_no V (x := 3) (v := 101) (by decide) (by decide) (al_3 _)) rfl]
  rw [stq (sn_no V (x := 0) (v := 21) (by decide) (by decide) (al_0 _)) rfl]
  rw [stq (dr_t V (n := 0) (Or.inl (by decide))) rfl]
  rw [stq (dr_t V (n := 100) (Or.inr (by decide))) rfl]
  rw [stq (dr_p V 1) rfl]
  rw [stq (wo_s V 0) rfl]
  rw [stq (se_p V) rfl]
  exact e
def Inv (T : Nat) (V : CarV) : Prop := CarOK T V
theorem P_acts (g h : Int32) {T : Nat} {V : CarV} (hI : Inv T V) (hT : T ≤ 12000) : ∃ V1, mf_L_acts V g h = some (1, V1) ∧ Inv (T + 200) V1 := by
  obtain ⟨V1, d, e, h1, h2⟩ := P_acts0 g h (V := V) hI (by omega)
  exact ⟨V1, e, car_mono h1 (by omega) (by omega)⟩
theorem P_told {T : Nat} {V : CarV} (hI : Inv T V) (hT : T ≤ 12000) : mf_L_told V = some 1 := P_told0 V (show NowOK (nI T) (v5_now V) from hI.1)
theorem P_errors {T : Nat} {V : CarV} (hI : Inv T V) (hT : T ≤ 12000) : ∃ V1, mf_L_errors V = some (1, V1) := P_errors0 (show HisOK (v5_history V) from hI.2)
