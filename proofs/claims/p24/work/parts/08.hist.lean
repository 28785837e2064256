set_option maxHeartbeats 4000000 in
set_option maxRecDepth 100000 in
theorem k_X1_size (l : Launch) (D : va_G) (Y : Nat → ClassId) (ad : Nat → Nat) (V : HiV) (R : Int32) (hr : R = mf_X1_size V) : Met l yX1_size wsX1_size ({ frames := 0, cells := 0, slots := 0, locals := 0 } : Room) (va_Pc [.ref (ad 22)] (PR D Y (hiW Y ad V))) (vp_Si (fun x => x = R)) 0 0 (fun _ => False) := by
  refine Met.ofW (cc := cX1_size) (maxL := 1) (ret := (some .int)) (by decide) rfl ?_
  intro p e s m args below meth c s₁ B hml hv
  obtain ⟨rfl, hP, hK, hN, hZ⟩ := hv
  have hx := B.exec
  have hb := B.bytes
  have hrt := B.returns
  have hts := atoms_spec (ws := wsX1_size) B.pre
  have hown : s.vm.findClass RX1 = some m.cls := findClass_of_methodNamed B.named
  have hlocks := B.notSynchronized
  have inX1 : ∀ w ∈ u_ws RX1 TX1 3, w ∈ wsX1_size := uin_at 2 rfl
  have hS : va_S (fun _ => False) s.heap s.heap [] := va_S.rf
  have hl := lv_entry ([.ref (ad 22)]) (n := 1) (Nat.le_of_ble_eq_true rfl)
  rw [lg_entry_eq]
  generalize (lg_sl ([.ref (ad 22)]) ++ List.replicate (1 - (lg_sl ([.ref (ad 22)])).length) Slot.unset).toArray = ls at hl ⊢
  have hl : lv_has ls 1 [(0, .ref (ad 22))] := hl
  rw [mf_X1_size] at hr
  refine lv_aload_n hx hb dX1_size_0 rfl (lv_at hl 0 rfl) ?_
  refine va_get (D := D) (ci := 1) (v := .int (v1_size V)) (C := RX1) (T := TX1) (N := 3) hx hb hts inX1 hown hK hP 0 rfl rfl 2 (by decide) (hts (.fieldLink RX1 19 "ShiftMaps$History" "size" "I") (List.mem_of_getElem? (i := 1) rfl)) (fun _ h9 => h9) rfl dX1_size_1 ?_
  subst hr
  exact W.iret hx hb hrt (fun t ht hW => ⟨_, rfl, rfl, ht⟩) (fun q hq => absurd hq List.not_mem_nil) dX1_size_4

theorem hrow_hi (ad : Nat → Nat) {x : Int32} (h0 : ¬ x < 0) (h1 : ¬ (4 : Int32) ≤ x) : hiR ad x.toNatClampNeg = hrow ad x := by
  obtain ⟨j, hj, rfl⟩ := vp_in_of (in_of (n := 4) (y := 4) rfl (by decide) h0 h1) (by decide)
  rw [nI_clamp (by omega)]
  match j, hj with
  | 0, _ => rfl
  | 1, _ => rfl
  | 2, _ => rfl
  | 3, _ => rfl
theorem hrow_no (ad : Nat → Nat) {x : Int32} (h : x < 0 ∨ (4 : Int32) ≤ x) : hrow ad x = none := by
  unfold hrow
  rcases h with h | h
  · rw [if_neg (fun q => by subst q; exact absurd h (by decide)), if_neg (fun q => by subst q; exact absurd h (by decide)), if_neg (fun q => by subst q; exact absurd h (by decide)), if_neg (fun q => by subst q; exact absurd h (by decide))]
  · rw [if_neg (fun q => by subst q; exact absurd h (by decide)), if_neg (fun q => by subst q; exact absurd h (by decide)), if_neg (fun q => by subst q; exact absurd h (by decide)), if_neg (fun q => by subst q; exact absurd h (by decide))]
set_option maxHeartbeats 4000000 in
set_option maxRecDepth 100000 in
theorem k_X1_rowAt (l : Launch) (D : va_G) (Y : Nat → ClassId) (ad : Nat → Nat) (V : HiV) (x1 : Int32) : Met l yX1_rowAt wsX1_rowAt ({ frames := 0, cells := 0, slots := 0, locals := 0 } : Room) (va_Pc [.ref (ad 22), .int x1] (PR D Y (hiW Y ad V))) (va_Sq (fun x => x = hrow ad x1)) 0 0 (fun _ => False) := by
  refine Met.ofW (cc := cX1_rowAt) (maxL := 2) (ret := (some (.object "ShiftMaps$State"))) (by decide) rfl ?_
  intro p e s m args below meth c s₁ B hml hv
  obtain ⟨rfl, hP, hK, hN, hZ⟩ := hv
  have hx := B.exec
  have hb := B.bytes
  have hrt := B.returns
  have hts := atoms_spec (ws := wsX1_rowAt) B.pre
  have hown : s.vm.findClass RX1 = some m.cls := findClass_of_methodNamed B.named
  have hlocks := B.notSynchronized
  have inX1 : ∀ w ∈ u_ws RX1 TX1 3, w ∈ wsX1_rowAt := uin_at 2 rfl
  have hl := lv_entry ([.ref (ad 22), .int x1]) (n := 2) (Nat.le_of_ble_eq_true rfl)
  rw [lg_entry_eq]
  generalize (lg_sl ([.ref (ad 22), .int x1]) ++ List.replicate (2 - (lg_sl ([.ref (ad 22), .int x1])).length) Slot.unset).toArray = ls at hl ⊢
  have hl : lv_has ls 2 [(0, .ref (ad 22)), (1, .int x1)] := hl
  refine lv_iload_n hx hb dX1_rowAt_0 rfl (lv_at hl 1 rfl) ?_
  refine lv_if_lt (tgt := 22) hx hb dX1_rowAt_1 (by decide) (fun c_1 => ?_) (fun c_1 => ?_)
  · refine lv_null hx hb dX1_rowAt_22 ?_
    exact W.aret hx hb hrt (Or.inl ⟨_, rfl⟩) (Or.inl rfl) (fun t ht hW => ⟨none, rfl, (hrow_no ad (Or.inl c_1)).symm, ht⟩) (fun q hq => absurd hq List.not_mem_nil) dX1_rowAt_23
  · refine lv_iload_n hx hb dX1_rowAt_4 rfl (lv_at hl 1 rfl) ?_
    refine lv_aload_n hx hb dX1_rowAt_5 rfl (lv_at hl 0 rfl) ?_
    refine va_get (D := D) (ci := 1) (v := .ref (ad 23)) (C := RX1) (T := TX1) (N := 3) hx hb hts inX1 hown hK hP 0 rfl rfl 0 (by decide) (hts (.fieldLink RX1 11 "ShiftMaps$History" "states" "[LShiftMaps$State;") (List.mem_of_getElem? (i := 1) rfl)) (fun _ h9 => h9) rfl dX1_rowAt_6 ?_
    refine va_alen (D := D) (v := (4 : Int32)) hx hb hK hP 1 3 rfl rfl rfl dX1_rowAt_9 ?_
    refine lv_icmp_ge (tgt := 22) hx hb dX1_rowAt_10 (by decide) (fun c_2 => ?_) (fun c_2 => ?_)
    · refine lv_null hx hb dX1_rowAt_22 ?_
      exact W.aret hx hb hrt (Or.inl ⟨_, rfl⟩) (Or.inl rfl) (fun t ht hW => ⟨none, rfl, (hrow_no ad (Or.inr c_2)).symm, ht⟩) (fun q hq => absurd hq List.not_mem_nil) dX1_rowAt_23
    · refine lv_aload_n hx hb dX1_rowAt_13 rfl (lv_at hl 0 rfl) ?_
      refine va_get (D := D) (ci := 1) (v := .ref (ad 23)) (C := RX1) (T := TX1) (N := 3) hx hb hts inX1 hown hK hP 0 rfl rfl 0 (by decide) (hts (.fieldLink RX1 11 "ShiftMaps$History" "states" "[LShiftMaps$State;") (List.mem_of_getElem? (i := 1) rfl)) (fun _ h9 => h9) rfl dX1_rowAt_14 ?_
      refine lv_iload_n hx hb dX1_rowAt_17 rfl (lv_at hl 1 rfl) ?_
      refine va_aldq (D := D) hx hb hK hP 1 3 rfl rfl (in_of (y := (4 : Int32)) rfl (by decide) c_1 c_2) dX1_rowAt_18 ?_
      refine lv_goto (tgt := 23) hx hb dX1_rowAt_19 (by decide) ?_
      rw [hrow_hi ad c_1 c_2]
      refine W.aret hx hb hrt (Or.inl ⟨_, rfl⟩) ?_ (fun t ht hW => ⟨_, rfl, rfl, ht⟩) (fun q hq => absurd hq List.not_mem_nil) dX1_rowAt_23
      cases hrow ad x1 with
      | none => exact Or.inl rfl
      | some a => exact Or.inr ⟨a, rfl⟩

set_option maxHeartbeats 4000000 in
set_option maxRecDepth 100000 in
theorem k_X1_record (l : Launch) (D : va_G) (Y : Nat → ClassId) (ad : Nat → Nat) (b0 b1 b2 b3 b4 b5 b6 : Nat) (V : HiV) (U : St) (R : HiV) (hr : some R = mf_X1_record V U) : Met l yX1_record wsX1_record ({ frames := 3, cells := 0, slots := 0, locals := 102 } : Room) (va_Pc [.ref (ad 22), .ref b0] (PW D Y ((hiW Y ad V) ++ (stW Y b0 b1 b2 b3 b4 b5 b6 U)))) (va_Qv (S := Unit) (fun _ => True) (fun _ t => va_P D vwCl ((hiW Y ad R) ++ (stW Y b0 b1 b2 b3 b4 b5 b6 U)) t.heap) (wA ((hiW Y ad V) ++ (stW Y b0 b1 b2 b3 b4 b5 b6 U)))) 0 0 (wA ((hiW Y ad V) ++ (stW Y b0 b1 b2 b3 b4 b5 b6 U))) := by
  refine Met.ofW (cc := cX1_record) (maxL := 3) (ret := none) (by decide) rfl ?_
  intro p e s m args below meth c s₁ B hml hv
  obtain ⟨rfl, hP, hK, hN, hZ, hD⟩ := hv
  have hx := B.exec
  have hb := B.bytes
  have hrt := B.returns
  have hts := atoms_spec (ws := wsX1_record) B.pre
  have hown : s.vm.findClass RX1 = some m.cls := findClass_of_methodNamed B.named
  have hlocks := B.notSynchronized
  have inX1 : ∀ w ∈ u_ws RX1 TX1 3, w ∈ wsX1_record := uin_at 49 rfl
  generalize hAe : wA ((hiW Y ad V) ++ (stW Y b0 b1 b2 b3 b4 b5 b6 U)) = A at hZ hD ⊢
  have hS : va_S A s.heap s.heap [] := va_S.rf
  have hl := lv_entry ([.ref (ad 22), .ref b0]) (n := 3) (Nat.le_of_ble_eq_true rfl)
  rw [lg_entry_eq]
  generalize (lg_sl ([.ref (ad 22), .ref b0]) ++ List.replicate (3 - (lg_sl ([.ref (ad 22), .ref b0])).length) Slot.unset).toArray = ls at hl ⊢
  have hl : lv_has ls 3 [(0, .ref (ad 22)), (1, .ref b0)] := hl
  have B40 : ∀ (W0 : HiV) (y0 : Int32) (H : Heap) (locs : List Loc) (ls : Array Slot), some R = mf_X1_record_B40 U W0 y0 → va_P D vwCl ((hiW Y ad W0) ++ (stW Y b0 b1 b2 b3 b4 b5 b6 U)) H → va_D A ((hiW Y ad W0) ++ (stW Y b0 b1 b2 b3 b4 b5 b6 U)) → va_S A s.heap H locs → lv_has ls 3 [(0, .ref (ad 22))] → W p l e ({ frames := 3, cells := 0, slots := 0, locals := 102 } : Room) s m ([.ref (ad 22), .ref b0] : List Value).toArray below meth c H locs 0 0 (MQ below (va_Qv (S := Unit) (fun _ => True) (fun _ t => va_P D vwCl ((hiW Y ad R) ++ (stW Y b0 b1 b2 b3 b4 b5 b6 U)) t.heap) A) ([.ref (ad 22), .ref b0] : List Value).toArray s 0 0 A) (F0 m 40 ls [.int y0, .ref (ad 22)]) := by
    intro W0 y0 H locs ls hr hP hD hS hl
    rw [mf_X1_record_B40] at hr
    refine va_put (D := D) (ci := 1) (v := .int y0) (ty := .int) (C := RX1) (T := TX1) (N := 3) hx hb hts inX1 tyX1 tyX1_ok nmX1 hown hK hP hD hS 0 rfl rfl 1 (by decide) (hts (.fieldLink RX1 15 "ShiftMaps$History" "next" "I") (List.mem_of_getElem? (i := 1) rfl)) (fun _ h9 => h9) rfl (by decide +kernel) rfl rfl (Nat.le_of_ble_eq_true rfl) dX1_record_40 (fun H locs hP hD hS => ?_)
    refine nmv hr (fun V_12 e_13 hr => ?_)
    have hP : va_P D vwCl ((hiW Y ad V_12) ++ (stW Y b0 b1 b2 b3 b4 b5 b6 U)) H := by rw [e_13]; exact hP
    have hD : va_D A ((hiW Y ad V_12) ++ (stW Y b0 b1 b2 b3 b4 b5 b6 U)) := va_D_adr hD rfl
    refine lv_aload_n hx hb dX1_record_43 rfl (lv_at hl 0 rfl) ?_
    refine lv_aload_n hx hb dX1_record_44 rfl (lv_at hl 0 rfl) ?_
    refine va_get (D := D) (ci := 1) (v := .int (v1_size V_12)) (C := RX1) (T := TX1) (N := 3) hx hb hts inX1 hown hK hP 0 rfl rfl 2 (by decide) (hts (.fieldLink RX1 19 "ShiftMaps$History" "size" "I") (List.mem_of_getElem? (i := 2) rfl)) (fun _ h9 => h9) rfl dX1_record_45 ?_
    refine lv_iconst (v := (1 : Int32)) hx hb dX1_record_48 (by decide) ?_
    refine lv_iadd hx hb dX1_record_49 ?_
    refine lv_iconst (v := (4 : Int32)) hx hb dX1_record_50 (by decide) ?_
    refine va_mmin hx hb (hml.trans hl.1.symm) hown (hts (.methodLink RX1 31 Lib.Math.min.name) (List.mem_of_getElem? (i := 3) rfl)) (hts (.static Lib.Math.min.name) (List.mem_of_getElem? (i := 4) rfl)) (hts (.initialized "java/lang/Math") (List.mem_of_getElem? (i := 5) rfl)) (hts (.code Lib.Math.min.name Lib.Math.min.code 2 (some .int)) (List.mem_of_getElem? (i := 6) rfl)) (Nat.le_of_ble_eq_true rfl) (Nat.le_of_ble_eq_true rfl) (Nat.le_refl 0) (Nat.le_refl 0) dX1_record_51 ?_
    refine nmv hr (fun n_14 e_15 hr => ?_)
    rw [← e_15]
    refine va_put (D := D) (ci := 1) (v := .int n_14) (ty := .int) (C := RX1) (T := TX1) (N := 3) hx hb hts inX1 tyX1 tyX1_ok nmX1 hown hK hP hD hS 0 rfl rfl 2 (by decide) (hts (.fieldLink RX1 19 "ShiftMaps$History" "size" "I") (List.mem_of_getElem? (i := 2) rfl)) (fun _ h9 => h9) rfl (by decide +kernel) rfl rfl (Nat.le_of_ble_eq_true rfl) dX1_record_54 (fun H locs hP hD hS => ?_)
    refine nmv hr (fun V_18 e_19 hr => ?_)
    have hP : va_P D vwCl ((hiW Y ad V_18) ++ (stW Y b0 b1 b2 b3 b4 b5 b6 U)) H := by rw [e_19]; exact hP
    have hD : va_D A ((hiW Y ad V_18) ++ (stW Y b0 b1 b2 b3 b4 b5 b6 U)) := va_D_adr hD rfl
    have hr := Option.some.inj hr
    subst hr
    exact W.vret hx hb hrt (fun t ht hW => ⟨⟨(), rfl, trivial, by show va_P D vwCl _ t.heap; rw [ht]; exact hP⟩, hS.F ht⟩) hS.2.2 dX1_record_57
  rw [mf_X1_record] at hr
  suffices KK : ∀ (H : Heap) (locs : List Loc), va_P D vwCl ((hiW Y ad V) ++ (stW Y b0 b1 b2 b3 b4 b5 b6 U)) H → va_S A s.heap H locs → W p l e ({ frames := 3, cells := 0, slots := 0, locals := 102 } : Room) s m ([.ref (ad 22), .ref b0] : List Value).toArray below meth c H locs 0 0 (MQ below (va_Qv (S := Unit) (fun _ => True) (fun _ t => va_P D vwCl ((hiW Y ad R) ++ (stW Y b0 b1 b2 b3 b4 b5 b6 U)) t.heap) A) ([.ref (ad 22), .ref b0] : List Value).toArray s 0 0 A) (F0 m 0 ls []) from KK _ _ hP hS
  intro H locs hP hS
  refine lv_aload_n hx hb dX1_record_0 rfl (lv_at hl 0 rfl) ?_
  refine lv_aload_n hx hb dX1_record_1 rfl (lv_at hl 0 rfl) ?_
  refine va_get (D := D) (ci := 1) (v := .int (v1_next V)) (C := RX1) (T := TX1) (N := 3) hx hb hts inX1 hown hK hP 0 rfl rfl 1 (by decide) (hts (.fieldLink RX1 15 "ShiftMaps$History" "next" "I") (List.mem_of_getElem? (i := 1) rfl)) (fun _ h9 => h9) rfl dX1_record_2 ?_
  refine roV_q (As := [.int (v1_next V)]) (rest := []) ⟨hx, hb, hml, hown, hts⟩ (k_X1_rowAt l D Y ad V (v1_next V)) (cwV 1 hts gX1_record_X1_rowAt rfl rfl rfl (by decide +kernel) ⟨Nat.le_of_ble_eq_true rfl, Nat.le_of_ble_eq_true rfl⟩) (hP.sub (ws' := (hiW Y ad V)) [0, 1, 2, 3, 4, 5, 6, 7, 8, 9, 10, 11, 12, 13, 14, 15, 16, 17, 18, 19, 20, 21, 22, 23, 24, 25, 26, 27, 28, 29] rfl) hK hN (hZ.at hS).F 0 1 rfl rfl rfl hl.1 rfl (Nat.le_of_ble_eq_true rfl) dX1_record_5 ⟨Nat.le_refl 0, Nat.le_refl 0⟩ ?_
  by_cases c_1 : (v1_next V) = (0 : Int32)
  · have hr := hr.trans (if_pos c_1)
    rw [hrow_0 ad c_1]
    refine lv_astore_n (lv' := [(2, .ref (ad 24)), (0, .ref (ad 22)), (1, .ref b0)]) hx hb dX1_record_8 rfl hl (by decide) rfl (fun ls hl => ?_)
    refine lv_aload_n hx hb dX1_record_9 rfl (lv_at hl 0 rfl) ?_
    refine lv_ifnonnull (tgt := 14) hx hb dX1_record_10 (by decide) ?_
    refine lv_aload_n hx hb dX1_record_14 rfl (lv_at hl 0 rfl) ?_
    refine lv_aload_n hx hb dX1_record_15 rfl (lv_at hl 2 rfl) ?_
    refine bdv hr (fun r_5 e_6 hr => ?_)
    refine nmv hr (fun V_7 e_8 hr => ?_)
    refine rwV_v (W1 := (stW Y (ad 24) (ad 25) (ad 26) (ad 27) (ad 28) (ad 29) (ad 30) r_5) ++ (stW Y b0 b1 b2 b3 b4 b5 b6 U)) (W' := ((hiW Y ad V_7) ++ (stW Y b0 b1 b2 b3 b4 b5 b6 U))) (As := [.ref b0]) (rest := []) ⟨hx, hb, hml, hown, hts⟩ (k_X4_copyFrom l D Y (ad 24) (ad 25) (ad 26) (ad 27) (ad 28) (ad 29) (ad 30) b0 b1 b2 b3 b4 b5 b6 ((v1_states V) 0) U r_5 e_6) (cwV 1 hts gX1_record_X4_copyFrom rfl rfl rfl (by decide +kernel) ⟨Nat.le_of_ble_eq_true rfl, Nat.le_of_ble_eq_true rfl⟩) hP hK hN hZ hD hS [2, 3, 4, 5, 6, 7, 8, 30, 31, 32, 33, 34, 35, 36] rfl (by decide) [.inl 0, .inl 1, .inr 0, .inr 1, .inr 2, .inr 3, .inr 4, .inr 5, .inr 6, .inl 9, .inl 10, .inl 11, .inl 12, .inl 13, .inl 14, .inl 15, .inl 16, .inl 17, .inl 18, .inl 19, .inl 20, .inl 21, .inl 22, .inl 23, .inl 24, .inl 25, .inl 26, .inl 27, .inl 28, .inl 29, .inr 7, .inr 8, .inr 9, .inr 10, .inr 11, .inr 12, .inr 13] (jk_ok _ _ (by decide)) (by rw [e_8]; rfl) rfl 2 4 rfl rfl rfl hl.1 rfl (Nat.le_of_ble_eq_true rfl) dX1_record_16 ⟨Nat.le_refl 0, Nat.le_refl 0⟩ (fun H locs hP hD hS => ?_)
    refine lv_aload_n hx hb dX1_record_19 rfl (lv_at hl 1 rfl) ?_
    refine lv_aload_n hx hb dX1_record_20 rfl (lv_at hl 1 rfl) ?_
    refine va_get (D := D) (ci := 1) (v := .int (v1_next V_7)) (C := RX1) (T := TX1) (N := 3) hx hb hts inX1 hown hK hP 0 rfl rfl 1 (by decide) (hts (.fieldLink RX1 15 "ShiftMaps$History" "next" "I") (List.mem_of_getElem? (i := 1) rfl)) (fun _ h9 => h9) rfl dX1_record_21 ?_
    refine lv_iconst (v := (1 : Int32)) hx hb dX1_record_24 (by decide) ?_
    refine lv_iadd hx hb dX1_record_25 ?_
    refine lv_iconst (v := (4 : Int32)) hx hb dX1_record_26 (by decide) ?_
    refine lv_icmp_ge (tgt := 39) hx hb dX1_record_27 (by decide) (fun c_9 => ?_) (fun c_9 => ?_)
    · have hr := hr.trans (if_pos c_9)
      refine lv_iconst (v := (0 : Int32)) hx hb dX1_record_39 (by decide) ?_
      exact B40 V_7 (0 : Int32) _ _ _ hr hP hD hS (lv_sub hl [1] rfl)
    · have hr := hr.trans (if_neg c_9)
      refine lv_aload_n hx hb dX1_record_30 rfl (lv_at hl 1 rfl) ?_
      refine va_get (D := D) (ci := 1) (v := .int (v1_next V_7)) (C := RX1) (T := TX1) (N := 3) hx hb hts inX1 hown hK hP 0 rfl rfl 1 (by decide) (hts (.fieldLink RX1 15 "ShiftMaps$History" "next" "I") (List.mem_of_getElem? (i := 1) rfl)) (fun _ h9 => h9) rfl dX1_record_31 ?_
      refine lv_iconst (v := (1 : Int32)) hx hb dX1_record_34 (by decide) ?_
      refine lv_iadd hx hb dX1_record_35 ?_
      refine lv_goto (tgt := 40) hx hb dX1_record_36 (by decide) ?_
      exact B40 V_7 ((v1_next V_7) + (1 : Int32)) _ _ _ hr hP hD hS (lv_sub hl [1] rfl)
  · have hr := hr.trans (if_neg c_1)
    by_cases c_2 : (v1_next V) = (1 : Int32)
    · have hr := hr.trans (if_pos c_2)
      rw [hrow_1 ad c_2]
      refine lv_astore_n (lv' := [(2, .ref (ad 31)), (0, .ref (ad 22)), (1, .ref b0)]) hx hb dX1_record_8 rfl hl (by decide) rfl (fun ls hl => ?_)
      refine lv_aload_n hx hb dX1_record_9 rfl (lv_at hl 0 rfl) ?_
      refine lv_ifnonnull (tgt := 14) hx hb dX1_record_10 (by decide) ?_
      refine lv_aload_n hx hb dX1_record_14 rfl (lv_at hl 0 rfl) ?_
      refine lv_aload_n hx hb dX1_record_15 rfl (lv_at hl 2 rfl) ?_
      refine bdv hr (fun r_20 e_21 hr => ?_)
      refine nmv hr (fun V_22 e_23 hr => ?_)
      refine rwV_v (W1 := (stW Y (ad 31) (ad 32) (ad 33) (ad 34) (ad 35) (ad 36) (ad 37) r_20) ++ (stW Y b0 b1 b2 b3 b4 b5 b6 U)) (W' := ((hiW Y ad V_22) ++ (stW Y b0 b1 b2 b3 b4 b5 b6 U))) (As := [.ref b0]) (rest := []) ⟨hx, hb, hml, hown, hts⟩ (k_X4_copyFrom l D Y (ad 31) (ad 32) (ad 33) (ad 34) (ad 35) (ad 36) (ad 37) b0 b1 b2 b3 b4 b5 b6 ((v1_states V) 1) U r_20 e_21) (cwV 1 hts gX1_record_X4_copyFrom rfl rfl rfl (by decide +kernel) ⟨Nat.le_of_ble_eq_true rfl, Nat.le_of_ble_eq_true rfl⟩) hP hK hN hZ hD hS [9, 10, 11, 12, 13, 14, 15, 30, 31, 32, 33, 34, 35, 36] rfl (by decide) [.inl 0, .inl 1, .inl 2, .inl 3, .inl 4, .inl 5, .inl 6, .inl 7, .inl 8, .inr 0, .inr 1, .inr 2, .inr 3, .inr 4, .inr 5, .inr 6, .inl 16, .inl 17, .inl 18, .inl 19, .inl 20, .inl 21, .inl 22, .inl 23, .inl 24, .inl 25, .inl 26, .inl 27, .inl 28, .inl 29, .inr 7, .inr 8, .inr 9, .inr 10, .inr 11, .inr 12, .inr 13] (jk_ok _ _ (by decide)) (by rw [e_23]; rfl) rfl 9 4 rfl rfl rfl hl.1 rfl (Nat.le_of_ble_eq_true rfl) dX1_record_16 ⟨Nat.le_refl 0, Nat.le_refl 0⟩ (fun H locs hP hD hS => ?_)
      refine lv_aload_n hx hb dX1_record_19 rfl (lv_at hl 1 rfl) ?_
      refine lv_aload_n hx hb dX1_record_20 rfl (lv_at hl 1 rfl) ?_
      refine va_get (D := D) (ci := 1) (v := .int (v1_next V_22)) (C := RX1) (T := TX1) (N := 3) hx hb hts inX1 hown hK hP 0 rfl rfl 1 (by decide) (hts (.fieldLink RX1 15 "ShiftMaps$History" "next" "I") (List.mem_of_getElem? (i := 1) rfl)) (fun _ h9 => h9) rfl dX1_record_21 ?_
      refine lv_iconst (v := (1 : Int32)) hx hb dX1_record_24 (by decide) ?_
      refine lv_iadd hx hb dX1_record_25 ?_
      refine lv_iconst (v := (4 : Int32)) hx hb dX1_record_26 (by decide) ?_
      refine lv_icmp_ge (tgt := 39) hx hb dX1_record_27 (by decide) (fun c_24 => ?_) (fun c_24 => ?_)
      · have hr := hr.trans (if_pos c_24)
        refine lv_iconst (v := (0 : Int32)) hx hb dX1_record_39 (by decide) ?_
        exact B40 V_22 (0 : Int32) _ _ _ hr hP hD hS (lv_sub hl [1] rfl)
      · have hr := hr.trans (if_neg c_24)
        refine lv_aload_n hx hb dX1_record_30 rfl (lv_at hl 1 rfl) ?_
        refine va_get (D := D) (ci := 1) (v := .int (v1_next V_22)) (C := RX1) (T := TX1) (N := 3) hx hb hts inX1 hown hK hP 0 rfl rfl 1 (by decide) (hts (.fieldLink RX1 15 "ShiftMaps$History" "next" "I") (List.mem_of_getElem? (i := 1) rfl)) (fun _ h9 => h9) rfl dX1_record_31 ?_
        refine lv_iconst (v := (1 : Int32)) hx hb dX1_record_34 (by decide) ?_
        refine lv_iadd hx hb dX1_record_35 ?_
        refine lv_goto (tgt := 40) hx hb dX1_record_36 (by decide) ?_
        exact B40 V_22 ((v1_next V_22) + (1 : Int32)) _ _ _ hr hP hD hS (lv_sub hl [1] rfl)
    · have hr := hr.trans (if_neg c_2)
      by_cases c_3 : (v1_next V) = (2 : Int32)
      · have hr := hr.trans (if_pos c_3)
        rw [hrow_2 ad c_3]
        refine lv_astore_n (lv' := [(2, .ref (ad 38)), (0, .ref (ad 22)), (1, .ref b0)]) hx hb dX1_record_8 rfl hl (by decide) rfl (fun ls hl => ?_)
        refine lv_aload_n hx hb dX1_record_9 rfl (lv_at hl 0 rfl) ?_
        refine lv_ifnonnull (tgt := 14) hx hb dX1_record_10 (by decide) ?_
        refine lv_aload_n hx hb dX1_record_14 rfl (lv_at hl 0 rfl) ?_
        refine lv_aload_n hx hb dX1_record_15 rfl (lv_at hl 2 rfl) ?_
        refine bdv hr (fun r_25 e_26 hr => ?_)
        refine nmv hr (fun V_27 e_28 hr => ?_)
        refine rwV_v (W1 := (stW Y (ad 38) (ad 39) (ad 40) (ad 41) (ad 42) (ad 43) (ad 44) r_25) ++ (stW Y b0 b1 b2 b3 b4 b5 b6 U)) (W' := ((hiW Y ad V_27) ++ (stW Y b0 b1 b2 b3 b4 b5 b6 U))) (As := [.ref b0]) (rest := []) ⟨hx, hb, hml, hown, hts⟩ (k_X4_copyFrom l D Y (ad 38) (ad 39) (ad 40) (ad 41) (ad 42) (ad 43) (ad 44) b0 b1 b2 b3 b4 b5 b6 ((v1_states V) 2) U r_25 e_26) (cwV 1 hts gX1_record_X4_copyFrom rfl rfl rfl (by decide +kernel) ⟨Nat.le_of_ble_eq_true rfl, Nat.le_of_ble_eq_true rfl⟩) hP hK hN hZ hD hS [16, 17, 18, 19, 20, 21, 22, 30, 31, 32, 33, 34, 35, 36] rfl (by decide) [.inl 0, .inl 1, .inl 2, .inl 3, .inl 4, .inl 5, .inl 6, .inl 7, .inl 8, .inl 9, .inl 10, .inl 11, .inl 12, .inl 13, .inl 14, .inl 15, .inr 0, .inr 1, .inr 2, .inr 3, .inr 4, .inr 5, .inr 6, .inl 23, .inl 24, .inl 25, .inl 26, .inl 27, .inl 28, .inl 29, .inr 7, .inr 8, .inr 9, .inr 10, .inr 11, .inr 12, .inr 13] (jk_ok _ _ (by decide)) (by rw [e_28]; rfl) rfl 16 4 rfl rfl rfl hl.1 rfl (Nat.le_of_ble_eq_true rfl) dX1_record_16 ⟨Nat.le_refl 0, Nat.le_refl 0⟩ (fun H locs hP hD hS => ?_)
        refine lv_aload_n hx hb dX1_record_19 rfl (lv_at hl 1 rfl) ?_
        refine lv_aload_n hx hb dX1_record_20 rfl (lv_at hl 1 rfl) ?_
        refine va_get (D := D) (ci := 1) (v := .int (v1_next V_27)) (C := RX1) (T := TX1) (N := 3) hx hb hts inX1 hown hK hP 0 rfl rfl 1 (by decide) (hts (.fieldLink RX1 15 "ShiftMaps$History" "next" "I") (List.mem_of_getElem? (i := 1) rfl)) (fun _ h9 => h9) rfl dX1_record_21 ?_
        refine lv_iconst (v := (1 : Int32)) hx hb dX1_record_24 (by decide) ?_
        refine lv_iadd hx hb dX1_record_25 ?_
        refine lv_iconst (v := (4 : Int32)) hx hb dX1_record_26 (by decide) ?_
        refine lv_icmp_ge (tgt := 39) hx hb dX1_record_27 (by decide) (fun c_29 => ?_) (fun c_29 => ?_)
        · have hr := hr.trans (if_pos c_29)
          refine lv_iconst (v := (0 : Int32)) hx hb dX1_record_39 (by decide) ?_
          exact B40 V_27 (0 : Int32) _ _ _ hr hP hD hS (lv_sub hl [1] rfl)
        · have hr := hr.trans (if_neg c_29)
          refine lv_aload_n hx hb dX1_record_30 rfl (lv_at hl 1 rfl) ?_
          refine va_get (D := D) (ci := 1) (v := .int (v1_next V_27)) (C := RX1) (T := TX1) (N := 3) hx hb hts inX1 hown hK hP 0 rfl rfl 1 (by decide) (hts (.fieldLink RX1 15 "ShiftMaps$History" "next" "I") (List.mem_of_getElem? (i := 1) rfl)) (fun _ h9 => h9) rfl dX1_record_31 ?_
          refine lv_iconst (v := (1 : Int32)) hx hb dX1_record_34 (by decide) ?_
          refine lv_iadd hx hb dX1_record_35 ?_
          refine lv_goto (tgt := 40) hx hb dX1_record_36 (by decide) ?_
          exact B40 V_27 ((v1_next V_27) + (1 : Int32)) _ _ _ hr hP hD hS (lv_sub hl [1] rfl)
      · have hr := hr.trans (if_neg c_3)
        by_cases c_4 : (v1_next V) = (3 : Int32)
        · have hr := hr.trans (if_pos c_4)
          rw [hrow_3 ad c_4]
          refine lv_astore_n (lv' := [(2, .ref (ad 45)), (0, .ref (ad 22)), (1, .ref b0)]) hx hb dX1_record_8 rfl hl (by decide) rfl (fun ls hl => ?_)
          refine lv_aload_n hx hb dX1_record_9 rfl (lv_at hl 0 rfl) ?_
          refine lv_ifnonnull (tgt := 14) hx hb dX1_record_10 (by decide) ?_
          refine lv_aload_n hx hb dX1_record_14 rfl (lv_at hl 0 rfl) ?_
          refine lv_aload_n hx hb dX1_record_15 rfl (lv_at hl 2 rfl) ?_
          refine bdv hr (fun r_30 e_31 hr => ?_)
          refine nmv hr (fun V_32 e_33 hr => ?_)
          refine rwV_v (W1 := (stW Y (ad 45) (ad 46) (ad 47) (ad 48) (ad 49) (ad 50) (ad 51) r_30) ++ (stW Y b0 b1 b2 b3 b4 b5 b6 U)) (W' := ((hiW Y ad V_32) ++ (stW Y b0 b1 b2 b3 b4 b5 b6 U))) (As := [.ref b0]) (rest := []) ⟨hx, hb, hml, hown, hts⟩ (k_X4_copyFrom l D Y (ad 45) (ad 46) (ad 47) (ad 48) (ad 49) (ad 50) (ad 51) b0 b1 b2 b3 b4 b5 b6 ((v1_states V) 3) U r_30 e_31) (cwV 1 hts gX1_record_X4_copyFrom rfl rfl rfl (by decide +kernel) ⟨Nat.le_of_ble_eq_true rfl, Nat.le_of_ble_eq_true rfl⟩) hP hK hN hZ hD hS [23, 24, 25, 26, 27, 28, 29, 30, 31, 32, 33, 34, 35, 36] rfl (by decide) [.inl 0, .inl 1, .inl 2, .inl 3, .inl 4, .inl 5, .inl 6, .inl 7, .inl 8, .inl 9, .inl 10, .inl 11, .inl 12, .inl 13, .inl 14, .inl 15, .inl 16, .inl 17, .inl 18, .inl 19, .inl 20, .inl 21, .inl 22, .inr 0, .inr 1, .inr 2, .inr 3, .inr 4, .inr 5, .inr 6, .inr 7, .inr 8, .inr 9, .inr 10, .inr 11, .inr 12, .inr 13] (jk_ok _ _ (by decide)) (by rw [e_33]; rfl) rfl 23 4 rfl rfl rfl hl.1 rfl (Nat.le_of_ble_eq_true rfl) dX1_record_16 ⟨Nat.le_refl 0, Nat.le_refl 0⟩ (fun H locs hP hD hS => ?_)
          refine lv_aload_n hx hb dX1_record_19 rfl (lv_at hl 1 rfl) ?_
          refine lv_aload_n hx hb dX1_record_20 rfl (lv_at hl 1 rfl) ?_
          refine va_get (D := D) (ci := 1) (v := .int (v1_next V_32)) (C := RX1) (T := TX1) (N := 3) hx hb hts inX1 hown hK hP 0 rfl rfl 1 (by decide) (hts (.fieldLink RX1 15 "ShiftMaps$History" "next" "I") (List.mem_of_getElem? (i := 1) rfl)) (fun _ h9 => h9) rfl dX1_record_21 ?_
          refine lv_iconst (v := (1 : Int32)) hx hb dX1_record_24 (by decide) ?_
          refine lv_iadd hx hb dX1_record_25 ?_
          refine lv_iconst (v := (4 : Int32)) hx hb dX1_record_26 (by decide) ?_
          refine lv_icmp_ge (tgt := 39) hx hb dX1_record_27 (by decide) (fun c_34 => ?_) (fun c_34 => ?_)
          · have hr := hr.trans (if_pos c_34)
            refine lv_iconst (v := (0 : Int32)) hx hb dX1_record_39 (by decide) ?_
            exact B40 V_32 (0 : Int32) _ _ _ hr hP hD hS (lv_sub hl [1] rfl)
          · have hr := hr.trans (if_neg c_34)
            refine lv_aload_n hx hb dX1_record_30 rfl (lv_at hl 1 rfl) ?_
            refine va_get (D := D) (ci := 1) (v := .int (v1_next V_32)) (C := RX1) (T := TX1) (N := 3) hx hb hts inX1 hown hK hP 0 rfl rfl 1 (by decide) (hts (.fieldLink RX1 15 "ShiftMaps$History" "next" "I") (List.mem_of_getElem? (i := 1) rfl)) (fun _ h9 => h9) rfl dX1_record_31 ?_
            refine lv_iconst (v := (1 : Int32)) hx hb dX1_record_34 (by decide) ?_
            refine lv_iadd hx hb dX1_record_35 ?_
            refine lv_goto (tgt := 40) hx hb dX1_record_36 (by decide) ?_
            exact B40 V_32 ((v1_next V_32) + (1 : Int32)) _ _ _ hr hP hD hS (lv_sub hl [1] rfl)
        · have hr := hr.trans (if_neg c_4)
          rw [hrow_4 ad c_1 c_2 c_3 c_4]
          refine lv_astore_nN (lv' := [(2, .null), (0, .ref (ad 22)), (1, .ref b0)]) hx hb dX1_record_8 rfl hl (by decide) rfl (fun ls hl => ?_)
          refine lv_aload_nN hx hb dX1_record_9 rfl (lv_at hl 0 rfl) ?_
          refine lv_ifnonnullN hx hb dX1_record_10 ?_
          have hr := Option.some.inj hr
          subst hr
          exact W.vret hx hb hrt (fun t ht hW => ⟨⟨(), rfl, trivial, by show va_P D vwCl _ t.heap; rw [ht]; exact hP⟩, hS.F ht⟩) hS.2.2 dX1_record_13

set_option maxHeartbeats 4000000 in
set_option maxRecDepth 100000 in
theorem k_X1_takeLatestInto (l : Launch) (D : va_G) (Y : Nat → ClassId) (ad : Nat → Nat) (b0 b1 b2 b3 b4 b5 b6 : Nat) (V : HiV) (U : St) (R : Int32 × HiV × St) (hr : some R = mf_X1_takeLatestInto V U) : Met l yX1_takeLatestInto wsX1_takeLatestInto ({ frames := 3, cells := 0, slots := 0, locals := 102 } : Room) (va_Pc [.ref (ad 22), .ref b0] (PW D Y ((hiW Y ad V) ++ (stW Y b0 b1 b2 b3 b4 b5 b6 U)))) (va_Qi (S := Unit) (fun r _ => r = R.1) (fun _ t => va_P D vwCl ((hiW Y ad R.2.1) ++ (stW Y b0 b1 b2 b3 b4 b5 b6 R.2.2)) t.heap) (wA ((hiW Y ad V) ++ (stW Y b0 b1 b2 b3 b4 b5 b6 U)))) 0 0 (wA ((hiW Y ad V) ++ (stW Y b0 b1 b2 b3 b4 b5 b6 U))) := by
  refine Met.ofW (cc := cX1_takeLatestInto) (maxL := 4) (ret := (some .boolean)) (by decide) rfl ?_
  intro p e s m args below meth c s₁ B hml hv
  obtain ⟨rfl, hP, hK, hN, hZ, hD⟩ := hv
  have hx := B.exec
  have hb := B.bytes
  have hrt := B.returns
  have hts := atoms_spec (ws := wsX1_takeLatestInto) B.pre
  have hown : s.vm.findClass RX1 = some m.cls := findClass_of_methodNamed B.named
  have hlocks := B.notSynchronized
  have inX1 : ∀ w ∈ u_ws RX1 TX1 3, w ∈ wsX1_takeLatestInto := uin_at 45 rfl
  generalize hAe : wA ((hiW Y ad V) ++ (stW Y b0 b1 b2 b3 b4 b5 b6 U)) = A at hZ hD ⊢
  have hS : va_S A s.heap s.heap [] := va_S.rf
  have hl := lv_entry ([.ref (ad 22), .ref b0]) (n := 4) (Nat.le_of_ble_eq_true rfl)
  rw [lg_entry_eq]
  generalize (lg_sl ([.ref (ad 22), .ref b0]) ++ List.replicate (4 - (lg_sl ([.ref (ad 22), .ref b0])).length) Slot.unset).toArray = ls at hl ⊢
  have hl : lv_has ls 4 [(0, .ref (ad 22)), (1, .ref b0)] := hl
  have B17 : ∀ (W0 : HiV) (W1 : St) (y0 : Int32) (H : Heap) (locs : List Loc) (ls : Array Slot), some R = mf_X1_takeLatestInto_B17 W0 W1 y0 → va_P D vwCl ((hiW Y ad W0) ++ (stW Y b0 b1 b2 b3 b4 b5 b6 W1)) H → va_D A ((hiW Y ad W0) ++ (stW Y b0 b1 b2 b3 b4 b5 b6 W1)) → va_S A s.heap H locs → lv_has ls 4 [(0, .ref (ad 22)), (1, .ref b0)] → W p l e ({ frames := 3, cells := 0, slots := 0, locals := 102 } : Room) s m ([.ref (ad 22), .ref b0] : List Value).toArray below meth c H locs 0 0 (MQ below (va_Qi (S := Unit) (fun r _ => r = R.1) (fun _ t => va_P D vwCl ((hiW Y ad R.2.1) ++ (stW Y b0 b1 b2 b3 b4 b5 b6 R.2.2)) t.heap) A) ([.ref (ad 22), .ref b0] : List Value).toArray s 0 0 A) (F0 m 17 ls [.int y0]) := by
    intro W0 W1 y0 H locs ls hr hP hD hS hl
    rw [mf_X1_takeLatestInto_B17] at hr
    refine lv_istore_n (lv' := [(2, .int y0), (0, .ref (ad 22)), (1, .ref b0)]) hx hb dX1_takeLatestInto_17 rfl hl (by decide) rfl (fun ls hl => ?_)
    refine lv_aload_n hx hb dX1_takeLatestInto_18 rfl (lv_at hl 1 rfl) ?_
    refine lv_iload_n hx hb dX1_takeLatestInto_19 rfl (lv_at hl 0 rfl) ?_
    refine roV_q (As := [.int y0]) (rest := []) ⟨hx, hb, hml, hown, hts⟩ (k_X1_rowAt l D Y ad W0 y0) (cwV 1 hts gX1_takeLatestInto_X1_rowAt rfl rfl rfl (by decide +kernel) ⟨Nat.le_of_ble_eq_true rfl, Nat.le_of_ble_eq_true rfl⟩) (hP.sub (ws' := (hiW Y ad W0)) [0, 1, 2, 3, 4, 5, 6, 7, 8, 9, 10, 11, 12, 13, 14, 15, 16, 17, 18, 19, 20, 21, 22, 23, 24, 25, 26, 27, 28, 29] rfl) hK hN (hZ.at hS).F 0 1 rfl rfl rfl hl.1 rfl (Nat.le_of_ble_eq_true rfl) dX1_takeLatestInto_20 ⟨Nat.le_refl 0, Nat.le_refl 0⟩ ?_
    by_cases c_2 : y0 = (0 : Int32)
    · have hr := hr.trans (if_pos c_2)
      rw [hrow_0 ad c_2]
      refine lv_astore_n (lv' := [(3, .ref (ad 24)), (2, .int y0), (0, .ref (ad 22)), (1, .ref b0)]) hx hb dX1_takeLatestInto_23 rfl hl (by decide) rfl (fun ls hl => ?_)
      refine lv_aload_n hx hb dX1_takeLatestInto_24 rfl (lv_at hl 2 rfl) ?_
      refine va_get (D := D) (ci := 1) (v := .int (v1_size W0)) (C := RX1) (T := TX1) (N := 3) hx hb hts inX1 hown hK hP 0 rfl rfl 2 (by decide) (hts (.fieldLink RX1 19 "ShiftMaps$History" "size" "I") (List.mem_of_getElem? (i := 2) rfl)) (fun _ h9 => h9) rfl dX1_takeLatestInto_25 ?_
      refine lv_if_eq (tgt := 35) hx hb dX1_takeLatestInto_28 (by decide) (fun c_6 => ?_) (fun c_6 => ?_)
      · have hr := hr.trans (if_pos c_6)
        refine lv_iconst (v := (0 : Int32)) hx hb dX1_takeLatestInto_35 (by decide) ?_
        have hr := Option.some.inj hr
        subst hr
        exact W.zret (ty := .boolean) hx hb hrt (by decide) (fun t ht hW => ⟨⟨_, (), rfl, rfl, by show va_P D vwCl _ t.heap; rw [ht]; exact hP⟩, hS.F ht⟩) hS.2.2 dX1_takeLatestInto_36
      · have hr := hr.trans (if_neg c_6)
        refine lv_aload_n hx hb dX1_takeLatestInto_31 rfl (lv_at hl 0 rfl) ?_
        refine lv_ifnonnull (tgt := 37) hx hb dX1_takeLatestInto_32 (by decide) ?_
        refine lv_aload_n hx hb dX1_takeLatestInto_37 rfl (lv_at hl 3 rfl) ?_
        refine lv_aload_n hx hb dX1_takeLatestInto_38 rfl (lv_at hl 0 rfl) ?_
        refine bdv hr (fun r_7 e_8 hr => ?_)
        refine rwV_v (W1 := (stW Y b0 b1 b2 b3 b4 b5 b6 r_7) ++ (stW Y (ad 24) (ad 25) (ad 26) (ad 27) (ad 28) (ad 29) (ad 30) ((v1_states W0) 0))) (W' := ((hiW Y ad W0) ++ (stW Y b0 b1 b2 b3 b4 b5 b6 r_7))) (As := [.ref (ad 24)]) (rest := []) ⟨hx, hb, hml, hown, hts⟩ (k_X4_copyFrom l D Y b0 b1 b2 b3 b4 b5 b6 (ad 24) (ad 25) (ad 26) (ad 27) (ad 28) (ad 29) (ad 30) W1 ((v1_states W0) 0) r_7 e_8) (cwV 1 hts gX1_takeLatestInto_X4_copyFrom rfl rfl rfl (by decide +kernel) ⟨Nat.le_of_ble_eq_true rfl, Nat.le_of_ble_eq_true rfl⟩) hP hK hN hZ hD hS [30, 31, 32, 33, 34, 35, 36, 2, 3, 4, 5, 6, 7, 8] rfl (by decide) [.inl 0, .inl 1, .inr 7, .inr 8, .inr 9, .inr 10, .inr 11, .inr 12, .inr 13, .inl 9, .inl 10, .inl 11, .inl 12, .inl 13, .inl 14, .inl 15, .inl 16, .inl 17, .inl 18, .inl 19, .inl 20, .inl 21, .inl 22, .inl 23, .inl 24, .inl 25, .inl 26, .inl 27, .inl 28, .inl 29, .inr 0, .inr 1, .inr 2, .inr 3, .inr 4, .inr 5, .inr 6] (jk_ok _ _ (by decide)) rfl rfl 30 4 rfl rfl rfl hl.1 rfl (Nat.le_of_ble_eq_true rfl) dX1_takeLatestInto_39 ⟨Nat.le_refl 0, Nat.le_refl 0⟩ (fun H locs hP hD hS => ?_)
        refine lv_aload_n hx hb dX1_takeLatestInto_42 rfl (lv_at hl 2 rfl) ?_
        refine lv_iload_n hx hb dX1_takeLatestInto_43 rfl (lv_at hl 1 rfl) ?_
        refine va_put (D := D) (ci := 1) (v := .int y0) (ty := .int) (C := RX1) (T := TX1) (N := 3) hx hb hts inX1 tyX1 tyX1_ok nmX1 hown hK hP hD hS 0 rfl rfl 1 (by decide) (hts (.fieldLink RX1 15 "ShiftMaps$History" "next" "I") (List.mem_of_getElem? (i := 1) rfl)) (fun _ h9 => h9) rfl (by decide +kernel) rfl rfl (Nat.le_of_ble_eq_true rfl) dX1_takeLatestInto_44 (fun H locs hP hD hS => ?_)
        refine nmv hr (fun V_11 e_12 hr => ?_)
        have hP : va_P D vwCl ((hiW Y ad V_11) ++ (stW Y b0 b1 b2 b3 b4 b5 b6 r_7)) H := by rw [e_12]; exact hP
        have hD : va_D A ((hiW Y ad V_11) ++ (stW Y b0 b1 b2 b3 b4 b5 b6 r_7)) := va_D_adr hD rfl
        refine lv_aload_n hx hb dX1_takeLatestInto_47 rfl (lv_at hl 2 rfl) ?_
        refine lv_dup hx hb dX1_takeLatestInto_48 rfl ?_
        refine va_get (D := D) (ci := 1) (v := .int (v1_size V_11)) (C := RX1) (T := TX1) (N := 3) hx hb hts inX1 hown hK hP 0 rfl rfl 2 (by decide) (hts (.fieldLink RX1 19 "ShiftMaps$History" "size" "I") (List.mem_of_getElem? (i := 2) rfl)) (fun _ h9 => h9) rfl dX1_takeLatestInto_49 ?_
        refine lv_iconst (v := (1 : Int32)) hx hb dX1_takeLatestInto_52 (by decide) ?_
        refine lv_isub hx hb dX1_takeLatestInto_53 ?_
        refine va_put (D := D) (ci := 1) (v := .int ((v1_size V_11) - (1 : Int32))) (ty := .int) (C := RX1) (T := TX1) (N := 3) hx hb hts inX1 tyX1 tyX1_ok nmX1 hown hK hP hD hS 0 rfl rfl 2 (by decide) (hts (.fieldLink RX1 19 "ShiftMaps$History" "size" "I") (List.mem_of_getElem? (i := 2) rfl)) (fun _ h9 => h9) rfl (by decide +kernel) rfl rfl (Nat.le_of_ble_eq_true rfl) dX1_takeLatestInto_54 (fun H locs hP hD hS => ?_)
        refine nmv hr (fun V_15 e_16 hr => ?_)
        have hP : va_P D vwCl ((hiW Y ad V_15) ++ (stW Y b0 b1 b2 b3 b4 b5 b6 r_7)) H := by rw [e_16]; exact hP
        have hD : va_D A ((hiW Y ad V_15) ++ (stW Y b0 b1 b2 b3 b4 b5 b6 r_7)) := va_D_adr hD rfl
        refine lv_iconst (v := (1 : Int32)) hx hb dX1_takeLatestInto_57 (by decide) ?_
        have hr := Option.some.inj hr
        subst hr
        exact W.zret (ty := .boolean) hx hb hrt (by decide) (fun t ht hW => ⟨⟨_, (), rfl, rfl, by show va_P D vwCl _ t.heap; rw [ht]; exact hP⟩, hS.F ht⟩) hS.2.2 dX1_takeLatestInto_58
    · have hr := hr.trans (if_neg c_2)
      by_cases c_3 : y0 = (1 : Int32)
      · have hr := hr.trans (if_pos c_3)
        rw [hrow_1 ad c_3]
        refine lv_astore_n (lv' := [(3, .ref (ad 31)), (2, .int y0), (0, .ref (ad 22)), (1, .ref b0)]) hx hb dX1_takeLatestInto_23 rfl hl (by decide) rfl (fun ls hl => ?_)
        refine lv_aload_n hx hb dX1_takeLatestInto_24 rfl (lv_at hl 2 rfl) ?_
        refine va_get (D := D) (ci := 1) (v := .int (v1_size W0)) (C := RX1) (T := TX1) (N := 3) hx hb hts inX1 hown hK hP 0 rfl rfl 2 (by decide) (hts (.fieldLink RX1 19 "ShiftMaps$History" "size" "I") (List.mem_of_getElem? (i := 2) rfl)) (fun _ h9 => h9) rfl dX1_takeLatestInto_25 ?_
        refine lv_if_eq (tgt := 35) hx hb dX1_takeLatestInto_28 (by decide) (fun c_17 => ?_) (fun c_17 => ?_)
        · have hr := hr.trans (if_pos c_17)
          refine lv_iconst (v := (0 : Int32)) hx hb dX1_takeLatestInto_35 (by decide) ?_
          have hr := Option.some.inj hr
          subst hr
          exact W.zret (ty := .boolean) hx hb hrt (by decide) (fun t ht hW => ⟨⟨_, (), rfl, rfl, by show va_P D vwCl _ t.heap; rw [ht]; exact hP⟩, hS.F ht⟩) hS.2.2 dX1_takeLatestInto_36
        · have hr := hr.trans (if_neg c_17)
          refine lv_aload_n hx hb dX1_takeLatestInto_31 rfl (lv_at hl 0 rfl) ?_
          refine lv_ifnonnull (tgt := 37) hx hb dX1_takeLatestInto_32 (by decide) ?_
          refine lv_aload_n hx hb dX1_takeLatestInto_37 rfl (lv_at hl 3 rfl) ?_
          refine lv_aload_n hx hb dX1_takeLatestInto_38 rfl (lv_at hl 0 rfl) ?_
          refine bdv hr (fun r_18 e_19 hr => ?_)
          refine rwV_v (W1 := (stW Y b0 b1 b2 b3 b4 b5 b6 r_18) ++ (stW Y (ad 31) (ad 32) (ad 33) (ad 34) (ad 35) (ad 36) (ad 37) ((v1_states W0) 1))) (W' := ((hiW Y ad W0) ++ (stW Y b0 b1 b2 b3 b4 b5 b6 r_18))) (As := [.ref (ad 31)]) (rest := []) ⟨hx, hb, hml, hown, hts⟩ (k_X4_copyFrom l D Y b0 b1 b2 b3 b4 b5 b6 (ad 31) (ad 32) (ad 33) (ad 34) (ad 35) (ad 36) (ad 37) W1 ((v1_states W0) 1) r_18 e_19) (cwV 1 hts gX1_takeLatestInto_X4_copyFrom rfl rfl rfl (by decide +kernel) ⟨Nat.le_of_ble_eq_true rfl, Nat.le_of_ble_eq_true rfl⟩) hP hK hN hZ hD hS [30, 31, 32, 33, 34, 35, 36, 9, 10, 11, 12, 13, 14, 15] rfl (by decide) [.inl 0, .inl 1, .inl 2, .inl 3, .inl 4, .inl 5, .inl 6, .inl 7, .inl 8, .inr 7, .inr 8, .inr 9, .inr 10, .inr 11, .inr 12, .inr 13, .inl 16, .inl 17, .inl 18, .inl 19, .inl 20, .inl 21, .inl 22, .inl 23, .inl 24, .inl 25, .inl 26, .inl 27, .inl 28, .inl 29, .inr 0, .inr 1, .inr 2, .inr 3, .inr 4, .inr 5, .inr 6] (jk_ok _ _ (by decide)) rfl rfl 30 4 rfl rfl rfl hl.1 rfl (Nat.le_of_ble_eq_true rfl) dX1_takeLatestInto_39 ⟨Nat.le_refl 0, Nat.le_refl 0⟩ (fun H locs hP hD hS => ?_)
          refine lv_aload_n hx hb dX1_takeLatestInto_42 rfl (lv_at hl 2 rfl) ?_
          refine lv_iload_n hx hb dX1_takeLatestInto_43 rfl (lv_at hl 1 rfl) ?_
          refine va_put (D := D) (ci := 1) (v := .int y0) (ty := .int) (C := RX1) (T := TX1) (N := 3) hx hb hts inX1 tyX1 tyX1_ok nmX1 hown hK hP hD hS 0 rfl rfl 1 (by decide) (hts (.fieldLink RX1 15 "ShiftMaps$History" "next" "I") (List.mem_of_getElem? (i := 1) rfl)) (fun _ h9 => h9) rfl (by decide +kernel) rfl rfl (Nat.le_of_ble_eq_true rfl) dX1_takeLatestInto_44 (fun H locs hP hD hS => ?_)
          refine nmv hr (fun V_22 e_23 hr => ?_)
          have hP : va_P D vwCl ((hiW Y ad V_22) ++ (stW Y b0 b1 b2 b3 b4 b5 b6 r_18)) H := by rw [e_23]; exact hP
          have hD : va_D A ((hiW Y ad V_22) ++ (stW Y b0 b1 b2 b3 b4 b5 b6 r_18)) := va_D_adr hD rfl
          refine lv_aload_n hx hb dX1_takeLatestInto_47 rfl (lv_at hl 2 rfl) ?_
          refine lv_dup hx hb dX1_takeLatestInto_48 rfl ?_
          refine va_get (D := D) (ci := 1) (v := .int (v1_size V_22)) (C := RX1) (T := TX1) (N := 3) hx hb hts inX1 hown hK hP 0 rfl rfl 2 (by decide) (hts (.fieldLink RX1 19 "ShiftMaps$History" "size" "I") (List.mem_of_getElem? (i := 2) rfl)) (fun _ h9 => h9) rfl dX1_takeLatestInto_49 ?_
          refine lv_iconst (v := (1 : Int32)) hx hb dX1_takeLatestInto_52 (by decide) ?_
          refine lv_isub hx hb dX1_takeLatestInto_53 ?_
          refine va_put (D := D) (ci := 1) (v := .int ((v1_size V_22) - (1 : Int32))) (ty := .int) (C := RX1) (T := TX1) (N := 3) hx hb hts inX1 tyX1 tyX1_ok nmX1 hown hK hP hD hS 0 rfl rfl 2 (by decide) (hts (.fieldLink RX1 19 "ShiftMaps$History" "size" "I") (List.mem_of_getElem? (i := 2) rfl)) (fun _ h9 => h9) rfl (by decide +kernel) rfl rfl (Nat.le_of_ble_eq_true rfl) dX1_takeLatestInto_54 (fun H locs hP hD hS => ?_)
          refine nmv hr (fun V_26 e_27 hr => ?_)
          have hP : va_P D vwCl ((hiW Y ad V_26) ++ (stW Y b0 b1 b2 b3 b4 b5 b6 r_18)) H := by rw [e_27]; exact hP
          have hD : va_D A ((hiW Y ad V_26) ++ (stW Y b0 b1 b2 b3 b4 b5 b6 r_18)) := va_D_adr hD rfl
          refine lv_iconst (v := (1 : Int32)) hx hb dX1_takeLatestInto_57 (by decide) ?_
          have hr := Option.some.inj hr
          subst hr
          exact W.zret (ty := .boolean) hx hb hrt (by decide) (fun t ht hW => ⟨⟨_, (), rfl, rfl, by show va_P D vwCl _ t.heap; rw [ht]; exact hP⟩, hS.F ht⟩) hS.2.2 dX1_takeLatestInto_58
      · have hr := hr.trans (if_neg c_3)
        by_cases c_4 : y0 = (2 : Int32)
        · have hr := hr.trans (if_pos c_4)
          rw [hrow_2 ad c_4]
          refine lv_astore_n (lv' := [(3, .ref (ad 38)), (2, .int y0), (0, .ref (ad 22)), (1, .ref b0)]) hx hb dX1_takeLatestInto_23 rfl hl (by decide) rfl (fun ls hl => ?_)
          refine lv_aload_n hx hb dX1_takeLatestInto_24 rfl (lv_at hl 2 rfl) ?_
          refine va_get (D := D) (ci := 1) (v := .int (v1_size W0)) (C := RX1) (T := TX1) (N := 3) hx hb hts inX1 hown hK hP 0 rfl rfl 2 (by decide) (hts (.fieldLink RX1 19 "ShiftMaps$History" "size" "I") (List.mem_of_getElem? (i := 2) rfl)) (fun _ h9 => h9) rfl dX1_takeLatestInto_25 ?_
          refine lv_if_eq (tgt := 35) hx hb dX1_takeLatestInto_28 (by decide) (fun c_28 => ?_) (fun c_28 => ?_)
          · have hr := hr.trans (if_pos c_28)
            refine lv_iconst (v := (0 : Int32)) hx hb dX1_takeLatestInto_35 (by decide) ?_
            have hr := Option.some.inj hr
            subst hr
            exact W.zret (ty := .boolean) hx hb hrt (by decide) (fun t ht hW => ⟨⟨_, (), rfl, rfl, by show va_P D vwCl _ t.heap; rw [ht]; exact hP⟩, hS.F ht⟩) hS.2.2 dX1_takeLatestInto_36
          · have hr := hr.trans (if_neg c_28)
            refine lv_aload_n hx hb dX1_takeLatestInto_31 rfl (lv_at hl 0 rfl) ?_
            refine lv_ifnonnull (tgt := 37) hx hb dX1_takeLatestInto_32 (by decide) ?_
            refine lv_aload_n hx hb dX1_takeLatestInto_37 rfl (lv_at hl 3 rfl) ?_
            refine lv_aload_n hx hb dX1_takeLatestInto_38 rfl (lv_at hl 0 rfl) ?_
            refine bdv hr (fun r_29 e_30 hr => ?_)
            refine rwV_v (W1 := (stW Y b0 b1 b2 b3 b4 b5 b6 r_29) ++ (stW Y (ad 38) (ad 39) (ad 40) (ad 41) (ad 42) (ad 43) (ad 44) ((v1_states W0) 2))) (W' := ((hiW Y ad W0) ++ (stW Y b0 b1 b2 b3 b4 b5 b6 r_29))) (As := [.ref (ad 38)]) (rest := []) ⟨hx, hb, hml, hown, hts⟩ (k_X4_copyFrom l D Y b0 b1 b2 b3 b4 b5 b6 (ad 38) (ad 39) (ad 40) (ad 41) (ad 42) (ad 43) (ad 44) W1 ((v1_states W0) 2) r_29 e_30) (cwV 1 hts gX1_takeLatestInto_X4_copyFrom rfl rfl rfl (by decide +kernel) ⟨Nat.le_of_ble_eq_true rfl, Nat.le_of_ble_eq_true rfl⟩) hP hK hN hZ hD hS [30, 31, 32, 33, 34, 35, 36, 16, 17, 18, 19, 20, 21, 22] rfl (by decide) [.inl 0, .inl 1, .inl 2, .inl 3, .inl 4, .inl 5, .inl 6, .inl 7, .inl 8, .inl 9, .inl 10, .inl 11, .inl 12, .inl 13, .inl 14, .inl 15, .inr 7, .inr 8, .inr 9, .inr 10, .inr 11, .inr 12, .inr 13, .inl 23, .inl 24, .inl 25, .inl 26, .inl 27, .inl 28, .inl 29, .inr 0, .inr 1, .inr 2, .inr 3, .inr 4, .inr 5, .inr 6] (jk_ok _ _ (by decide)) rfl rfl 30 4 rfl rfl rfl hl.1 rfl (Nat.le_of_ble_eq_true rfl) dX1_takeLatestInto_39 ⟨Nat.le_refl 0, Nat.le_refl 0⟩ (fun H locs hP hD hS => ?_)
            refine lv_aload_n hx hb dX1_takeLatestInto_42 rfl (lv_at hl 2 rfl) ?_
            refine lv_iload_n hx hb dX1_takeLatestInto_43 rfl (lv_at hl 1 rfl) ?_
            refine va_put (D := D) (ci := 1) (v := .int y0) (ty := .int) (C := RX1) (T := TX1) (N := 3) hx hb hts inX1 tyX1 tyX1_ok nmX1 hown hK hP hD hS 0 rfl rfl 1 (by decide) (hts (.fieldLink RX1 15 "ShiftMaps$History" "next" "I") (List.mem_of_getElem? (i := 1) rfl)) (fun _ h9 => h9) rfl (by decide +kernel) rfl rfl (Nat.le_of_ble_eq_true rfl) dX1_takeLatestInto_44 (fun H locs hP hD hS => ?_)
            refine nmv hr (fun V_33 e_34 hr => ?_)
            have hP : va_P D vwCl ((hiW Y ad V_33) ++ (stW Y b0 b1 b2 b3 b4 b5 b6 r_29)) H := by rw [e_34]; exact hP
            have hD : va_D A ((hiW Y ad V_33) ++ (stW Y b0 b1 b2 b3 b4 b5 b6 r_29)) := va_D_adr hD rfl
            refine lv_aload_n hx hb dX1_takeLatestInto_47 rfl (lv_at hl 2 rfl) ?_
            refine lv_dup hx hb dX1_takeLatestInto_48 rfl ?_
            refine va_get (D := D) (ci := 1) (v := .int (v1_size V_33)) (C := RX1) (T := TX1) (N := 3) hx hb hts inX1 hown hK hP 0 rfl rfl 2 (by decide) (hts (.fieldLink RX1 19 "ShiftMaps$History" "size" "I") (List.mem_of_getElem? (i := 2) rfl)) (fun _ h9 => h9) rfl dX1_takeLatestInto_49 ?_
            refine lv_iconst (v := (1 : Int32)) hx hb dX1_takeLatestInto_52 (by decide) ?_
            refine lv_isub hx hb dX1_takeLatestInto_53 ?_
            refine va_put (D := D) (ci := 1) (v := .int ((v1_size V_33) - (1 : Int32))) (ty := .int) (C := RX1) (T := TX1) (N := 3) hx hb hts inX1 tyX1 tyX1_ok nmX1 hown hK hP hD hS 0 rfl rfl 2 (by decide) (hts (.fieldLink RX1 19 "ShiftMaps$History" "size" "I") (List.mem_of_getElem? (i := 2) rfl)) (fun _ h9 => h9) rfl (by decide +kernel) rfl rfl (Nat.le_of_ble_eq_true rfl) dX1_takeLatestInto_54 (fun H locs hP hD hS => ?_)
            refine nmv hr (fun V_37 e_38 hr => ?_)
            have hP : va_P D vwCl ((hiW Y ad V_37) ++ (stW Y b0 b1 b2 b3 b4 b5 b6 r_29)) H := by rw [e_38]; exact hP
            have hD : va_D A ((hiW Y ad V_37) ++ (stW Y b0 b1 b2 b3 b4 b5 b6 r_29)) := va_D_adr hD rfl
            refine lv_iconst (v := (1 : Int32)) hx hb dX1_takeLatestInto_57 (by decide) ?_
            have hr := Option.some.inj hr
            subst hr
            exact W.zret (ty := .boolean) hx hb hrt (by decide) (fun t ht hW => ⟨⟨_, (), rfl, rfl, by show va_P D vwCl _ t.heap; rw [ht]; exact hP⟩, hS.F ht⟩) hS.2.2 dX1_takeLatestInto_58
        · have hr := hr.trans (if_neg c_4)
          by_cases c_5 : y0 = (3 : Int32)
          · have hr := hr.trans (if_pos c_5)
            rw [hrow_3 ad c_5]
            refine lv_astore_n (lv' := [(3, .ref (ad 45)), (2, .int y0), (0, .ref (ad 22)), (1, .ref b0)]) hx hb dX1_takeLatestInto_23 rfl hl (by decide) rfl (fun ls hl => ?_)
            refine lv_aload_n hx hb dX1_takeLatestInto_24 rfl (lv_at hl 2 rfl) ?_
            refine va_get (D := D) (ci := 1) (v := .int (v1_size W0)) (C := RX1) (T := TX1) (N := 3) hx hb hts inX1 hown hK hP 0 rfl rfl 2 (by decide) (hts (.fieldLink RX1 19 "ShiftMaps$History" "size" "I") (List.mem_of_getElem? (i := 2) rfl)) (fun _ h9 => h9) rfl dX1_takeLatestInto_25 ?_
            refine lv_if_eq (tgt := 35) hx hb dX1_takeLatestInto_28 (by decide) (fun c_39 => ?_) (fun c_39 => ?_)
            · have hr := hr.trans (if_pos c_39)
              refine lv_iconst (v := (0 : Int32)) hx hb dX1_takeLatestInto_35 (by decide) ?_
              have hr := Option.some.inj hr
              subst hr
              exact W.zret (ty := .boolean) hx hb hrt (by decide) (fun t ht hW => ⟨⟨_, (), rfl, rfl, by show va_P D vwCl _ t.heap; rw [ht]; exact hP⟩, hS.F ht⟩) hS.2.2 dX1_takeLatestInto_36
            · have hr := hr.trans (if_neg c_39)
              refine lv_aload_n hx hb dX1_takeLatestInto_31 rfl (lv_at hl 0 rfl) ?_
              refine lv_ifnonnull (tgt := 37) hx hb dX1_takeLatestInto_32 (by decide) ?_
              refine lv_aload_n hx hb dX1_takeLatestInto_37 rfl (lv_at hl 3 rfl) ?_
              refine lv_aload_n hx hb dX1_takeLatestInto_38 rfl (lv_at hl 0 rfl) ?_
              refine bdv hr (fun r_40 e_41 hr => ?_)
              refine rwV_v (W1 := (stW Y b0 b1 b2 b3 b4 b5 b6 r_40) ++ (stW Y (ad 45) (ad 46) (ad 47) (ad 48) (ad 49) (ad 50) (ad 51) ((v1_states W0) 3))) (W' := ((hiW Y ad W0) ++ (stW Y b0 b1 b2 b3 b4 b5 b6 r_40))) (As := [.ref (ad 45)]) (rest := []) ⟨hx, hb, hml, hown, hts⟩ (k_X4_copyFrom l D Y b0 b1 b2 b3 b4 b5 b6 (ad 45) (ad 46) (ad 47) (ad 48) (ad 49) (ad 50) (ad 51) W1 ((v1_states W0) 3) r_40 e_41) (cwV 1 hts gX1_takeLatestInto_X4_copyFrom rfl rfl rfl (by decide +kernel) ⟨Nat.le_of_ble_eq_true rfl, Nat.le_of_ble_eq_true rfl⟩) hP hK hN hZ hD hS [30, 31, 32, 33, 34, 35, 36, 23, 24, 25, 26, 27, 28, 29] rfl (by decide) [.inl 0, .inl 1, .inl 2, .inl 3, .inl 4, .inl 5, .inl 6, .inl 7, .inl 8, .inl 9, .inl 10, .inl 11, .inl 12, .inl 13, .inl 14, .inl 15, .inl 16, .inl 17, .inl 18, .inl 19, .inl 20, .inl 21, .inl 22, .inr 7, .inr 8, .inr 9, .inr 10, .inr 11, .inr 12, .inr 13, .inr 0, .inr 1, .inr 2, .inr 3, .inr 4, .inr 5, .inr 6] (jk_ok _ _ (by decide)) rfl rfl 30 4 rfl rfl rfl hl.1 rfl (Nat.le_of_ble_eq_true rfl) dX1_takeLatestInto_39 ⟨Nat.le_refl 0, Nat.le_refl 0⟩ (fun H locs hP hD hS => ?_)
              refine lv_aload_n hx hb dX1_takeLatestInto_42 rfl (lv_at hl 2 rfl) ?_
              refine lv_iload_n hx hb dX1_takeLatestInto_43 rfl (lv_at hl 1 rfl) ?_
              refine va_put (D := D) (ci := 1) (v := .int y0) (ty := .int) (C := RX1) (T := TX1) (N := 3) hx hb hts inX1 tyX1 tyX1_ok nmX1 hown hK hP hD hS 0 rfl rfl 1 (by decide) (hts (.fieldLink RX1 15 "ShiftMaps$History" "next" "I") (List.mem_of_getElem? (i := 1) rfl)) (fun _ h9 => h9) rfl (by decide +kernel) rfl rfl (Nat.le_of_ble_eq_true rfl) dX1_takeLatestInto_44 (fun H locs hP hD hS => ?_)
              refine nmv hr (fun V_44 e_45 hr => ?_)
              have hP : va_P D vwCl ((hiW Y ad V_44) ++ (stW Y b0 b1 b2 b3 b4 b5 b6 r_40)) H := by rw [e_45]; exact hP
              have hD : va_D A ((hiW Y ad V_44) ++ (stW Y b0 b1 b2 b3 b4 b5 b6 r_40)) := va_D_adr hD rfl
              refine lv_aload_n hx hb dX1_takeLatestInto_47 rfl (lv_at hl 2 rfl) ?_
              refine lv_dup hx hb dX1_takeLatestInto_48 rfl ?_
              refine va_get (D := D) (ci := 1) (v := .int (v1_size V_44)) (C := RX1) (T := TX1) (N := 3) hx hb hts inX1 hown hK hP 0 rfl rfl 2 (by decide) (hts (.fieldLink RX1 19 "ShiftMaps$History" "size" "I") (List.mem_of_getElem? (i := 2) rfl)) (fun _ h9 => h9) rfl dX1_takeLatestInto_49 ?_
              refine lv_iconst (v := (1 : Int32)) hx hb dX1_takeLatestInto_52 (by decide) ?_
              refine lv_isub hx hb dX1_takeLatestInto_53 ?_
              refine va_put (D := D) (ci := 1) (v := .int ((v1_size V_44) - (1 : Int32))) (ty := .int) (C := RX1) (T := TX1) (N := 3) hx hb hts inX1 tyX1 tyX1_ok nmX1 hown hK hP hD hS 0 rfl rfl 2 (by decide) (hts (.fieldLink RX1 19 "ShiftMaps$History" "size" "I") (List.mem_of_getElem? (i := 2) rfl)) (fun _ h9 => h9) rfl (by decide +kernel) rfl rfl (Nat.le_of_ble_eq_true rfl) dX1_takeLatestInto_54 (fun H locs hP hD hS => ?_)
              refine nmv hr (fun V_48 e_49 hr => ?_)
              have hP : va_P D vwCl ((hiW Y ad V_48) ++ (stW Y b0 b1 b2 b3 b4 b5 b6 r_40)) H := by rw [e_49]; exact hP
              have hD : va_D A ((hiW Y ad V_48) ++ (stW Y b0 b1 b2 b3 b4 b5 b6 r_40)) := va_D_adr hD rfl
              refine lv_iconst (v := (1 : Int32)) hx hb dX1_takeLatestInto_57 (by decide) ?_
              have hr := Option.some.inj hr
              subst hr
              exact W.zret (ty := .boolean) hx hb hrt (by decide) (fun t ht hW => ⟨⟨_, (), rfl, rfl, by show va_P D vwCl _ t.heap; rw [ht]; exact hP⟩, hS.F ht⟩) hS.2.2 dX1_takeLatestInto_58
          · have hr := hr.trans (if_neg c_5)
            rw [hrow_4 ad c_2 c_3 c_4 c_5]
            refine lv_astore_nN (lv' := [(3, .null), (2, .int y0), (0, .ref (ad 22)), (1, .ref b0)]) hx hb dX1_takeLatestInto_23 rfl hl (by decide) rfl (fun ls hl => ?_)
            refine lv_aload_n hx hb dX1_takeLatestInto_24 rfl (lv_at hl 2 rfl) ?_
            refine va_get (D := D) (ci := 1) (v := .int (v1_size W0)) (C := RX1) (T := TX1) (N := 3) hx hb hts inX1 hown hK hP 0 rfl rfl 2 (by decide) (hts (.fieldLink RX1 19 "ShiftMaps$History" "size" "I") (List.mem_of_getElem? (i := 2) rfl)) (fun _ h9 => h9) rfl dX1_takeLatestInto_25 ?_
            refine lv_if_eq (tgt := 35) hx hb dX1_takeLatestInto_28 (by decide) (fun c_50 => ?_) (fun c_50 => ?_)
            · have hr := hr.trans (if_pos c_50)
              refine lv_iconst (v := (0 : Int32)) hx hb dX1_takeLatestInto_35 (by decide) ?_
              have hr := Option.some.inj hr
              subst hr
              exact W.zret (ty := .boolean) hx hb hrt (by decide) (fun t ht hW => ⟨⟨_, (), rfl, rfl, by show va_P D vwCl _ t.heap; rw [ht]; exact hP⟩, hS.F ht⟩) hS.2.2 dX1_takeLatestInto_36
            · have hr := hr.trans (if_neg c_50)
              refine lv_aload_nN hx hb dX1_takeLatestInto_31 rfl (lv_at hl 0 rfl) ?_
              refine lv_ifnonnullN hx hb dX1_takeLatestInto_32 ?_
              refine lv_iconst (v := (0 : Int32)) hx hb dX1_takeLatestInto_35 (by decide) ?_
              have hr := Option.some.inj hr
              subst hr
              exact W.zret (ty := .boolean) hx hb hrt (by decide) (fun t ht hW => ⟨⟨_, (), rfl, rfl, by show va_P D vwCl _ t.heap; rw [ht]; exact hP⟩, hS.F ht⟩) hS.2.2 dX1_takeLatestInto_36
  rw [mf_X1_takeLatestInto] at hr
  suffices KK : ∀ (H : Heap) (locs : List Loc), va_P D vwCl ((hiW Y ad V) ++ (stW Y b0 b1 b2 b3 b4 b5 b6 U)) H → va_S A s.heap H locs → W p l e ({ frames := 3, cells := 0, slots := 0, locals := 102 } : Room) s m ([.ref (ad 22), .ref b0] : List Value).toArray below meth c H locs 0 0 (MQ below (va_Qi (S := Unit) (fun r _ => r = R.1) (fun _ t => va_P D vwCl ((hiW Y ad R.2.1) ++ (stW Y b0 b1 b2 b3 b4 b5 b6 R.2.2)) t.heap) A) ([.ref (ad 22), .ref b0] : List Value).toArray s 0 0 A) (F0 m 0 ls []) from KK _ _ hP hS
  intro H locs hP hS
  refine lv_aload_n hx hb dX1_takeLatestInto_0 rfl (lv_at hl 0 rfl) ?_
  refine va_get (D := D) (ci := 1) (v := .int (v1_next V)) (C := RX1) (T := TX1) (N := 3) hx hb hts inX1 hown hK hP 0 rfl rfl 1 (by decide) (hts (.fieldLink RX1 15 "ShiftMaps$History" "next" "I") (List.mem_of_getElem? (i := 1) rfl)) (fun _ h9 => h9) rfl dX1_takeLatestInto_1 ?_
  refine lv_if_le (tgt := 16) hx hb dX1_takeLatestInto_4 (by decide) (fun c_1 => ?_) (fun c_1 => ?_)
  · have hr := hr.trans (if_pos c_1)
    refine lv_iconst (v := (3 : Int32)) hx hb dX1_takeLatestInto_16 (by decide) ?_
    exact B17 V U (3 : Int32) _ _ _ hr hP hD hS (lv_sub hl [0, 1] rfl)
  · have hr := hr.trans (if_neg c_1)
    refine lv_aload_n hx hb dX1_takeLatestInto_7 rfl (lv_at hl 0 rfl) ?_
    refine va_get (D := D) (ci := 1) (v := .int (v1_next V)) (C := RX1) (T := TX1) (N := 3) hx hb hts inX1 hown hK hP 0 rfl rfl 1 (by decide) (hts (.fieldLink RX1 15 "ShiftMaps$History" "next" "I") (List.mem_of_getElem? (i := 1) rfl)) (fun _ h9 => h9) rfl dX1_takeLatestInto_8 ?_
    refine lv_iconst (v := (1 : Int32)) hx hb dX1_takeLatestInto_11 (by decide) ?_
    refine lv_isub hx hb dX1_takeLatestInto_12 ?_
    refine lv_goto (tgt := 17) hx hb dX1_takeLatestInto_13 (by decide) ?_
    exact B17 V U ((v1_next V) - (1 : Int32)) _ _ _ hr hP hD hS (lv_sub hl [0, 1] rfl)
