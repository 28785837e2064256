set_option maxHeartbeats 4000000 in
set_option maxRecDepth 100000 in
theorem k_X5_setMap (l : Launch) (D : va_G) (Y : Nat → ClassId) (ad : Nat → Nat) (V : CarV) (x1 : Int32) (x2 : Int32) (x3 : Int32) (R : Int32 × CarV) (hr : some R = mf_X5_setMap V x1 x2 x3) : Met l yX5_setMap wsX5_setMap ({ frames := 4, cells := 0, slots := 0, locals := 124 } : Room) (va_Pc [.ref (ad 0), .int x1, .int x2, .int x3] (PW D Y (carW Y ad V))) (va_Qi (S := Unit) (fun r _ => r = R.1) (fun _ t => va_P D vwCl (carW Y ad R.2) t.heap) (wA (carW Y ad V))) 0 0 (wA (carW Y ad V)) := by
  refine Met.ofW (cc := cX5_setMap) (maxL := 5) (ret := (some .int)) (by decide) rfl ?_
  intro p e s m args below meth c s₁ B hml hv
  obtain ⟨rfl, hP, hK, hN, hZ, hD⟩ := hv
  have hx := B.exec
  have hb := B.bytes
  have hrt := B.returns
  have hts := atoms_spec (ws := wsX5_setMap) B.pre
  have hown : s.vm.findClass RX5 = some m.cls := findClass_of_methodNamed B.named
  have hlocks := B.notSynchronized
  have inX4 : ∀ w ∈ u_ws RX4 TX4 11, w ∈ wsX5_setMap := uin_at 84 rfl
  have inX5 : ∀ w ∈ u_ws RX5 TX5 6, w ∈ wsX5_setMap := uin_at 78 rfl
  generalize hAe : wA (carW Y ad V) = A at hZ hD ⊢
  have hS : va_S A s.heap s.heap [] := va_S.rf
  have hl := lv_entry ([.ref (ad 0), .int x1, .int x2, .int x3]) (n := 5) (Nat.le_of_ble_eq_true rfl)
  rw [lg_entry_eq]
  generalize (lg_sl ([.ref (ad 0), .int x1, .int x2, .int x3]) ++ List.replicate (5 - (lg_sl ([.ref (ad 0), .int x1, .int x2, .int x3])).length) Slot.unset).toArray = ls at hl ⊢
  have hl : lv_has ls 5 [(0, .ref (ad 0)), (1, .int x1), (2, .int x2), (3, .int x3)] := hl
  rw [mf_X5_setMap] at hr
  suffices KK : ∀ (H : Heap) (locs : List Loc), va_P D vwCl (carW Y ad V) H → va_S A s.heap H locs → W p l e ({ frames := 4, cells := 0, slots := 0, locals := 124 } : Room) s m ([.ref (ad 0), .int x1, .int x2, .int x3] : List Value).toArray below meth c H locs 0 0 (MQ below (va_Qi (S := Unit) (fun r _ => r = R.1) (fun _ t => va_P D vwCl (carW Y ad R.2) t.heap) A) ([.ref (ad 0), .int x1, .int x2, .int x3] : List Value).toArray s 0 0 A) (F0 m 0 ls []) from KK _ _ hP hS
  intro H locs hP hS
  refine lv_iload_n hx hb dX5_setMap_0 rfl (lv_at hl 2 rfl) ?_
  refine lv_if_lt (tgt := 9) hx hb dX5_setMap_1 (by decide) (fun c_1 => ?_) (fun c_1 => ?_)
  · have hr := hr.trans (if_pos c_1)
    refine lv_bipush (v := (-2 : Int32)) hx hb dX5_setMap_9 (by decide) ?_
    have hr := Option.some.inj hr
    subst hr
    exact W.iret hx hb hrt (fun t ht hW => ⟨⟨_, (), rfl, rfl, by show va_P D vwCl _ t.heap; rw [ht]; exact hP⟩, hS.F ht⟩) hS.2.2 dX5_setMap_11
  · have hr := hr.trans (if_neg c_1)
    refine lv_iload_n hx hb dX5_setMap_4 rfl (lv_at hl 2 rfl) ?_
    refine lv_iconst (v := (3 : Int32)) hx hb dX5_setMap_5 (by decide) ?_
    refine lv_icmp_le (tgt := 12) hx hb dX5_setMap_6 (by decide) (fun c_2 => ?_) (fun c_2 => ?_)
    · have hr := hr.trans (if_pos c_2)
      refine lv_iload_n hx hb dX5_setMap_12 rfl (lv_at hl 1 rfl) ?_
      refine lv_iload_n hx hb dX5_setMap_13 rfl (lv_at hl 2 rfl) ?_
      refine nmv hr (fun r_3 e_4 hr => ?_)
      refine roS_i (As := [.int x1, .int x2]) (rest := []) ⟨hx, hb, hml, hown, hts⟩ (k_X3_has l D Y  x1 x2 r_3 e_4) (va_cwS 2 hts gX5_setMap_X3_has rfl rfl rfl (by decide +kernel) ⟨Nat.le_of_ble_eq_true rfl, Nat.le_of_ble_eq_true rfl⟩) (hP.sub (ws' := []) [] rfl) hK hN (hZ.at hS).F rfl hl.1 rfl (Nat.le_of_ble_eq_true rfl) dX5_setMap_14 ⟨Nat.le_refl 0, Nat.le_refl 0⟩ ?_
      refine lv_if_ne (tgt := 22) hx hb dX5_setMap_17 (by decide) (fun c_5 => ?_) (fun c_5 => ?_)
      · have hr := hr.trans (if_neg c_5)
        refine lv_iload_n hx hb dX5_setMap_22 rfl (lv_at hl 3 rfl) ?_
        refine nmv hr (fun r_6 e_7 hr => ?_)
        refine roS_i (As := [.int x3]) (rest := []) ⟨hx, hb, hml, hown, hts⟩ (k_X5_isSpeed l D Y  x3 r_6 e_7) (va_cwS 1 hts gX5_setMap_X5_isSpeed rfl rfl rfl (by decide +kernel) ⟨Nat.le_of_ble_eq_true rfl, Nat.le_of_ble_eq_true rfl⟩) (hP.sub (ws' := []) [] rfl) hK hN (hZ.at hS).F rfl hl.1 rfl (Nat.le_of_ble_eq_true rfl) dX5_setMap_23 ⟨Nat.le_refl 0, Nat.le_refl 0⟩ ?_
        refine lv_if_ne (tgt := 32) hx hb dX5_setMap_26 (by decide) (fun c_8 => ?_) (fun c_8 => ?_)
        · have hr := hr.trans (if_neg c_8)
          refine lv_iload_n hx hb dX5_setMap_32 rfl (lv_at hl 3 rfl) ?_
          refine bdv hr (fun r_9 e_10 hr => ?_)
          refine roS_f (As := [.int x3]) (rest := []) ⟨hx, hb, hml, hown, hts⟩ (k_X5_floatOf l D Y  x3 r_9 e_10) (va_cwS 1 hts gX5_setMap_X5_floatOf rfl rfl rfl (by decide +kernel) ⟨Nat.le_of_ble_eq_true rfl, Nat.le_of_ble_eq_true rfl⟩) (hP.sub (ws' := []) [] rfl) hK hN (hZ.at hS).F rfl hl.1 rfl (Nat.le_of_ble_eq_true rfl) dX5_setMap_33 ⟨Nat.le_refl 0, Nat.le_refl 0⟩ ?_
          refine lv_fstore (lv' := [(4, .float r_9), (0, .ref (ad 0)), (1, .int x1), (2, .int x2), (3, .int x3)]) hx hb dX5_setMap_36 hl (by decide) rfl (fun ls hl => ?_)
          refine lv_aload_n hx hb dX5_setMap_38 rfl (lv_at hl 1 rfl) ?_
          refine va_get (D := D) (ci := 5) (v := .ref (ad 1)) (C := RX5) (T := TX5) (N := 6) hx hb hts inX5 hown hK hP 0 rfl rfl 0 (by decide) (hts (.fieldLink RX5 10 "ShiftMaps" "now" "LShiftMaps$State;") (List.mem_of_getElem? (i := 1) rfl)) (fun _ h9 => h9) rfl dX5_setMap_39 ?_
          refine va_getN (D := D) (ci := 4) (v := .ref (ad 2)) (C := RX4) (T := TX4) (N := 11) hx hb hts inX4 hown hK hP 1 rfl rfl 0 (by decide) (va_Nw.use rfl (NZ.n54 hN)) (fun _ h9 => h9) rfl dX5_setMap_42 ?_
          refine lv_iload_n hx hb dX5_setMap_45 rfl (lv_at hl 2 rfl) ?_
          refine lv_iload_n hx hb dX5_setMap_46 rfl (lv_at hl 3 rfl) ?_
          refine nmv hr (fun r_11 e_12 hr => ?_)
          refine roV_f (As := [.int x1, .int x2]) (rest := []) ⟨hx, hb, hml, hown, hts⟩ (k_X3_speed l D Y (ad 2) (ad 3) (v4_maps (v5_now V)) x1 x2 r_11 e_12) (cwV 2 hts gX5_setMap_X3_speed rfl rfl rfl (by decide +kernel) ⟨Nat.le_of_ble_eq_true rfl, Nat.le_of_ble_eq_true rfl⟩) (hP.sub (ws' := (mpW Y (ad 2) (ad 3) (v4_maps (v5_now V)))) [2, 3] rfl) hK hN (hZ.at hS).F 0 3 rfl rfl rfl hl.1 rfl (Nat.le_of_ble_eq_true rfl) dX5_setMap_47 ⟨Nat.le_refl 0, Nat.le_refl 0⟩ ?_
          refine lv_fload hx hb dX5_setMap_50 (lv_at hl 0 rfl) ?_
          refine lv_fcmp hx hb dX5_setMap_52 ?_
          refine lv_if_ne (tgt := 59) hx hb dX5_setMap_53 (by decide) (fun c_13 => ?_) (fun c_13 => ?_)
          · have hr := hr.trans (if_neg c_13)
            refine lv_aload_n hx hb dX5_setMap_59 rfl (lv_at hl 1 rfl) ?_
            refine va_get (D := D) (ci := 5) (v := .ref (ad 22)) (C := RX5) (T := TX5) (N := 6) hx hb hts inX5 hown hK hP 0 rfl rfl 3 (by decide) (hts (.fieldLink RX5 25 "ShiftMaps" "history" "LShiftMaps$History;") (List.mem_of_getElem? (i := 2) rfl)) (fun _ h9 => h9) rfl dX5_setMap_60 ?_
            refine lv_aload_n hx hb dX5_setMap_63 rfl (lv_at hl 1 rfl) ?_
            refine va_get (D := D) (ci := 5) (v := .ref (ad 1)) (C := RX5) (T := TX5) (N := 6) hx hb hts inX5 hown hK hP 0 rfl rfl 0 (by decide) (hts (.fieldLink RX5 10 "ShiftMaps" "now" "LShiftMaps$State;") (List.mem_of_getElem? (i := 1) rfl)) (fun _ h9 => h9) rfl dX5_setMap_64 ?_
            refine bdv hr (fun r_14 e_15 hr => ?_)
            refine nmv hr (fun V_16 e_17 hr => ?_)
            refine rwV_v (W1 := (hiW Y ad r_14) ++ (stW Y (ad 1) (ad 2) (ad 3) (ad 4) (ad 5) (ad 6) (ad 7) (v5_now V))) (W' := (carW Y ad V_16)) (As := [.ref (ad 1)]) (rest := []) ⟨hx, hb, hml, hown, hts⟩ (k_X1_record l D Y ad (ad 1) (ad 2) (ad 3) (ad 4) (ad 5) (ad 6) (ad 7) (v5_history V) (v5_now V) r_14 e_15) (cwV 1 hts gX5_setMap_X1_record rfl rfl rfl (by decide +kernel) ⟨Nat.le_of_ble_eq_true rfl, Nat.le_of_ble_eq_true rfl⟩) hP hK hN hZ hD hS [22, 23, 24, 25, 26, 27, 28, 29, 30, 31, 32, 33, 34, 35, 36, 37, 38, 39, 40, 41, 42, 43, 44, 45, 46, 47, 48, 49, 50, 51, 1, 2, 3, 4, 5, 6, 7] rfl (by decide) [.inl 0, .inr 30, .inr 31, .inr 32, .inr 33, .inr 34, .inr 35, .inr 36, .inl 8, .inl 9, .inl 10, .inl 11, .inl 12, .inl 13, .inl 14, .inl 15, .inl 16, .inl 17, .inl 18, .inl 19, .inl 20, .inl 21, .inr 0, .inr 1, .inr 2, .inr 3, .inr 4, .inr 5, .inr 6, .inr 7, .inr 8, .inr 9, .inr 10, .inr 11, .inr 12, .inr 13, .inr 14, .inr 15, .inr 16, .inr 17, .inr 18, .inr 19, .inr 20, .inr 21, .inr 22, .inr 23, .inr 24, .inr 25, .inr 26, .inr 27, .inr 28, .inr 29, .inl 52, .inl 53, .inl 54] (jk_ok _ _ (by decide)) (by rw [e_17]; rfl) rfl 22 1 rfl rfl rfl hl.1 rfl (Nat.le_of_ble_eq_true rfl) dX5_setMap_67 ⟨Nat.le_refl 0, Nat.le_refl 0⟩ (fun H locs hP hD hS => ?_)
            refine lv_aload_n hx hb dX5_setMap_70 rfl (lv_at hl 1 rfl) ?_
            refine va_get (D := D) (ci := 5) (v := .ref (ad 1)) (C := RX5) (T := TX5) (N := 6) hx hb hts inX5 hown hK hP 0 rfl rfl 0 (by decide) (hts (.fieldLink RX5 10 "ShiftMaps" "now" "LShiftMaps$State;") (List.mem_of_getElem? (i := 1) rfl)) (fun _ h9 => h9) rfl dX5_setMap_71 ?_
            refine va_getN (D := D) (ci := 4) (v := .ref (ad 2)) (C := RX4) (T := TX4) (N := 11) hx hb hts inX4 hown hK hP 1 rfl rfl 0 (by decide) (va_Nw.use rfl (NZ.n54 hN)) (fun _ h9 => h9) rfl dX5_setMap_74 ?_
            refine lv_iload_n hx hb dX5_setMap_77 rfl (lv_at hl 2 rfl) ?_
            refine lv_iload_n hx hb dX5_setMap_78 rfl (lv_at hl 3 rfl) ?_
            refine lv_fload hx hb dX5_setMap_79 (lv_at hl 0 rfl) ?_
            refine bdv hr (fun r_18 e_19 hr => ?_)
            refine nmv hr (fun V_20 e_21 hr => ?_)
            refine rwV_v (W1 := (mpW Y (ad 2) (ad 3) r_18)) (W' := (carW Y ad V_20)) (As := [.int x1, .int x2, .float r_9]) (rest := []) ⟨hx, hb, hml, hown, hts⟩ (k_X3_put l D Y (ad 2) (ad 3) (v4_maps (v5_now V_16)) x1 x2 r_9 r_18 e_19) (cwV 3 hts gX5_setMap_X3_put rfl rfl rfl (by decide +kernel) ⟨Nat.le_of_ble_eq_true rfl, Nat.le_of_ble_eq_true rfl⟩) hP hK hN hZ hD hS [2, 3] rfl (by decide) [.inl 0, .inl 1, .inr 0, .inr 1, .inl 4, .inl 5, .inl 6, .inl 7, .inl 8, .inl 9, .inl 10, .inl 11, .inl 12, .inl 13, .inl 14, .inl 15, .inl 16, .inl 17, .inl 18, .inl 19, .inl 20, .inl 21, .inl 22, .inl 23, .inl 24, .inl 25, .inl 26, .inl 27, .inl 28, .inl 29, .inl 30, .inl 31, .inl 32, .inl 33, .inl 34, .inl 35, .inl 36, .inl 37, .inl 38, .inl 39, .inl 40, .inl 41, .inl 42, .inl 43, .inl 44, .inl 45, .inl 46, .inl 47, .inl 48, .inl 49, .inl 50, .inl 51, .inl 52, .inl 53, .inl 54] (jk_ok _ _ (by decide)) (by rw [e_21]; rfl) rfl 2 3 rfl rfl rfl hl.1 rfl (Nat.le_of_ble_eq_true rfl) dX5_setMap_81 ⟨Nat.le_refl 0, Nat.le_refl 0⟩ (fun H locs hP hD hS => ?_)
            refine lv_iconst (v := (1 : Int32)) hx hb dX5_setMap_84 (by decide) ?_
            have hr := Option.some.inj hr
            subst hr
            exact W.iret hx hb hrt (fun t ht hW => ⟨⟨_, (), rfl, rfl, by show va_P D vwCl _ t.heap; rw [ht]; exact hP⟩, hS.F ht⟩) hS.2.2 dX5_setMap_85
          · have hr := hr.trans (if_pos c_13)
            refine lv_bipush (v := (-5 : Int32)) hx hb dX5_setMap_56 (by decide) ?_
            have hr := Option.some.inj hr
            subst hr
            exact W.iret hx hb hrt (fun t ht hW => ⟨⟨_, (), rfl, rfl, by show va_P D vwCl _ t.heap; rw [ht]; exact hP⟩, hS.F ht⟩) hS.2.2 dX5_setMap_58
        · have hr := hr.trans (if_pos c_8)
          refine lv_bipush (v := (-2 : Int32)) hx hb dX5_setMap_29 (by decide) ?_
          have hr := Option.some.inj hr
          subst hr
          exact W.iret hx hb hrt (fun t ht hW => ⟨⟨_, (), rfl, rfl, by show va_P D vwCl _ t.heap; rw [ht]; exact hP⟩, hS.F ht⟩) hS.2.2 dX5_setMap_31
      · have hr := hr.trans (if_pos c_5)
        refine lv_iconst (v := (-1 : Int32)) hx hb dX5_setMap_20 (by decide) ?_
        have hr := Option.some.inj hr
        subst hr
        exact W.iret hx hb hrt (fun t ht hW => ⟨⟨_, (), rfl, rfl, by show va_P D vwCl _ t.heap; rw [ht]; exact hP⟩, hS.F ht⟩) hS.2.2 dX5_setMap_21
    · have hr := hr.trans (if_neg c_2)
      refine lv_bipush (v := (-2 : Int32)) hx hb dX5_setMap_9 (by decide) ?_
      have hr := Option.some.inj hr
      subst hr
      exact W.iret hx hb hrt (fun t ht hW => ⟨⟨_, (), rfl, rfl, by show va_P D vwCl _ t.heap; rw [ht]; exact hP⟩, hS.F ht⟩) hS.2.2 dX5_setMap_11

set_option maxHeartbeats 4000000 in
set_option maxRecDepth 100000 in
theorem k_X5_setNumber (l : Launch) (D : va_G) (Y : Nat → ClassId) (ad : Nat → Nat) (V : CarV) (x1 : Int32) (x2 : Int32) (R : Int32 × CarV) (hr : some R = mf_X5_setNumber V x1 x2) : Met l yX5_setNumber wsX5_setNumber ({ frames := 4, cells := 0, slots := 0, locals := 124 } : Room) (va_Pc [.ref (ad 0), .int x1, .int x2] (PW D Y (carW Y ad V))) (va_Qi (S := Unit) (fun r _ => r = R.1) (fun _ t => va_P D vwCl (carW Y ad R.2) t.heap) (wA (carW Y ad V))) 0 0 (wA (carW Y ad V)) := by
  refine Met.ofW (cc := cX5_setNumber) (maxL := 4) (ret := (some .int)) (by decide) rfl ?_
  intro p e s m args below meth c s₁ B hml hv
  obtain ⟨rfl, hP, hK, hN, hZ, hD⟩ := hv
  have hx := B.exec
  have hb := B.bytes
  have hrt := B.returns
  have hts := atoms_spec (ws := wsX5_setNumber) B.pre
  have hown : s.vm.findClass RX5 = some m.cls := findClass_of_methodNamed B.named
  have hlocks := B.notSynchronized
  have inX5 : ∀ w ∈ u_ws RX5 TX5 6, w ∈ wsX5_setNumber := uin_at 72 rfl
  generalize hAe : wA (carW Y ad V) = A at hZ hD ⊢
  have hS : va_S A s.heap s.heap [] := va_S.rf
  have hl := lv_entry ([.ref (ad 0), .int x1, .int x2]) (n := 4) (Nat.le_of_ble_eq_true rfl)
  rw [lg_entry_eq]
  generalize (lg_sl ([.ref (ad 0), .int x1, .int x2]) ++ List.replicate (4 - (lg_sl ([.ref (ad 0), .int x1, .int x2])).length) Slot.unset).toArray = ls at hl ⊢
  have hl : lv_has ls 4 [(0, .ref (ad 0)), (1, .int x1), (2, .int x2)] := hl
  have B44 : ∀ (W0 : CarV) (z1 : Int32) (z2 : Int32) (H : Heap) (locs : List Loc) (ls : Array Slot), some R = mf_X5_setNumber_B44 W0 z1 z2 → va_P D vwCl (carW Y ad W0) H → va_D A (carW Y ad W0) → va_S A s.heap H locs → lv_has ls 4 [(0, .ref (ad 0)), (1, .int z1), (2, .int z2)] → W p l e ({ frames := 4, cells := 0, slots := 0, locals := 124 } : Room) s m ([.ref (ad 0), .int x1, .int x2] : List Value).toArray below meth c H locs 0 0 (MQ below (va_Qi (S := Unit) (fun r _ => r = R.1) (fun _ t => va_P D vwCl (carW Y ad R.2) t.heap) A) ([.ref (ad 0), .int x1, .int x2] : List Value).toArray s 0 0 A) (F0 m 44 ls []) := by
    intro W0 z1 z2 H locs ls hr hP hD hS hl
    rw [mf_X5_setNumber_B44] at hr
    refine lv_aload_n hx hb dX5_setNumber_44 rfl (lv_at hl 0 rfl) ?_
    refine va_get (D := D) (ci := 5) (v := .ref (ad 1)) (C := RX5) (T := TX5) (N := 6) hx hb hts inX5 hown hK hP 0 rfl rfl 0 (by decide) (hts (.fieldLink RX5 10 "ShiftMaps" "now" "LShiftMaps$State;") (List.mem_of_getElem? (i := 1) rfl)) (fun _ h9 => h9) rfl dX5_setNumber_45 ?_
    refine lv_iload_n hx hb dX5_setNumber_48 rfl (lv_at hl 1 rfl) ?_
    refine nmv hr (fun r_7 e_8 hr => ?_)
    refine roV_i (As := [.int z1]) (rest := []) ⟨hx, hb, hml, hown, hts⟩ (k_X4_setting l D Y (ad 1) (ad 2) (ad 3) (ad 4) (ad 5) (ad 6) (ad 7) (v5_now W0) z1 r_7 e_8) (cwV 1 hts gX5_setNumber_X4_setting rfl rfl rfl (by decide +kernel) ⟨Nat.le_of_ble_eq_true rfl, Nat.le_of_ble_eq_true rfl⟩) (hP.sub (ws' := (stW Y (ad 1) (ad 2) (ad 3) (ad 4) (ad 5) (ad 6) (ad 7) (v5_now W0))) [1, 2, 3, 4, 5, 6, 7] rfl) hK hN (hZ.at hS).F 0 4 rfl rfl rfl hl.1 rfl (Nat.le_of_ble_eq_true rfl) dX5_setNumber_49 ⟨Nat.le_refl 0, Nat.le_refl 0⟩ ?_
    refine lv_istore_n (lv' := [(3, .int r_7), (0, .ref (ad 0)), (1, .int z1), (2, .int z2)]) hx hb dX5_setNumber_52 rfl hl (by decide) rfl (fun ls hl => ?_)
    refine lv_iload_n hx hb dX5_setNumber_53 rfl (lv_at hl 0 rfl) ?_
    refine lv_iload_n hx hb dX5_setNumber_54 rfl (lv_at hl 3 rfl) ?_
    refine lv_icmp_ne (tgt := 61) hx hb dX5_setNumber_55 (by decide) (fun c_9 => ?_) (fun c_9 => ?_)
    · have hr := hr.trans (if_neg c_9)
      refine lv_aload_n hx hb dX5_setNumber_61 rfl (lv_at hl 1 rfl) ?_
      refine va_get (D := D) (ci := 5) (v := .ref (ad 22)) (C := RX5) (T := TX5) (N := 6) hx hb hts inX5 hown hK hP 0 rfl rfl 3 (by decide) (hts (.fieldLink RX5 25 "ShiftMaps" "history" "LShiftMaps$History;") (List.mem_of_getElem? (i := 2) rfl)) (fun _ h9 => h9) rfl dX5_setNumber_62 ?_
      refine lv_aload_n hx hb dX5_setNumber_65 rfl (lv_at hl 1 rfl) ?_
      refine va_get (D := D) (ci := 5) (v := .ref (ad 1)) (C := RX5) (T := TX5) (N := 6) hx hb hts inX5 hown hK hP 0 rfl rfl 0 (by decide) (hts (.fieldLink RX5 10 "ShiftMaps" "now" "LShiftMaps$State;") (List.mem_of_getElem? (i := 1) rfl)) (fun _ h9 => h9) rfl dX5_setNumber_66 ?_
      refine bdv hr (fun r_10 e_11 hr => ?_)
      refine nmv hr (fun V_12 e_13 hr => ?_)
      refine rwV_v (W1 := (hiW Y ad r_10) ++ (stW Y (ad 1) (ad 2) (ad 3) (ad 4) (ad 5) (ad 6) (ad 7) (v5_now W0))) (W' := (carW Y ad V_12)) (As := [.ref (ad 1)]) (rest := []) ⟨hx, hb, hml, hown, hts⟩ (k_X1_record l D Y ad (ad 1) (ad 2) (ad 3) (ad 4) (ad 5) (ad 6) (ad 7) (v5_history W0) (v5_now W0) r_10 e_11) (cwV 1 hts gX5_setNumber_X1_record rfl rfl rfl (by decide +kernel) ⟨Nat.le_of_ble_eq_true rfl, Nat.le_of_ble_eq_true rfl⟩) hP hK hN hZ hD hS [22, 23, 24, 25, 26, 27, 28, 29, 30, 31, 32, 33, 34, 35, 36, 37, 38, 39, 40, 41, 42, 43, 44, 45, 46, 47, 48, 49, 50, 51, 1, 2, 3, 4, 5, 6, 7] rfl (by decide) [.inl 0, .inr 30, .inr 31, .inr 32, .inr 33, .inr 34, .inr 35, .inr 36, .inl 8, .inl 9, .inl 10, .inl 11, .inl 12, .inl 13, .inl 14, .inl 15, .inl 16, .inl 17, .inl 18, .inl 19, .inl 20, .inl 21, .inr 0, .inr 1, .inr 2, .inr 3, .inr 4, .inr 5, .inr 6, .inr 7, .inr 8, .inr 9, .inr 10, .inr 11, .inr 12, .inr 13, .inr 14, .inr 15, .inr 16, .inr 17, .inr 18, .inr 19, .inr 20, .inr 21, .inr 22, .inr 23, .inr 24, .inr 25, .inr 26, .inr 27, .inr 28, .inr 29, .inl 52, .inl 53, .inl 54] (jk_ok _ _ (by decide)) (by rw [e_13]; rfl) rfl 22 1 rfl rfl rfl hl.1 rfl (Nat.le_of_ble_eq_true rfl) dX5_setNumber_69 ⟨Nat.le_refl 0, Nat.le_refl 0⟩ (fun H locs hP hD hS => ?_)
      refine lv_aload_n hx hb dX5_setNumber_72 rfl (lv_at hl 1 rfl) ?_
      refine va_get (D := D) (ci := 5) (v := .ref (ad 1)) (C := RX5) (T := TX5) (N := 6) hx hb hts inX5 hown hK hP 0 rfl rfl 0 (by decide) (hts (.fieldLink RX5 10 "ShiftMaps" "now" "LShiftMaps$State;") (List.mem_of_getElem? (i := 1) rfl)) (fun _ h9 => h9) rfl dX5_setNumber_73 ?_
      refine lv_iload_n hx hb dX5_setNumber_76 rfl (lv_at hl 2 rfl) ?_
      refine lv_iload_n hx hb dX5_setNumber_77 rfl (lv_at hl 3 rfl) ?_
      refine nmv hr (fun r_14 e_15 hr => ?_)
      refine nmv hr (fun V_16 e_17 hr => ?_)
      refine rwV_v (W1 := (stW Y (ad 1) (ad 2) (ad 3) (ad 4) (ad 5) (ad 6) (ad 7) r_14)) (W' := (carW Y ad V_16)) (As := [.int z1, .int z2]) (rest := []) ⟨hx, hb, hml, hown, hts⟩ (k_X4_putSetting l D Y (ad 1) (ad 2) (ad 3) (ad 4) (ad 5) (ad 6) (ad 7) (v5_now V_12) z1 z2 r_14 e_15) (cwV 2 hts gX5_setNumber_X4_putSetting rfl rfl rfl (by decide +kernel) ⟨Nat.le_of_ble_eq_true rfl, Nat.le_of_ble_eq_true rfl⟩) hP hK hN hZ hD hS [1, 2, 3, 4, 5, 6, 7] rfl (by decide) [.inl 0, .inr 0, .inr 1, .inr 2, .inr 3, .inr 4, .inr 5, .inr 6, .inl 8, .inl 9, .inl 10, .inl 11, .inl 12, .inl 13, .inl 14, .inl 15, .inl 16, .inl 17, .inl 18, .inl 19, .inl 20, .inl 21, .inl 22, .inl 23, .inl 24, .inl 25, .inl 26, .inl 27, .inl 28, .inl 29, .inl 30, .inl 31, .inl 32, .inl 33, .inl 34, .inl 35, .inl 36, .inl 37, .inl 38, .inl 39, .inl 40, .inl 41, .inl 42, .inl 43, .inl 44, .inl 45, .inl 46, .inl 47, .inl 48, .inl 49, .inl 50, .inl 51, .inl 52, .inl 53, .inl 54] (jk_ok _ _ (by decide)) (by rw [e_17]; rfl) rfl 1 4 rfl rfl rfl hl.1 rfl (Nat.le_of_ble_eq_true rfl) dX5_setNumber_78 ⟨Nat.le_refl 0, Nat.le_refl 0⟩ (fun H locs hP hD hS => ?_)
      refine lv_iload_n hx hb dX5_setNumber_81 rfl (lv_at hl 0 rfl) ?_
      have hr := Option.some.inj hr
      subst hr
      exact W.iret hx hb hrt (fun t ht hW => ⟨⟨_, (), rfl, rfl, by show va_P D vwCl _ t.heap; rw [ht]; exact hP⟩, hS.F ht⟩) hS.2.2 dX5_setNumber_82
    · have hr := hr.trans (if_pos c_9)
      refine lv_bipush (v := (-5 : Int32)) hx hb dX5_setNumber_58 (by decide) ?_
      have hr := Option.some.inj hr
      subst hr
      exact W.iret hx hb hrt (fun t ht hW => ⟨⟨_, (), rfl, rfl, by show va_P D vwCl _ t.heap; rw [ht]; exact hP⟩, hS.F ht⟩) hS.2.2 dX5_setNumber_60
  rw [mf_X5_setNumber] at hr
  suffices KK : ∀ (H : Heap) (locs : List Loc), va_P D vwCl (carW Y ad V) H → va_S A s.heap H locs → W p l e ({ frames := 4, cells := 0, slots := 0, locals := 124 } : Room) s m ([.ref (ad 0), .int x1, .int x2] : List Value).toArray below meth c H locs 0 0 (MQ below (va_Qi (S := Unit) (fun r _ => r = R.1) (fun _ t => va_P D vwCl (carW Y ad R.2) t.heap) A) ([.ref (ad 0), .int x1, .int x2] : List Value).toArray s 0 0 A) (F0 m 0 ls []) from KK _ _ hP hS
  intro H locs hP hS
  refine lv_iload_n hx hb dX5_setNumber_0 rfl (lv_at hl 1 rfl) ?_
  refine lv_if_lt (tgt := 9) hx hb dX5_setNumber_1 (by decide) (fun c_1 => ?_) (fun c_1 => ?_)
  · have hr := hr.trans (if_pos c_1)
    refine lv_iconst (v := (-1 : Int32)) hx hb dX5_setNumber_9 (by decide) ?_
    have hr := Option.some.inj hr
    subst hr
    exact W.iret hx hb hrt (fun t ht hW => ⟨⟨_, (), rfl, rfl, by show va_P D vwCl _ t.heap; rw [ht]; exact hP⟩, hS.F ht⟩) hS.2.2 dX5_setNumber_10
  · have hr := hr.trans (if_neg c_1)
    refine lv_iload_n hx hb dX5_setNumber_4 rfl (lv_at hl 1 rfl) ?_
    refine lv_iconst (v := (3 : Int32)) hx hb dX5_setNumber_5 (by decide) ?_
    refine lv_icmp_le (tgt := 11) hx hb dX5_setNumber_6 (by decide) (fun c_2 => ?_) (fun c_2 => ?_)
    · have hr := hr.trans (if_pos c_2)
      refine lv_aload_n hx hb dX5_setNumber_11 rfl (lv_at hl 0 rfl) ?_
      refine va_get (D := D) (ci := 5) (v := .ref (ad 1)) (C := RX5) (T := TX5) (N := 6) hx hb hts inX5 hown hK hP 0 rfl rfl 0 (by decide) (hts (.fieldLink RX5 10 "ShiftMaps" "now" "LShiftMaps$State;") (List.mem_of_getElem? (i := 1) rfl)) (fun _ h9 => h9) rfl dX5_setNumber_12 ?_
      refine lv_iload_n hx hb dX5_setNumber_15 rfl (lv_at hl 1 rfl) ?_
      refine lv_iload_n hx hb dX5_setNumber_16 rfl (lv_at hl 2 rfl) ?_
      refine nmv hr (fun r_3 e_4 hr => ?_)
      refine roV_i (As := [.int x1, .int x2]) (rest := []) ⟨hx, hb, hml, hown, hts⟩ (k_X4_allows l D Y (ad 1) (ad 2) (ad 3) (ad 4) (ad 5) (ad 6) (ad 7) (v5_now V) x1 x2 r_3 e_4) (cwV 2 hts gX5_setNumber_X4_allows rfl rfl rfl (by decide +kernel) ⟨Nat.le_of_ble_eq_true rfl, Nat.le_of_ble_eq_true rfl⟩) (hP.sub (ws' := (stW Y (ad 1) (ad 2) (ad 3) (ad 4) (ad 5) (ad 6) (ad 7) (v5_now V))) [1, 2, 3, 4, 5, 6, 7] rfl) hK hN (hZ.at hS).F 0 4 rfl rfl rfl hl.1 rfl (Nat.le_of_ble_eq_true rfl) dX5_setNumber_17 ⟨Nat.le_refl 0, Nat.le_refl 0⟩ ?_
      refine lv_if_ne (tgt := 26) hx hb dX5_setNumber_20 (by decide) (fun c_5 => ?_) (fun c_5 => ?_)
      · have hr := hr.trans (if_neg c_5)
        refine lv_iload_n hx hb dX5_setNumber_26 rfl (lv_at hl 1 rfl) ?_
        refine lv_iconst (v := (1 : Int32)) hx hb dX5_setNumber_27 (by decide) ?_
        refine lv_icmp_gt (tgt := 44) hx hb dX5_setNumber_28 (by decide) (fun c_6 => ?_) (fun c_6 => ?_)
        · have hr := hr.trans (if_pos c_6)
          exact B44 V x1 x2 _ _ _ hr hP hD hS (lv_sub hl [0, 1, 2] rfl)
        · have hr := hr.trans (if_neg c_6)
          refine lv_aload_n hx hb dX5_setNumber_31 rfl (lv_at hl 0 rfl) ?_
          refine va_get (D := D) (ci := 5) (v := .ref (ad 1)) (C := RX5) (T := TX5) (N := 6) hx hb hts inX5 hown hK hP 0 rfl rfl 0 (by decide) (hts (.fieldLink RX5 10 "ShiftMaps" "now" "LShiftMaps$State;") (List.mem_of_getElem? (i := 1) rfl)) (fun _ h9 => h9) rfl dX5_setNumber_32 ?_
          refine nmv hr (fun r_18 e_19 hr => ?_)
          refine roV_i (As := []) (rest := []) ⟨hx, hb, hml, hown, hts⟩ (k_X4_isChanging l D Y (ad 1) (ad 2) (ad 3) (ad 4) (ad 5) (ad 6) (ad 7) (v5_now V) r_18 e_19) (cwV 0 hts gX5_setNumber_X4_isChanging rfl rfl rfl (by decide +kernel) ⟨Nat.le_of_ble_eq_true rfl, Nat.le_of_ble_eq_true rfl⟩) (hP.sub (ws' := (stW Y (ad 1) (ad 2) (ad 3) (ad 4) (ad 5) (ad 6) (ad 7) (v5_now V))) [1, 2, 3, 4, 5, 6, 7] rfl) hK hN (hZ.at hS).F 0 4 rfl rfl rfl hl.1 rfl (Nat.le_of_ble_eq_true rfl) dX5_setNumber_35 ⟨Nat.le_refl 0, Nat.le_refl 0⟩ ?_
          refine lv_if_eq (tgt := 44) hx hb dX5_setNumber_38 (by decide) (fun c_20 => ?_) (fun c_20 => ?_)
          · have hr := hr.trans (if_pos c_20)
            exact B44 V x1 x2 _ _ _ hr hP hD hS (lv_sub hl [0, 1, 2] rfl)
          · have hr := hr.trans (if_neg c_20)
            refine lv_bipush (v := (-4 : Int32)) hx hb dX5_setNumber_41 (by decide) ?_
            have hr := Option.some.inj hr
            subst hr
            exact W.iret hx hb hrt (fun t ht hW => ⟨⟨_, (), rfl, rfl, by show va_P D vwCl _ t.heap; rw [ht]; exact hP⟩, hS.F ht⟩) hS.2.2 dX5_setNumber_43
      · have hr := hr.trans (if_pos c_5)
        refine lv_bipush (v := (-2 : Int32)) hx hb dX5_setNumber_23 (by decide) ?_
        have hr := Option.some.inj hr
        subst hr
        exact W.iret hx hb hrt (fun t ht hW => ⟨⟨_, (), rfl, rfl, by show va_P D vwCl _ t.heap; rw [ht]; exact hP⟩, hS.F ht⟩) hS.2.2 dX5_setNumber_25
    · have hr := hr.trans (if_neg c_2)
      refine lv_iconst (v := (-1 : Int32)) hx hb dX5_setNumber_9 (by decide) ?_
      have hr := Option.some.inj hr
      subst hr
      exact W.iret hx hb hrt (fun t ht hW => ⟨⟨_, (), rfl, rfl, by show va_P D vwCl _ t.heap; rw [ht]; exact hP⟩, hS.F ht⟩) hS.2.2 dX5_setNumber_10

set_option maxHeartbeats 4000000 in
set_option maxRecDepth 100000 in
theorem k_X5_byHand (l : Launch) (D : va_G) (Y : Nat → ClassId) (ad : Nat → Nat) (V : CarV) (x1 : Int32) (R : Int32 × CarV) (hr : some R = mf_X5_byHand V x1) : Met l yX5_byHand wsX5_byHand ({ frames := 4, cells := 0, slots := 0, locals := 124 } : Room) (va_Pc [.ref (ad 0), .int x1] (PW D Y (carW Y ad V))) (va_Qi (S := Unit) (fun r _ => r = R.1) (fun _ t => va_P D vwCl (carW Y ad R.2) t.heap) (wA (carW Y ad V))) 0 0 (wA (carW Y ad V)) := by
  refine Met.ofW (cc := cX5_byHand) (maxL := 2) (ret := (some .int)) (by decide) rfl ?_
  intro p e s m args below meth c s₁ B hml hv
  obtain ⟨rfl, hP, hK, hN, hZ, hD⟩ := hv
  have hx := B.exec
  have hb := B.bytes
  have hrt := B.returns
  have hts := atoms_spec (ws := wsX5_byHand) B.pre
  have hown : s.vm.findClass RX5 = some m.cls := findClass_of_methodNamed B.named
  have hlocks := B.notSynchronized
  have inX4 : ∀ w ∈ u_ws RX4 TX4 11, w ∈ wsX5_byHand := uin_at 61 rfl
  have inX5 : ∀ w ∈ u_ws RX5 TX5 6, w ∈ wsX5_byHand := uin_at 55 rfl
  generalize hAe : wA (carW Y ad V) = A at hZ hD ⊢
  have hS : va_S A s.heap s.heap [] := va_S.rf
  have hl := lv_entry ([.ref (ad 0), .int x1]) (n := 2) (Nat.le_of_ble_eq_true rfl)
  rw [lg_entry_eq]
  generalize (lg_sl ([.ref (ad 0), .int x1]) ++ List.replicate (2 - (lg_sl ([.ref (ad 0), .int x1])).length) Slot.unset).toArray = ls at hl ⊢
  have hl : lv_has ls 2 [(0, .ref (ad 0)), (1, .int x1)] := hl
  rw [mf_X5_byHand] at hr
  suffices KK : ∀ (H : Heap) (locs : List Loc), va_P D vwCl (carW Y ad V) H → va_S A s.heap H locs → W p l e ({ frames := 4, cells := 0, slots := 0, locals := 124 } : Room) s m ([.ref (ad 0), .int x1] : List Value).toArray below meth c H locs 0 0 (MQ below (va_Qi (S := Unit) (fun r _ => r = R.1) (fun _ t => va_P D vwCl (carW Y ad R.2) t.heap) A) ([.ref (ad 0), .int x1] : List Value).toArray s 0 0 A) (F0 m 0 ls []) from KK _ _ hP hS
  intro H locs hP hS
  refine lv_aload_n hx hb dX5_byHand_0 rfl (lv_at hl 0 rfl) ?_
  refine va_get (D := D) (ci := 5) (v := .ref (ad 1)) (C := RX5) (T := TX5) (N := 6) hx hb hts inX5 hown hK hP 0 rfl rfl 0 (by decide) (hts (.fieldLink RX5 10 "ShiftMaps" "now" "LShiftMaps$State;") (List.mem_of_getElem? (i := 1) rfl)) (fun _ h9 => h9) rfl dX5_byHand_1 ?_
  refine va_getN (D := D) (ci := 4) (v := .int (v4_handMode (v5_now V))) (C := RX4) (T := TX4) (N := 11) hx hb hts inX4 hown hK hP 1 rfl rfl 8 (by decide) (va_Nw.use rfl (NZ.n85 hN)) (fun _ h9 => h9) rfl dX5_byHand_4 ?_
  refine lv_iload_n hx hb dX5_byHand_7 rfl (lv_at hl 1 rfl) ?_
  refine lv_icmp_ne (tgt := 14) hx hb dX5_byHand_8 (by decide) (fun c_1 => ?_) (fun c_1 => ?_)
  · have hr := hr.trans (if_neg c_1)
    refine lv_aload_n hx hb dX5_byHand_14 rfl (lv_at hl 0 rfl) ?_
    refine va_get (D := D) (ci := 5) (v := .ref (ad 22)) (C := RX5) (T := TX5) (N := 6) hx hb hts inX5 hown hK hP 0 rfl rfl 3 (by decide) (hts (.fieldLink RX5 25 "ShiftMaps" "history" "LShiftMaps$History;") (List.mem_of_getElem? (i := 2) rfl)) (fun _ h9 => h9) rfl dX5_byHand_15 ?_
    refine lv_aload_n hx hb dX5_byHand_18 rfl (lv_at hl 0 rfl) ?_
    refine va_get (D := D) (ci := 5) (v := .ref (ad 1)) (C := RX5) (T := TX5) (N := 6) hx hb hts inX5 hown hK hP 0 rfl rfl 0 (by decide) (hts (.fieldLink RX5 10 "ShiftMaps" "now" "LShiftMaps$State;") (List.mem_of_getElem? (i := 1) rfl)) (fun _ h9 => h9) rfl dX5_byHand_19 ?_
    refine bdv hr (fun r_2 e_3 hr => ?_)
    refine nmv hr (fun V_4 e_5 hr => ?_)
    refine rwV_v (W1 := (hiW Y ad r_2) ++ (stW Y (ad 1) (ad 2) (ad 3) (ad 4) (ad 5) (ad 6) (ad 7) (v5_now V))) (W' := (carW Y ad V_4)) (As := [.ref (ad 1)]) (rest := []) ⟨hx, hb, hml, hown, hts⟩ (k_X1_record l D Y ad (ad 1) (ad 2) (ad 3) (ad 4) (ad 5) (ad 6) (ad 7) (v5_history V) (v5_now V) r_2 e_3) (cwV 1 hts gX5_byHand_X1_record rfl rfl rfl (by decide +kernel) ⟨Nat.le_of_ble_eq_true rfl, Nat.le_of_ble_eq_true rfl⟩) hP hK hN hZ hD hS [22, 23, 24, 25, 26, 27, 28, 29, 30, 31, 32, 33, 34, 35, 36, 37, 38, 39, 40, 41, 42, 43, 44, 45, 46, 47, 48, 49, 50, 51, 1, 2, 3, 4, 5, 6, 7] rfl (by decide) [.inl 0, .inr 30, .inr 31, .inr 32, .inr 33, .inr 34, .inr 35, .inr 36, .inl 8, .inl 9, .inl 10, .inl 11, .inl 12, .inl 13, .inl 14, .inl 15, .inl 16, .inl 17, .inl 18, .inl 19, .inl 20, .inl 21, .inr 0, .inr 1, .inr 2, .inr 3, .inr 4, .inr 5, .inr 6, .inr 7, .inr 8, .inr 9, .inr 10, .inr 11, .inr 12, .inr 13, .inr 14, .inr 15, .inr 16, .inr 17, .inr 18, .inr 19, .inr 20, .inr 21, .inr 22, .inr 23, .inr 24, .inr 25, .inr 26, .inr 27, .inr 28, .inr 29, .inl 52, .inl 53, .inl 54] (jk_ok _ _ (by decide)) (by rw [e_5]; rfl) rfl 22 1 rfl rfl rfl hl.1 rfl (Nat.le_of_ble_eq_true rfl) dX5_byHand_22 ⟨Nat.le_refl 0, Nat.le_refl 0⟩ (fun H locs hP hD hS => ?_)
    refine lv_aload_n hx hb dX5_byHand_25 rfl (lv_at hl 0 rfl) ?_
    refine va_get (D := D) (ci := 5) (v := .ref (ad 1)) (C := RX5) (T := TX5) (N := 6) hx hb hts inX5 hown hK hP 0 rfl rfl 0 (by decide) (hts (.fieldLink RX5 10 "ShiftMaps" "now" "LShiftMaps$State;") (List.mem_of_getElem? (i := 1) rfl)) (fun _ h9 => h9) rfl dX5_byHand_26 ?_
    refine lv_iload_n hx hb dX5_byHand_29 rfl (lv_at hl 1 rfl) ?_
    refine gdv hr (fun g_6 hr => ?_)
    refine va_putN (D := D) (ci := 4) (v := .int x1) (ty := .boolean) (C := RX4) (T := TX4) (N := 11) hx hb hts inX4 tyX4 tyX4_ok nmX4 hown hK hP hD hS 1 rfl rfl 8 (by decide) (va_Nw.use rfl (NZ.n85 hN)) (fun _ h9 => h9) rfl (by decide +kernel) (nar_z g_6) (fit_z g_6) (Nat.le_of_ble_eq_true rfl) dX5_byHand_30 (fun H locs hP hD hS => ?_)
    refine nmv hr (fun V_9 e_10 hr => ?_)
    have hP : va_P D vwCl (carW Y ad V_9) H := by rw [e_10]; exact hP
    have hD : va_D A (carW Y ad V_9) := va_D_adr hD rfl
    refine lv_aload_n hx hb dX5_byHand_33 rfl (lv_at hl 0 rfl) ?_
    refine va_get (D := D) (ci := 5) (v := .ref (ad 1)) (C := RX5) (T := TX5) (N := 6) hx hb hts inX5 hown hK hP 0 rfl rfl 0 (by decide) (hts (.fieldLink RX5 10 "ShiftMaps" "now" "LShiftMaps$State;") (List.mem_of_getElem? (i := 1) rfl)) (fun _ h9 => h9) rfl dX5_byHand_34 ?_
    refine va_getN (D := D) (ci := 4) (v := .int (v4_gear (v5_now V_9))) (C := RX4) (T := TX4) (N := 11) hx hb hts inX4 hown hK hP 1 rfl rfl 4 (by decide) (va_Nw.use rfl (NZ.n88 hN)) (fun _ h9 => h9) rfl dX5_byHand_37 ?_
    have hr := Option.some.inj hr
    subst hr
    exact W.iret hx hb hrt (fun t ht hW => ⟨⟨_, (), rfl, rfl, by show va_P D vwCl _ t.heap; rw [ht]; exact hP⟩, hS.F ht⟩) hS.2.2 dX5_byHand_40
  · have hr := hr.trans (if_pos c_1)
    refine lv_bipush (v := (-5 : Int32)) hx hb dX5_byHand_11 (by decide) ?_
    have hr := Option.some.inj hr
    subst hr
    exact W.iret hx hb hrt (fun t ht hW => ⟨⟨_, (), rfl, rfl, by show va_P D vwCl _ t.heap; rw [ht]; exact hP⟩, hS.F ht⟩) hS.2.2 dX5_byHand_13

set_option maxHeartbeats 4000000 in
set_option maxRecDepth 100000 in
theorem k_X5_drive (l : Launch) (D : va_G) (Y : Nat → ClassId) (ad : Nat → Nat) (V : CarV) (x1 : Int32) (x2 : Int32) (x3 : Int32) (R : Int32 × CarV) (hr : some R = mf_X5_drive V x1 x2 x3) : Met l yX5_drive wsX5_drive ({ frames := 6, cells := 0, slots := 0, locals := 138 } : Room) (va_Pc [.ref (ad 0), .int x1, .int x2, .int x3] (PW D Y (carW Y ad V))) (va_Qi (S := Unit) (fun r _ => r = R.1) (fun _ t => va_P D vwCl (carW Y ad R.2) t.heap) (wA (carW Y ad V))) 0 0 (wA (carW Y ad V)) := by
  refine Met.ofW (cc := cX5_drive) (maxL := 4) (ret := (some .int)) (by decide) rfl ?_
  intro p e s m args below meth c s₁ B hml hv
  obtain ⟨rfl, hP, hK, hN, hZ, hD⟩ := hv
  have hx := B.exec
  have hb := B.bytes
  have hrt := B.returns
  have hts := atoms_spec (ws := wsX5_drive) B.pre
  have hown : s.vm.findClass RX5 = some m.cls := findClass_of_methodNamed B.named
  have hlocks := B.notSynchronized
  have inX5 : ∀ w ∈ u_ws RX5 TX5 6, w ∈ wsX5_drive := uin_at 161 rfl
  generalize hAe : wA (carW Y ad V) = A at hZ hD ⊢
  have hS : va_S A s.heap s.heap [] := va_S.rf
  have hl := lv_entry ([.ref (ad 0), .int x1, .int x2, .int x3]) (n := 4) (Nat.le_of_ble_eq_true rfl)
  rw [lg_entry_eq]
  generalize (lg_sl ([.ref (ad 0), .int x1, .int x2, .int x3]) ++ List.replicate (4 - (lg_sl ([.ref (ad 0), .int x1, .int x2, .int x3])).length) Slot.unset).toArray = ls at hl ⊢
  have hl : lv_has ls 4 [(0, .ref (ad 0)), (1, .int x1), (2, .int x2), (3, .int x3)] := hl
  rw [mf_X5_drive] at hr
  suffices KK : ∀ (H : Heap) (locs : List Loc), va_P D vwCl (carW Y ad V) H → va_S A s.heap H locs → W p l e ({ frames := 6, cells := 0, slots := 0, locals := 138 } : Room) s m ([.ref (ad 0), .int x1, .int x2, .int x3] : List Value).toArray below meth c H locs 0 0 (MQ below (va_Qi (S := Unit) (fun r _ => r = R.1) (fun _ t => va_P D vwCl (carW Y ad R.2) t.heap) A) ([.ref (ad 0), .int x1, .int x2, .int x3] : List Value).toArray s 0 0 A) (F0 m 0 ls []) from KK _ _ hP hS
  intro H locs hP hS
  refine lv_iload_n hx hb dX5_drive_0 rfl (lv_at hl 1 rfl) ?_
  refine nmv hr (fun r_1 e_2 hr => ?_)
  refine roS_i (As := [.int x1]) (rest := []) ⟨hx, hb, hml, hown, hts⟩ (k_X5_isSpeed l D Y  x1 r_1 e_2) (va_cwS 1 hts gX5_drive_X5_isSpeed rfl rfl rfl (by decide +kernel) ⟨Nat.le_of_ble_eq_true rfl, Nat.le_of_ble_eq_true rfl⟩) (hP.sub (ws' := []) [] rfl) hK hN (hZ.at hS).F rfl hl.1 rfl (Nat.le_of_ble_eq_true rfl) dX5_drive_1 ⟨Nat.le_refl 0, Nat.le_refl 0⟩ ?_
  refine lv_if_eq (tgt := 25) hx hb dX5_drive_4 (by decide) (fun c_3 => ?_) (fun c_3 => ?_)
  · have hr := hr.trans (if_pos c_3)
    refine lv_bipush (v := (-2 : Int32)) hx hb dX5_drive_25 (by decide) ?_
    have hr := Option.some.inj hr
    subst hr
    exact W.iret hx hb hrt (fun t ht hW => ⟨⟨_, (), rfl, rfl, by show va_P D vwCl _ t.heap; rw [ht]; exact hP⟩, hS.F ht⟩) hS.2.2 dX5_drive_27
  · have hr := hr.trans (if_neg c_3)
    refine lv_iload_n hx hb dX5_drive_7 rfl (lv_at hl 2 rfl) ?_
    refine nmv hr (fun r_4 e_5 hr => ?_)
    refine roS_i (As := [.int x2]) (rest := []) ⟨hx, hb, hml, hown, hts⟩ (k_X5_isPedal l D Y  x2 r_4 e_5) (va_cwS 1 hts gX5_drive_X5_isPedal rfl rfl rfl (by decide +kernel) ⟨Nat.le_of_ble_eq_true rfl, Nat.le_of_ble_eq_true rfl⟩) (hP.sub (ws' := []) [] rfl) hK hN (hZ.at hS).F rfl hl.1 rfl (Nat.le_of_ble_eq_true rfl) dX5_drive_8 ⟨Nat.le_refl 0, Nat.le_refl 0⟩ ?_
    refine lv_if_eq (tgt := 25) hx hb dX5_drive_11 (by decide) (fun c_6 => ?_) (fun c_6 => ?_)
    · have hr := hr.trans (if_pos c_6)
      refine lv_bipush (v := (-2 : Int32)) hx hb dX5_drive_25 (by decide) ?_
      have hr := Option.some.inj hr
      subst hr
      exact W.iret hx hb hrt (fun t ht hW => ⟨⟨_, (), rfl, rfl, by show va_P D vwCl _ t.heap; rw [ht]; exact hP⟩, hS.F ht⟩) hS.2.2 dX5_drive_27
    · have hr := hr.trans (if_neg c_6)
      refine lv_iload_n hx hb dX5_drive_14 rfl (lv_at hl 3 rfl) ?_
      refine lv_iconst (v := (1 : Int32)) hx hb dX5_drive_15 (by decide) ?_
      refine lv_icmp_lt (tgt := 25) hx hb dX5_drive_16 (by decide) (fun c_7 => ?_) (fun c_7 => ?_)
      · have hr := hr.trans (if_pos c_7)
        refine lv_bipush (v := (-2 : Int32)) hx hb dX5_drive_25 (by decide) ?_
        have hr := Option.some.inj hr
        subst hr
        exact W.iret hx hb hrt (fun t ht hW => ⟨⟨_, (), rfl, rfl, by show va_P D vwCl _ t.heap; rw [ht]; exact hP⟩, hS.F ht⟩) hS.2.2 dX5_drive_27
      · have hr := hr.trans (if_neg c_7)
        refine lv_iload_n hx hb dX5_drive_19 rfl (lv_at hl 3 rfl) ?_
        refine lv_bipush (v := (99 : Int32)) hx hb dX5_drive_20 (by decide) ?_
        refine lv_icmp_le (tgt := 28) hx hb dX5_drive_22 (by decide) (fun c_8 => ?_) (fun c_8 => ?_)
        · have hr := hr.trans (if_pos c_8)
          refine lv_aload_n hx hb dX5_drive_28 rfl (lv_at hl 0 rfl) ?_
          refine va_get (D := D) (ci := 5) (v := .ref (ad 1)) (C := RX5) (T := TX5) (N := 6) hx hb hts inX5 hown hK hP 0 rfl rfl 0 (by decide) (hts (.fieldLink RX5 10 "ShiftMaps" "now" "LShiftMaps$State;") (List.mem_of_getElem? (i := 1) rfl)) (fun _ h9 => h9) rfl dX5_drive_29 ?_
          refine nmv hr (fun r_9 e_10 hr => ?_)
          refine roV_i (As := []) (rest := []) ⟨hx, hb, hml, hown, hts⟩ (k_X4_tick l D Y (ad 1) (ad 2) (ad 3) (ad 4) (ad 5) (ad 6) (ad 7) (v5_now V) r_9 e_10) (cwV 0 hts gX5_drive_X4_tick rfl rfl rfl (by decide +kernel) ⟨Nat.le_of_ble_eq_true rfl, Nat.le_of_ble_eq_true rfl⟩) (hP.sub (ws' := (stW Y (ad 1) (ad 2) (ad 3) (ad 4) (ad 5) (ad 6) (ad 7) (v5_now V))) [1, 2, 3, 4, 5, 6, 7] rfl) hK hN (hZ.at hS).F 0 4 rfl rfl rfl hl.1 rfl (Nat.le_of_ble_eq_true rfl) dX5_drive_32 ⟨Nat.le_refl 0, Nat.le_refl 0⟩ ?_
          refine lv_iload_n hx hb dX5_drive_35 rfl (lv_at hl 3 rfl) ?_
          refine lv_iadd hx hb dX5_drive_36 ?_
          refine lv_ldc hx hb hown (hts (.constant RX5 99 (99999)) (List.mem_of_getElem? (i := 2) rfl)) dX5_drive_37 ?_
          refine lv_icmp_le (tgt := 45) hx hb dX5_drive_39 (by decide) (fun c_11 => ?_) (fun c_11 => ?_)
          · have hr := hr.trans (if_pos c_11)
            refine lv_aload_n hx hb dX5_drive_45 rfl (lv_at hl 0 rfl) ?_
            refine va_get (D := D) (ci := 5) (v := .ref (ad 22)) (C := RX5) (T := TX5) (N := 6) hx hb hts inX5 hown hK hP 0 rfl rfl 3 (by decide) (hts (.fieldLink RX5 25 "ShiftMaps" "history" "LShiftMaps$History;") (List.mem_of_getElem? (i := 3) rfl)) (fun _ h9 => h9) rfl dX5_drive_46 ?_
            refine lv_aload_n hx hb dX5_drive_49 rfl (lv_at hl 0 rfl) ?_
            refine va_get (D := D) (ci := 5) (v := .ref (ad 1)) (C := RX5) (T := TX5) (N := 6) hx hb hts inX5 hown hK hP 0 rfl rfl 0 (by decide) (hts (.fieldLink RX5 10 "ShiftMaps" "now" "LShiftMaps$State;") (List.mem_of_getElem? (i := 1) rfl)) (fun _ h9 => h9) rfl dX5_drive_50 ?_
            refine bdv hr (fun r_12 e_13 hr => ?_)
            refine nmv hr (fun V_14 e_15 hr => ?_)
            refine rwV_v (W1 := (hiW Y ad r_12) ++ (stW Y (ad 1) (ad 2) (ad 3) (ad 4) (ad 5) (ad 6) (ad 7) (v5_now V))) (W' := (carW Y ad V_14)) (As := [.ref (ad 1)]) (rest := []) ⟨hx, hb, hml, hown, hts⟩ (k_X1_record l D Y ad (ad 1) (ad 2) (ad 3) (ad 4) (ad 5) (ad 6) (ad 7) (v5_history V) (v5_now V) r_12 e_13) (cwV 1 hts gX5_drive_X1_record rfl rfl rfl (by decide +kernel) ⟨Nat.le_of_ble_eq_true rfl, Nat.le_of_ble_eq_true rfl⟩) hP hK hN hZ hD hS [22, 23, 24, 25, 26, 27, 28, 29, 30, 31, 32, 33, 34, 35, 36, 37, 38, 39, 40, 41, 42, 43, 44, 45, 46, 47, 48, 49, 50, 51, 1, 2, 3, 4, 5, 6, 7] rfl (by decide) [.inl 0, .inr 30, .inr 31, .inr 32, .inr 33, .inr 34, .inr 35, .inr 36, .inl 8, .inl 9, .inl 10, .inl 11, .inl 12, .inl 13, .inl 14, .inl 15, .inl 16, .inl 17, .inl 18, .inl 19, .inl 20, .inl 21, .inr 0, .inr 1, .inr 2, .inr 3, .inr 4, .inr 5, .inr 6, .inr 7, .inr 8, .inr 9, .inr 10, .inr 11, .inr 12, .inr 13, .inr 14, .inr 15, .inr 16, .inr 17, .inr 18, .inr 19, .inr 20, .inr 21, .inr 22, .inr 23, .inr 24, .inr 25, .inr 26, .inr 27, .inr 28, .inr 29, .inl 52, .inl 53, .inl 54] (jk_ok _ _ (by decide)) (by rw [e_15]; rfl) rfl 22 1 rfl rfl rfl hl.1 rfl (Nat.le_of_ble_eq_true rfl) dX5_drive_53 ⟨Nat.le_refl 0, Nat.le_refl 0⟩ (fun H locs hP hD hS => ?_)
            refine lv_aload_n hx hb dX5_drive_56 rfl (lv_at hl 0 rfl) ?_
            refine va_get (D := D) (ci := 5) (v := .ref (ad 1)) (C := RX5) (T := TX5) (N := 6) hx hb hts inX5 hown hK hP 0 rfl rfl 0 (by decide) (hts (.fieldLink RX5 10 "ShiftMaps" "now" "LShiftMaps$State;") (List.mem_of_getElem? (i := 1) rfl)) (fun _ h9 => h9) rfl dX5_drive_57 ?_
            refine lv_iload_n hx hb dX5_drive_60 rfl (lv_at hl 1 rfl) ?_
            refine bdv hr (fun r_16 e_17 hr => ?_)
            refine roS_f (As := [.int x1]) (rest := [.ref (ad 1)]) ⟨hx, hb, hml, hown, hts⟩ (k_X5_floatOf l D Y  x1 r_16 e_17) (va_cwS 1 hts gX5_drive_X5_floatOf rfl rfl rfl (by decide +kernel) ⟨Nat.le_of_ble_eq_true rfl, Nat.le_of_ble_eq_true rfl⟩) (hP.sub (ws' := []) [] rfl) hK hN (hZ.at hS).F rfl hl.1 rfl (Nat.le_of_ble_eq_true rfl) dX5_drive_61 ⟨Nat.le_refl 0, Nat.le_refl 0⟩ ?_
            refine lv_iload_n hx hb dX5_drive_64 rfl (lv_at hl 2 rfl) ?_
            refine bdv hr (fun r_18 e_19 hr => ?_)
            refine roS_f (As := [.int x2]) (rest := [.float r_16, .ref (ad 1)]) ⟨hx, hb, hml, hown, hts⟩ (k_X5_floatOf l D Y  x2 r_18 e_19) (va_cwS 1 hts gX5_drive_X5_floatOf rfl rfl rfl (by decide +kernel) ⟨Nat.le_of_ble_eq_true rfl, Nat.le_of_ble_eq_true rfl⟩) (hP.sub (ws' := []) [] rfl) hK hN (hZ.at hS).F rfl hl.1 rfl (Nat.le_of_ble_eq_true rfl) dX5_drive_65 ⟨Nat.le_refl 0, Nat.le_refl 0⟩ ?_
            refine lv_iload_n hx hb dX5_drive_68 rfl (lv_at hl 3 rfl) ?_
            refine bdv hr (fun r_20 e_21 hr => ?_)
            refine nmv hr (fun V_22 e_23 hr => ?_)
            refine rwV_i (W1 := (stW Y (ad 1) (ad 2) (ad 3) (ad 4) (ad 5) (ad 6) (ad 7) r_20.2)) (W' := (carW Y ad V_22)) (As := [.float r_16, .float r_18, .int x3]) (rest := []) ⟨hx, hb, hml, hown, hts⟩ (k_X4_passTicks l D Y (ad 1) (ad 2) (ad 3) (ad 4) (ad 5) (ad 6) (ad 7) (v5_now V_14) r_16 r_18 x3 r_20 e_21) (cwV 3 hts gX5_drive_X4_passTicks rfl rfl rfl (by decide +kernel) ⟨Nat.le_of_ble_eq_true rfl, Nat.le_of_ble_eq_true rfl⟩) hP hK hN hZ hD hS [1, 2, 3, 4, 5, 6, 7] rfl (by decide) [.inl 0, .inr 0, .inr 1, .inr 2, .inr 3, .inr 4, .inr 5, .inr 6, .inl 8, .inl 9, .inl 10, .inl 11, .inl 12, .inl 13, .inl 14, .inl 15, .inl 16, .inl 17, .inl 18, .inl 19, .inl 20, .inl 21, .inl 22, .inl 23, .inl 24, .inl 25, .inl 26, .inl 27, .inl 28, .inl 29, .inl 30, .inl 31, .inl 32, .inl 33, .inl 34, .inl 35, .inl 36, .inl 37, .inl 38, .inl 39, .inl 40, .inl 41, .inl 42, .inl 43, .inl 44, .inl 45, .inl 46, .inl 47, .inl 48, .inl 49, .inl 50, .inl 51, .inl 52, .inl 53, .inl 54] (jk_ok _ _ (by decide)) (by rw [e_23]; rfl) rfl 1 4 rfl rfl rfl hl.1 rfl (Nat.le_of_ble_eq_true rfl) dX5_drive_69 ⟨Nat.le_refl 0, Nat.le_refl 0⟩ (fun H locs hP hD hS => ?_)
            have hr := Option.some.inj hr
            subst hr
            exact W.iret hx hb hrt (fun t ht hW => ⟨⟨_, (), rfl, rfl, by show va_P D vwCl _ t.heap; rw [ht]; exact hP⟩, hS.F ht⟩) hS.2.2 dX5_drive_72
          · have hr := hr.trans (if_neg c_11)
            refine lv_bipush (v := (-3 : Int32)) hx hb dX5_drive_42 (by decide) ?_
            have hr := Option.some.inj hr
            subst hr
            exact W.iret hx hb hrt (fun t ht hW => ⟨⟨_, (), rfl, rfl, by show va_P D vwCl _ t.heap; rw [ht]; exact hP⟩, hS.F ht⟩) hS.2.2 dX5_drive_44
        · have hr := hr.trans (if_neg c_8)
          refine lv_bipush (v := (-2 : Int32)) hx hb dX5_drive_25 (by decide) ?_
          have hr := Option.some.inj hr
          subst hr
          exact W.iret hx hb hrt (fun t ht hW => ⟨⟨_, (), rfl, rfl, by show va_P D vwCl _ t.heap; rw [ht]; exact hP⟩, hS.F ht⟩) hS.2.2 dX5_drive_27

set_option maxHeartbeats 4000000 in
set_option maxRecDepth 100000 in
theorem k_X5_readDrive (l : Launch) (D : va_G) (Y : Nat → ClassId) (ad : Nat → Nat) (V : CarV) (R : Int32 × CarV) (hr : some R = mf_X5_readDrive V) : Met l yX5_readDrive wsX5_readDrive ({ frames := 6, cells := 0, slots := 0, locals := 138 } : Room) (va_Pc [.ref (ad 0)] (PW D Y (carW Y ad V))) (va_Qi (S := Unit) (fun r _ => r = R.1) (fun _ t => va_P D vwCl (carW Y ad R.2) t.heap) (wA (carW Y ad V))) 0 0 (wA (carW Y ad V)) := by
  refine Met.ofW (cc := cX5_readDrive) (maxL := 6) (ret := (some .int)) (by decide) rfl ?_
  intro p e s m args below meth c s₁ B hml hv
  obtain ⟨rfl, hP, hK, hN, hZ, hD⟩ := hv
  have hx := B.exec
  have hb := B.bytes
  have hrt := B.returns
  have hts := atoms_spec (ws := wsX5_readDrive) B.pre
  have hown : s.vm.findClass RX5 = some m.cls := findClass_of_methodNamed B.named
  have hlocks := B.notSynchronized
  have inX5 : ∀ w ∈ u_ws RX5 TX5 6, w ∈ wsX5_readDrive := uin_at 210 rfl
  generalize hAe : wA (carW Y ad V) = A at hZ hD ⊢
  have hS : va_S A s.heap s.heap [] := va_S.rf
  have hl := lv_entry ([.ref (ad 0)]) (n := 6) (Nat.le_of_ble_eq_true rfl)
  rw [lg_entry_eq]
  generalize (lg_sl ([.ref (ad 0)]) ++ List.replicate (6 - (lg_sl ([.ref (ad 0)])).length) Slot.unset).toArray = ls at hl ⊢
  have hl : lv_has ls 6 [(0, .ref (ad 0))] := hl
  have B56 : ∀ (fu : Nat), ∀ (W0 : CarV) (z2 : Int32) (z3 : Int32) (H : Heap) (locs : List Loc) (ls : Array Slot), some R = mf_X5_readDrive_B56 fu W0 z2 z3 → va_P D vwCl (carW Y ad W0) H → va_D A (carW Y ad W0) → va_S A s.heap H locs → lv_has ls 6 [(0, .ref (ad 0)), (2, .int z2), (3, .int z3)] → W p l e ({ frames := 6, cells := 0, slots := 0, locals := 138 } : Room) s m ([.ref (ad 0)] : List Value).toArray below meth c H locs 0 0 (MQ below (va_Qi (S := Unit) (fun r _ => r = R.1) (fun _ t => va_P D vwCl (carW Y ad R.2) t.heap) A) ([.ref (ad 0)] : List Value).toArray s 0 0 A) (F0 m 56 ls []) := by
    intro fu
    induction fu with
    | zero =>
      intro W0 z2 z3 H locs ls hr hP hD hS hl
      rw [mf_X5_readDrive_B56] at hr
      cases hr
    | succ fu ih =>
      intro W0 z2 z3 H locs ls hr hP hD hS hl
      rw [mf_X5_readDrive_B56] at hr
      refine lv_iload_n hx hb dX5_readDrive_56 rfl (lv_at hl 2 rfl) ?_
      refine lv_aload_n hx hb dX5_readDrive_57 rfl (lv_at hl 0 rfl) ?_
      refine va_get (D := D) (ci := 5) (v := .ref (ad 52)) (C := RX5) (T := TX5) (N := 6) hx hb hts inX5 hown hK hP 0 rfl rfl 4 (by decide) (hts (.fieldLink RX5 32 "ShiftMaps" "text" "LShiftMaps$DriveText;") (List.mem_of_getElem? (i := 1) rfl)) (fun _ h9 => h9) rfl dX5_readDrive_58 ?_
      refine nmv hr (fun r_15 e_16 hr => ?_)
      refine roV_i (As := []) (rest := [.int z3]) ⟨hx, hb, hml, hown, hts⟩ (k_X0_partCount l D Y (ad 52) (ad 53) (ad 54) (v5_text W0) r_15 e_16) (cwV 0 hts gX5_readDrive_X0_partCount rfl rfl rfl (by decide +kernel) ⟨Nat.le_of_ble_eq_true rfl, Nat.le_of_ble_eq_true rfl⟩) (hP.sub (ws' := (txW Y (ad 52) (ad 53) (ad 54) (v5_text W0))) [52, 53, 54] rfl) hK hN (hZ.at hS).F 0 0 rfl rfl rfl hl.1 rfl (Nat.le_of_ble_eq_true rfl) dX5_readDrive_61 ⟨Nat.le_refl 0, Nat.le_refl 0⟩ ?_
      refine lv_icmp_ge (tgt := 120) hx hb dX5_readDrive_64 (by decide) (fun c_17 => ?_) (fun c_17 => ?_)
      · have hr := hr.trans (if_pos c_17)
        refine lv_iload_n hx hb dX5_readDrive_120 rfl (lv_at hl 1 rfl) ?_
        have hr := Option.some.inj hr
        subst hr
        exact W.iret hx hb hrt (fun t ht hW => ⟨⟨_, (), rfl, rfl, by show va_P D vwCl _ t.heap; rw [ht]; exact hP⟩, hS.F ht⟩) hS.2.2 dX5_readDrive_121
      · have hr := hr.trans (if_neg c_17)
        refine lv_aload_n hx hb dX5_readDrive_67 rfl (lv_at hl 0 rfl) ?_
        refine va_get (D := D) (ci := 5) (v := .ref (ad 52)) (C := RX5) (T := TX5) (N := 6) hx hb hts inX5 hown hK hP 0 rfl rfl 4 (by decide) (hts (.fieldLink RX5 32 "ShiftMaps" "text" "LShiftMaps$DriveText;") (List.mem_of_getElem? (i := 1) rfl)) (fun _ h9 => h9) rfl dX5_readDrive_68 ?_
        refine lv_iload_n hx hb dX5_readDrive_71 rfl (lv_at hl 2 rfl) ?_
        refine nmv hr (fun r_18 e_19 hr => ?_)
        refine roV_i (As := [.int z3]) (rest := []) ⟨hx, hb, hml, hown, hts⟩ (k_X0_speedOf l D Y (ad 52) (ad 53) (ad 54) (v5_text W0) z3 r_18 e_19) (cwV 1 hts gX5_readDrive_X0_speedOf rfl rfl rfl (by decide +kernel) ⟨Nat.le_of_ble_eq_true rfl, Nat.le_of_ble_eq_true rfl⟩) (hP.sub (ws' := (txW Y (ad 52) (ad 53) (ad 54) (v5_text W0))) [52, 53, 54] rfl) hK hN (hZ.at hS).F 0 0 rfl rfl rfl hl.1 rfl (Nat.le_of_ble_eq_true rfl) dX5_readDrive_72 ⟨Nat.le_refl 0, Nat.le_refl 0⟩ ?_
        refine lv_i2f hx hb dX5_readDrive_75 ?_
        refine lv_fstore (lv' := [(4, .float (FP.i2f r_18)), (0, .ref (ad 0)), (2, .int z2), (3, .int z3)]) hx hb dX5_readDrive_76 hl (by decide) rfl (fun ls hl => ?_)
        refine lv_aload_n hx hb dX5_readDrive_78 rfl (lv_at hl 1 rfl) ?_
        refine va_get (D := D) (ci := 5) (v := .ref (ad 52)) (C := RX5) (T := TX5) (N := 6) hx hb hts inX5 hown hK hP 0 rfl rfl 4 (by decide) (hts (.fieldLink RX5 32 "ShiftMaps" "text" "LShiftMaps$DriveText;") (List.mem_of_getElem? (i := 1) rfl)) (fun _ h9 => h9) rfl dX5_readDrive_79 ?_
        refine lv_iload_n hx hb dX5_readDrive_82 rfl (lv_at hl 3 rfl) ?_
        refine nmv hr (fun r_20 e_21 hr => ?_)
        refine roV_i (As := [.int z3]) (rest := []) ⟨hx, hb, hml, hown, hts⟩ (k_X0_hundredthsOf l D Y (ad 52) (ad 53) (ad 54) (v5_text W0) z3 r_20 e_21) (cwV 1 hts gX5_readDrive_X0_hundredthsOf rfl rfl rfl (by decide +kernel) ⟨Nat.le_of_ble_eq_true rfl, Nat.le_of_ble_eq_true rfl⟩) (hP.sub (ws' := (txW Y (ad 52) (ad 53) (ad 54) (v5_text W0))) [52, 53, 54] rfl) hK hN (hZ.at hS).F 0 0 rfl rfl rfl hl.1 rfl (Nat.le_of_ble_eq_true rfl) dX5_readDrive_83 ⟨Nat.le_refl 0, Nat.le_refl 0⟩ ?_
        refine lv_i2f hx hb dX5_readDrive_86 ?_
        refine lv_ldcf hx hb hown (hts (.constantFloat RX5 119 (1120403456)) (List.mem_of_getElem? (i := 5) rfl)) dX5_readDrive_87 ?_
        refine gdv hr (fun g_22 hr => ?_)
        refine lv_fdiv hx hb dX5_readDrive_89 g_22 ?_
        refine nmv hr (fun f_23 e_24 hr => ?_)
        rw [← e_24]
        refine lv_fstore (lv' := [(5, .float f_23), (4, .float (FP.i2f r_18)), (0, .ref (ad 0)), (2, .int z2), (3, .int z3)]) hx hb dX5_readDrive_90 hl (by decide) rfl (fun ls hl => ?_)
        refine lv_iload_n hx hb dX5_readDrive_92 rfl (lv_at hl 3 rfl) ?_
        refine lv_aload_n hx hb dX5_readDrive_93 rfl (lv_at hl 2 rfl) ?_
        refine va_get (D := D) (ci := 5) (v := .ref (ad 1)) (C := RX5) (T := TX5) (N := 6) hx hb hts inX5 hown hK hP 0 rfl rfl 0 (by decide) (hts (.fieldLink RX5 10 "ShiftMaps" "now" "LShiftMaps$State;") (List.mem_of_getElem? (i := 2) rfl)) (fun _ h9 => h9) rfl dX5_readDrive_94 ?_
        refine lv_fload hx hb dX5_readDrive_97 (lv_at hl 1 rfl) ?_
        refine lv_fload hx hb dX5_readDrive_99 (lv_at hl 0 rfl) ?_
        refine lv_aload_n hx hb dX5_readDrive_101 rfl (lv_at hl 2 rfl) ?_
        refine va_get (D := D) (ci := 5) (v := .ref (ad 52)) (C := RX5) (T := TX5) (N := 6) hx hb hts inX5 hown hK hP 0 rfl rfl 4 (by decide) (hts (.fieldLink RX5 32 "ShiftMaps" "text" "LShiftMaps$DriveText;") (List.mem_of_getElem? (i := 1) rfl)) (fun _ h9 => h9) rfl dX5_readDrive_102 ?_
        refine lv_iload_n hx hb dX5_readDrive_105 rfl (lv_at hl 4 rfl) ?_
        refine nmv hr (fun r_25 e_26 hr => ?_)
        refine roV_i (As := [.int z3]) (rest := [.float f_23, .float (FP.i2f r_18), .ref (ad 1), .int z2]) ⟨hx, hb, hml, hown, hts⟩ (k_X0_ticksOf l D Y (ad 52) (ad 53) (ad 54) (v5_text W0) z3 r_25 e_26) (cwV 1 hts gX5_readDrive_X0_ticksOf rfl rfl rfl (by decide +kernel) ⟨Nat.le_of_ble_eq_true rfl, Nat.le_of_ble_eq_true rfl⟩) (hP.sub (ws' := (txW Y (ad 52) (ad 53) (ad 54) (v5_text W0))) [52, 53, 54] rfl) hK hN (hZ.at hS).F 0 0 rfl rfl rfl hl.1 rfl (Nat.le_of_ble_eq_true rfl) dX5_readDrive_106 ⟨Nat.le_refl 0, Nat.le_refl 0⟩ ?_
        refine bdv hr (fun r_27 e_28 hr => ?_)
        refine nmv hr (fun V_29 e_30 hr => ?_)
        refine rwV_i (W1 := (stW Y (ad 1) (ad 2) (ad 3) (ad 4) (ad 5) (ad 6) (ad 7) r_27.2)) (W' := (carW Y ad V_29)) (As := [.float (FP.i2f r_18), .float f_23, .int r_25]) (rest := [.int z2]) ⟨hx, hb, hml, hown, hts⟩ (k_X4_passTicks l D Y (ad 1) (ad 2) (ad 3) (ad 4) (ad 5) (ad 6) (ad 7) (v5_now W0) (FP.i2f r_18) f_23 r_25 r_27 e_28) (cwV 3 hts gX5_readDrive_X4_passTicks rfl rfl rfl (by decide +kernel) ⟨Nat.le_of_ble_eq_true rfl, Nat.le_of_ble_eq_true rfl⟩) hP hK hN hZ hD hS [1, 2, 3, 4, 5, 6, 7] rfl (by decide) [.inl 0, .inr 0, .inr 1, .inr 2, .inr 3, .inr 4, .inr 5, .inr 6, .inl 8, .inl 9, .inl 10, .inl 11, .inl 12, .inl 13, .inl 14, .inl 15, .inl 16, .inl 17, .inl 18, .inl 19, .inl 20, .inl 21, .inl 22, .inl 23, .inl 24, .inl 25, .inl 26, .inl 27, .inl 28, .inl 29, .inl 30, .inl 31, .inl 32, .inl 33, .inl 34, .inl 35, .inl 36, .inl 37, .inl 38, .inl 39, .inl 40, .inl 41, .inl 42, .inl 43, .inl 44, .inl 45, .inl 46, .inl 47, .inl 48, .inl 49, .inl 50, .inl 51, .inl 52, .inl 53, .inl 54] (jk_ok _ _ (by decide)) (by rw [e_30]; rfl) rfl 1 4 rfl rfl rfl hl.1 rfl (Nat.le_of_ble_eq_true rfl) dX5_readDrive_109 ⟨Nat.le_refl 0, Nat.le_refl 0⟩ (fun H locs hP hD hS => ?_)
        refine lv_iadd hx hb dX5_readDrive_112 ?_
        refine lv_istore_n (lv' := [(2, .int (z2 + r_27.1)), (5, .float f_23), (4, .float (FP.i2f r_18)), (0, .ref (ad 0)), (3, .int z3)]) hx hb dX5_readDrive_113 rfl hl (by decide) rfl (fun ls hl => ?_)
        refine lv_iinc (v := (z3 + (1 : Int32))) (lv' := [(3, .int (z3 + (1 : Int32))), (2, .int (z2 + r_27.1)), (5, .float f_23), (4, .float (FP.i2f r_18)), (0, .ref (ad 0))]) hx hb dX5_readDrive_114 hl (k := 4) rfl rfl (by decide) rfl (fun ls hl => ?_)
        refine lv_goto (tgt := 56) hx hb dX5_readDrive_117 (by decide) ?_
        exact ih V_29 (z2 + r_27.1) (z3 + (1 : Int32)) _ _ _ hr hP hD hS (lv_sub hl [4, 1, 0] rfl)
  rw [mf_X5_readDrive] at hr
  suffices KK : ∀ (H : Heap) (locs : List Loc), va_P D vwCl (carW Y ad V) H → va_S A s.heap H locs → W p l e ({ frames := 6, cells := 0, slots := 0, locals := 138 } : Room) s m ([.ref (ad 0)] : List Value).toArray below meth c H locs 0 0 (MQ below (va_Qi (S := Unit) (fun r _ => r = R.1) (fun _ t => va_P D vwCl (carW Y ad R.2) t.heap) A) ([.ref (ad 0)] : List Value).toArray s 0 0 A) (F0 m 0 ls []) from KK _ _ hP hS
  intro H locs hP hS
  refine lv_aload_n hx hb dX5_readDrive_0 rfl (lv_at hl 0 rfl) ?_
  refine va_get (D := D) (ci := 5) (v := .ref (ad 52)) (C := RX5) (T := TX5) (N := 6) hx hb hts inX5 hown hK hP 0 rfl rfl 4 (by decide) (hts (.fieldLink RX5 32 "ShiftMaps" "text" "LShiftMaps$DriveText;") (List.mem_of_getElem? (i := 1) rfl)) (fun _ h9 => h9) rfl dX5_readDrive_1 ?_
  refine bdv hr (fun r_1 e_2 hr => ?_)
  refine nmv hr (fun V_3 e_4 hr => ?_)
  refine rwV_i (W1 := (txW Y (ad 52) (ad 53) (ad 54) r_1.2)) (W' := (carW Y ad V_3)) (As := []) (rest := []) ⟨hx, hb, hml, hown, hts⟩ (k_X0_read l D Y (ad 52) (ad 53) (ad 54) (v5_text V) r_1 e_2) (cwV 0 hts gX5_readDrive_X0_read rfl rfl rfl (by decide +kernel) ⟨Nat.le_of_ble_eq_true rfl, Nat.le_of_ble_eq_true rfl⟩) hP hK hN hZ hD hS [52, 53, 54] rfl (by decide) [.inl 0, .inl 1, .inl 2, .inl 3, .inl 4, .inl 5, .inl 6, .inl 7, .inl 8, .inl 9, .inl 10, .inl 11, .inl 12, .inl 13, .inl 14, .inl 15, .inl 16, .inl 17, .inl 18, .inl 19, .inl 20, .inl 21, .inl 22, .inl 23, .inl 24, .inl 25, .inl 26, .inl 27, .inl 28, .inl 29, .inl 30, .inl 31, .inl 32, .inl 33, .inl 34, .inl 35, .inl 36, .inl 37, .inl 38, .inl 39, .inl 40, .inl 41, .inl 42, .inl 43, .inl 44, .inl 45, .inl 46, .inl 47, .inl 48, .inl 49, .inl 50, .inl 51, .inr 0, .inr 1, .inr 2] (jk_ok _ _ (by decide)) (by rw [e_4]; rfl) rfl 52 0 rfl rfl rfl hl.1 rfl (Nat.le_of_ble_eq_true rfl) dX5_readDrive_4 ⟨Nat.le_refl 0, Nat.le_refl 0⟩ (fun H locs hP hD hS => ?_)
  refine lv_istore_n (lv' := [(1, .int r_1.1), (0, .ref (ad 0))]) hx hb dX5_readDrive_7 rfl hl (by decide) rfl (fun ls hl => ?_)
  refine lv_iload_n hx hb dX5_readDrive_8 rfl (lv_at hl 0 rfl) ?_
  refine lv_iconst (v := (-1 : Int32)) hx hb dX5_readDrive_9 (by decide) ?_
  refine lv_icmp_eq (tgt := 18) hx hb dX5_readDrive_10 (by decide) (fun c_5 => ?_) (fun c_5 => ?_)
  · have hr := hr.trans (if_pos c_5)
    refine lv_aload_n hx hb dX5_readDrive_18 rfl (lv_at hl 1 rfl) ?_
    refine va_get (D := D) (ci := 5) (v := .ref (ad 1)) (C := RX5) (T := TX5) (N := 6) hx hb hts inX5 hown hK hP 0 rfl rfl 0 (by decide) (hts (.fieldLink RX5 10 "ShiftMaps" "now" "LShiftMaps$State;") (List.mem_of_getElem? (i := 2) rfl)) (fun _ h9 => h9) rfl dX5_readDrive_19 ?_
    refine nmv hr (fun r_6 e_7 hr => ?_)
    refine roV_i (As := []) (rest := []) ⟨hx, hb, hml, hown, hts⟩ (k_X4_tick l D Y (ad 1) (ad 2) (ad 3) (ad 4) (ad 5) (ad 6) (ad 7) (v5_now V_3) r_6 e_7) (cwV 0 hts gX5_readDrive_X4_tick rfl rfl rfl (by decide +kernel) ⟨Nat.le_of_ble_eq_true rfl, Nat.le_of_ble_eq_true rfl⟩) (hP.sub (ws' := (stW Y (ad 1) (ad 2) (ad 3) (ad 4) (ad 5) (ad 6) (ad 7) (v5_now V_3))) [1, 2, 3, 4, 5, 6, 7] rfl) hK hN (hZ.at hS).F 0 4 rfl rfl rfl hl.1 rfl (Nat.le_of_ble_eq_true rfl) dX5_readDrive_22 ⟨Nat.le_refl 0, Nat.le_refl 0⟩ ?_
    refine lv_aload_n hx hb dX5_readDrive_25 rfl (lv_at hl 1 rfl) ?_
    refine va_get (D := D) (ci := 5) (v := .ref (ad 52)) (C := RX5) (T := TX5) (N := 6) hx hb hts inX5 hown hK hP 0 rfl rfl 4 (by decide) (hts (.fieldLink RX5 32 "ShiftMaps" "text" "LShiftMaps$DriveText;") (List.mem_of_getElem? (i := 1) rfl)) (fun _ h9 => h9) rfl dX5_readDrive_26 ?_
    refine bdv hr (fun r_8 e_9 hr => ?_)
    refine roV_i (As := []) (rest := [.int r_6]) ⟨hx, hb, hml, hown, hts⟩ (k_X0_ticksOfAllParts l D Y (ad 52) (ad 53) (ad 54) (v5_text V_3) r_8 e_9) (cwV 0 hts gX5_readDrive_X0_ticksOfAllParts rfl rfl rfl (by decide +kernel) ⟨Nat.le_of_ble_eq_true rfl, Nat.le_of_ble_eq_true rfl⟩) (hP.sub (ws' := (txW Y (ad 52) (ad 53) (ad 54) (v5_text V_3))) [52, 53, 54] rfl) hK hN (hZ.at hS).F 0 0 rfl rfl rfl hl.1 rfl (Nat.le_of_ble_eq_true rfl) dX5_readDrive_29 ⟨Nat.le_refl 0, Nat.le_refl 0⟩ ?_
    refine lv_iadd hx hb dX5_readDrive_32 ?_
    refine lv_ldc hx hb hown (hts (.constant RX5 99 (99999)) (List.mem_of_getElem? (i := 3) rfl)) dX5_readDrive_33 ?_
    refine lv_icmp_le (tgt := 41) hx hb dX5_readDrive_35 (by decide) (fun c_10 => ?_) (fun c_10 => ?_)
    · have hr := hr.trans (if_pos c_10)
      refine lv_aload_n hx hb dX5_readDrive_41 rfl (lv_at hl 1 rfl) ?_
      refine va_get (D := D) (ci := 5) (v := .ref (ad 22)) (C := RX5) (T := TX5) (N := 6) hx hb hts inX5 hown hK hP 0 rfl rfl 3 (by decide) (hts (.fieldLink RX5 25 "ShiftMaps" "history" "LShiftMaps$History;") (List.mem_of_getElem? (i := 4) rfl)) (fun _ h9 => h9) rfl dX5_readDrive_42 ?_
      refine lv_aload_n hx hb dX5_readDrive_45 rfl (lv_at hl 1 rfl) ?_
      refine va_get (D := D) (ci := 5) (v := .ref (ad 1)) (C := RX5) (T := TX5) (N := 6) hx hb hts inX5 hown hK hP 0 rfl rfl 0 (by decide) (hts (.fieldLink RX5 10 "ShiftMaps" "now" "LShiftMaps$State;") (List.mem_of_getElem? (i := 2) rfl)) (fun _ h9 => h9) rfl dX5_readDrive_46 ?_
      refine bdv hr (fun r_11 e_12 hr => ?_)
      refine nmv hr (fun V_13 e_14 hr => ?_)
      refine rwV_v (W1 := (hiW Y ad r_11) ++ (stW Y (ad 1) (ad 2) (ad 3) (ad 4) (ad 5) (ad 6) (ad 7) (v5_now V_3))) (W' := (carW Y ad V_13)) (As := [.ref (ad 1)]) (rest := []) ⟨hx, hb, hml, hown, hts⟩ (k_X1_record l D Y ad (ad 1) (ad 2) (ad 3) (ad 4) (ad 5) (ad 6) (ad 7) (v5_history V_3) (v5_now V_3) r_11 e_12) (cwV 1 hts gX5_readDrive_X1_record rfl rfl rfl (by decide +kernel) ⟨Nat.le_of_ble_eq_true rfl, Nat.le_of_ble_eq_true rfl⟩) hP hK hN hZ hD hS [22, 23, 24, 25, 26, 27, 28, 29, 30, 31, 32, 33, 34, 35, 36, 37, 38, 39, 40, 41, 42, 43, 44, 45, 46, 47, 48, 49, 50, 51, 1, 2, 3, 4, 5, 6, 7] rfl (by decide) [.inl 0, .inr 30, .inr 31, .inr 32, .inr 33, .inr 34, .inr 35, .inr 36, .inl 8, .inl 9, .inl 10, .inl 11, .inl 12, .inl 13, .inl 14, .inl 15, .inl 16, .inl 17, .inl 18, .inl 19, .inl 20, .inl 21, .inr 0, .inr 1, .inr 2, .inr 3, .inr 4, .inr 5, .inr 6, .inr 7, .inr 8, .inr 9, .inr 10, .inr 11, .inr 12, .inr 13, .inr 14, .inr 15, .inr 16, .inr 17, .inr 18, .inr 19, .inr 20, .inr 21, .inr 22, .inr 23, .inr 24, .inr 25, .inr 26, .inr 27, .inr 28, .inr 29, .inl 52, .inl 53, .inl 54] (jk_ok _ _ (by decide)) (by rw [e_14]; rfl) rfl 22 1 rfl rfl rfl hl.1 rfl (Nat.le_of_ble_eq_true rfl) dX5_readDrive_49 ⟨Nat.le_refl 0, Nat.le_refl 0⟩ (fun H locs hP hD hS => ?_)
      refine lv_iconst (v := (0 : Int32)) hx hb dX5_readDrive_52 (by decide) ?_
      refine lv_istore_n (lv' := [(2, .int (0 : Int32)), (1, .int r_1.1), (0, .ref (ad 0))]) hx hb dX5_readDrive_53 rfl hl (by decide) rfl (fun ls hl => ?_)
      refine lv_iconst (v := (0 : Int32)) hx hb dX5_readDrive_54 (by decide) ?_
      refine lv_istore_n (lv' := [(3, .int (0 : Int32)), (2, .int (0 : Int32)), (1, .int r_1.1), (0, .ref (ad 0))]) hx hb dX5_readDrive_55 rfl hl (by decide) rfl (fun ls hl => ?_)
      exact B56 70 V_13 (0 : Int32) (0 : Int32) _ _ _ hr hP hD hS (lv_sub hl [3, 1, 0] rfl)
    · have hr := hr.trans (if_neg c_10)
      refine lv_bipush (v := (-3 : Int32)) hx hb dX5_readDrive_38 (by decide) ?_
      have hr := Option.some.inj hr
      subst hr
      exact W.iret hx hb hrt (fun t ht hW => ⟨⟨_, (), rfl, rfl, by show va_P D vwCl _ t.heap; rw [ht]; exact hP⟩, hS.F ht⟩) hS.2.2 dX5_readDrive_40
  · have hr := hr.trans (if_neg c_5)
    refine lv_bipush (v := (-100 : Int32)) hx hb dX5_readDrive_13 (by decide) ?_
    refine lv_iload_n hx hb dX5_readDrive_15 rfl (lv_at hl 0 rfl) ?_
    refine lv_isub hx hb dX5_readDrive_16 ?_
    have hr := Option.some.inj hr
    subst hr
    exact W.iret hx hb hrt (fun t ht hW => ⟨⟨_, (), rfl, rfl, by show va_P D vwCl _ t.heap; rw [ht]; exact hP⟩, hS.F ht⟩) hS.2.2 dX5_readDrive_17

set_option maxHeartbeats 4000000 in
set_option maxRecDepth 100000 in
theorem k_X5_shift (l : Launch) (D : va_G) (Y : Nat → ClassId) (ad : Nat → Nat) (V : CarV) (x1 : Int32) (R : Int32 × CarV) (hr : some R = mf_X5_shift V x1) : Met l yX5_shift wsX5_shift ({ frames := 4, cells := 0, slots := 0, locals := 124 } : Room) (va_Pc [.ref (ad 0), .int x1] (PW D Y (carW Y ad V))) (va_Qi (S := Unit) (fun r _ => r = R.1) (fun _ t => va_P D vwCl (carW Y ad R.2) t.heap) (wA (carW Y ad V))) 0 0 (wA (carW Y ad V)) := by
  refine Met.ofW (cc := cX5_shift) (maxL := 3) (ret := (some .int)) (by decide) rfl ?_
  intro p e s m args below meth c s₁ B hml hv
  obtain ⟨rfl, hP, hK, hN, hZ, hD⟩ := hv
  have hx := B.exec
  have hb := B.bytes
  have hrt := B.returns
  have hts := atoms_spec (ws := wsX5_shift) B.pre
  have hown : s.vm.findClass RX5 = some m.cls := findClass_of_methodNamed B.named
  have hlocks := B.notSynchronized
  have inX4 : ∀ w ∈ u_ws RX4 TX4 11, w ∈ wsX5_shift := uin_at 110 rfl
  have inX5 : ∀ w ∈ u_ws RX5 TX5 6, w ∈ wsX5_shift := uin_at 104 rfl
  generalize hAe : wA (carW Y ad V) = A at hZ hD ⊢
  have hS : va_S A s.heap s.heap [] := va_S.rf
  have hl := lv_entry ([.ref (ad 0), .int x1]) (n := 3) (Nat.le_of_ble_eq_true rfl)
  rw [lg_entry_eq]
  generalize (lg_sl ([.ref (ad 0), .int x1]) ++ List.replicate (3 - (lg_sl ([.ref (ad 0), .int x1])).length) Slot.unset).toArray = ls at hl ⊢
  have hl : lv_has ls 3 [(0, .ref (ad 0)), (1, .int x1)] := hl
  have B25 : ∀ (W0 : CarV) (y0 : Int32) (H : Heap) (locs : List Loc) (ls : Array Slot), some R = mf_X5_shift_B25 W0 y0 → va_P D vwCl (carW Y ad W0) H → va_D A (carW Y ad W0) → va_S A s.heap H locs → lv_has ls 3 [(0, .ref (ad 0))] → W p l e ({ frames := 4, cells := 0, slots := 0, locals := 124 } : Room) s m ([.ref (ad 0), .int x1] : List Value).toArray below meth c H locs 0 0 (MQ below (va_Qi (S := Unit) (fun r _ => r = R.1) (fun _ t => va_P D vwCl (carW Y ad R.2) t.heap) A) ([.ref (ad 0), .int x1] : List Value).toArray s 0 0 A) (F0 m 25 ls [.int y0]) := by
    intro W0 y0 H locs ls hr hP hD hS hl
    rw [mf_X5_shift_B25] at hr
    refine lv_istore_n (lv' := [(2, .int y0), (0, .ref (ad 0))]) hx hb dX5_shift_25 rfl hl (by decide) rfl (fun ls hl => ?_)
    refine lv_aload_n hx hb dX5_shift_26 rfl (lv_at hl 1 rfl) ?_
    refine va_get (D := D) (ci := 5) (v := .ref (ad 1)) (C := RX5) (T := TX5) (N := 6) hx hb hts inX5 hown hK hP 0 rfl rfl 0 (by decide) (hts (.fieldLink RX5 10 "ShiftMaps" "now" "LShiftMaps$State;") (List.mem_of_getElem? (i := 1) rfl)) (fun _ h9 => h9) rfl dX5_shift_27 ?_
    refine lv_iload_n hx hb dX5_shift_30 rfl (lv_at hl 0 rfl) ?_
    refine nmv hr (fun r_2 e_3 hr => ?_)
    refine roV_i (As := [.int y0]) (rest := []) ⟨hx, hb, hml, hown, hts⟩ (k_X4_mayShiftTo l D Y (ad 1) (ad 2) (ad 3) (ad 4) (ad 5) (ad 6) (ad 7) (v5_now W0) y0 r_2 e_3) (cwV 1 hts gX5_shift_X4_mayShiftTo rfl rfl rfl (by decide +kernel) ⟨Nat.le_of_ble_eq_true rfl, Nat.le_of_ble_eq_true rfl⟩) (hP.sub (ws' := (stW Y (ad 1) (ad 2) (ad 3) (ad 4) (ad 5) (ad 6) (ad 7) (v5_now W0))) [1, 2, 3, 4, 5, 6, 7] rfl) hK hN (hZ.at hS).F 0 4 rfl rfl rfl hl.1 rfl (Nat.le_of_ble_eq_true rfl) dX5_shift_31 ⟨Nat.le_refl 0, Nat.le_refl 0⟩ ?_
    refine lv_if_ne (tgt := 40) hx hb dX5_shift_34 (by decide) (fun c_4 => ?_) (fun c_4 => ?_)
    · have hr := hr.trans (if_neg c_4)
      refine lv_aload_n hx hb dX5_shift_40 rfl (lv_at hl 1 rfl) ?_
      refine va_get (D := D) (ci := 5) (v := .ref (ad 22)) (C := RX5) (T := TX5) (N := 6) hx hb hts inX5 hown hK hP 0 rfl rfl 3 (by decide) (hts (.fieldLink RX5 25 "ShiftMaps" "history" "LShiftMaps$History;") (List.mem_of_getElem? (i := 2) rfl)) (fun _ h9 => h9) rfl dX5_shift_41 ?_
      refine lv_aload_n hx hb dX5_shift_44 rfl (lv_at hl 1 rfl) ?_
      refine va_get (D := D) (ci := 5) (v := .ref (ad 1)) (C := RX5) (T := TX5) (N := 6) hx hb hts inX5 hown hK hP 0 rfl rfl 0 (by decide) (hts (.fieldLink RX5 10 "ShiftMaps" "now" "LShiftMaps$State;") (List.mem_of_getElem? (i := 1) rfl)) (fun _ h9 => h9) rfl dX5_shift_45 ?_
      refine bdv hr (fun r_5 e_6 hr => ?_)
      refine nmv hr (fun V_7 e_8 hr => ?_)
      refine rwV_v (W1 := (hiW Y ad r_5) ++ (stW Y (ad 1) (ad 2) (ad 3) (ad 4) (ad 5) (ad 6) (ad 7) (v5_now W0))) (W' := (carW Y ad V_7)) (As := [.ref (ad 1)]) (rest := []) ⟨hx, hb, hml, hown, hts⟩ (k_X1_record l D Y ad (ad 1) (ad 2) (ad 3) (ad 4) (ad 5) (ad 6) (ad 7) (v5_history W0) (v5_now W0) r_5 e_6) (cwV 1 hts gX5_shift_X1_record rfl rfl rfl (by decide +kernel) ⟨Nat.le_of_ble_eq_true rfl, Nat.le_of_ble_eq_true rfl⟩) hP hK hN hZ hD hS [22, 23, 24, 25, 26, 27, 28, 29, 30, 31, 32, 33, 34, 35, 36, 37, 38, 39, 40, 41, 42, 43, 44, 45, 46, 47, 48, 49, 50, 51, 1, 2, 3, 4, 5, 6, 7] rfl (by decide) [.inl 0, .inr 30, .inr 31, .inr 32, .inr 33, .inr 34, .inr 35, .inr 36, .inl 8, .inl 9, .inl 10, .inl 11, .inl 12, .inl 13, .inl 14, .inl 15, .inl 16, .inl 17, .inl 18, .inl 19, .inl 20, .inl 21, .inr 0, .inr 1, .inr 2, .inr 3, .inr 4, .inr 5, .inr 6, .inr 7, .inr 8, .inr 9, .inr 10, .inr 11, .inr 12, .inr 13, .inr 14, .inr 15, .inr 16, .inr 17, .inr 18, .inr 19, .inr 20, .inr 21, .inr 22, .inr 23, .inr 24, .inr 25, .inr 26, .inr 27, .inr 28, .inr 29, .inl 52, .inl 53, .inl 54] (jk_ok _ _ (by decide)) (by rw [e_8]; rfl) rfl 22 1 rfl rfl rfl hl.1 rfl (Nat.le_of_ble_eq_true rfl) dX5_shift_48 ⟨Nat.le_refl 0, Nat.le_refl 0⟩ (fun H locs hP hD hS => ?_)
      refine lv_aload_n hx hb dX5_shift_51 rfl (lv_at hl 1 rfl) ?_
      refine va_get (D := D) (ci := 5) (v := .ref (ad 1)) (C := RX5) (T := TX5) (N := 6) hx hb hts inX5 hown hK hP 0 rfl rfl 0 (by decide) (hts (.fieldLink RX5 10 "ShiftMaps" "now" "LShiftMaps$State;") (List.mem_of_getElem? (i := 1) rfl)) (fun _ h9 => h9) rfl dX5_shift_52 ?_
      refine lv_iconst (v := (3 : Int32)) hx hb dX5_shift_55 (by decide) ?_
      refine lv_iload_n hx hb dX5_shift_56 rfl (lv_at hl 0 rfl) ?_
      refine bdv hr (fun r_9 e_10 hr => ?_)
      refine nmv hr (fun V_11 e_12 hr => ?_)
      refine rwV_v (W1 := (stW Y (ad 1) (ad 2) (ad 3) (ad 4) (ad 5) (ad 6) (ad 7) r_9)) (W' := (carW Y ad V_11)) (As := [.int (3 : Int32), .int y0]) (rest := []) ⟨hx, hb, hml, hown, hts⟩ (k_X4_begin l D Y (ad 1) (ad 2) (ad 3) (ad 4) (ad 5) (ad 6) (ad 7) (v5_now V_7) (3 : Int32) y0 r_9 e_10) (cwV 2 hts gX5_shift_X4_begin rfl rfl rfl (by decide +kernel) ⟨Nat.le_of_ble_eq_true rfl, Nat.le_of_ble_eq_true rfl⟩) hP hK hN hZ hD hS [1, 2, 3, 4, 5, 6, 7] rfl (by decide) [.inl 0, .inr 0, .inr 1, .inr 2, .inr 3, .inr 4, .inr 5, .inr 6, .inl 8, .inl 9, .inl 10, .inl 11, .inl 12, .inl 13, .inl 14, .inl 15, .inl 16, .inl 17, .inl 18, .inl 19, .inl 20, .inl 21, .inl 22, .inl 23, .inl 24, .inl 25, .inl 26, .inl 27, .inl 28, .inl 29, .inl 30, .inl 31, .inl 32, .inl 33, .inl 34, .inl 35, .inl 36, .inl 37, .inl 38, .inl 39, .inl 40, .inl 41, .inl 42, .inl 43, .inl 44, .inl 45, .inl 46, .inl 47, .inl 48, .inl 49, .inl 50, .inl 51, .inl 52, .inl 53, .inl 54] (jk_ok _ _ (by decide)) (by rw [e_12]; rfl) rfl 1 4 rfl rfl rfl hl.1 rfl (Nat.le_of_ble_eq_true rfl) dX5_shift_57 ⟨Nat.le_refl 0, Nat.le_refl 0⟩ (fun H locs hP hD hS => ?_)
      refine lv_iload_n hx hb dX5_shift_60 rfl (lv_at hl 0 rfl) ?_
      have hr := Option.some.inj hr
      subst hr
      exact W.iret hx hb hrt (fun t ht hW => ⟨⟨_, (), rfl, rfl, by show va_P D vwCl _ t.heap; rw [ht]; exact hP⟩, hS.F ht⟩) hS.2.2 dX5_shift_61
    · have hr := hr.trans (if_pos c_4)
      refine lv_bipush (v := (-4 : Int32)) hx hb dX5_shift_37 (by decide) ?_
      have hr := Option.some.inj hr
      subst hr
      exact W.iret hx hb hrt (fun t ht hW => ⟨⟨_, (), rfl, rfl, by show va_P D vwCl _ t.heap; rw [ht]; exact hP⟩, hS.F ht⟩) hS.2.2 dX5_shift_39
  rw [mf_X5_shift] at hr
  suffices KK : ∀ (H : Heap) (locs : List Loc), va_P D vwCl (carW Y ad V) H → va_S A s.heap H locs → W p l e ({ frames := 4, cells := 0, slots := 0, locals := 124 } : Room) s m ([.ref (ad 0), .int x1] : List Value).toArray below meth c H locs 0 0 (MQ below (va_Qi (S := Unit) (fun r _ => r = R.1) (fun _ t => va_P D vwCl (carW Y ad R.2) t.heap) A) ([.ref (ad 0), .int x1] : List Value).toArray s 0 0 A) (F0 m 0 ls []) from KK _ _ hP hS
  intro H locs hP hS
  refine lv_iload_n hx hb dX5_shift_0 rfl (lv_at hl 1 rfl) ?_
  refine lv_if_eq (tgt := 16) hx hb dX5_shift_1 (by decide) (fun c_1 => ?_) (fun c_1 => ?_)
  · have hr := hr.trans (if_pos c_1)
    refine lv_aload_n hx hb dX5_shift_16 rfl (lv_at hl 0 rfl) ?_
    refine va_get (D := D) (ci := 5) (v := .ref (ad 1)) (C := RX5) (T := TX5) (N := 6) hx hb hts inX5 hown hK hP 0 rfl rfl 0 (by decide) (hts (.fieldLink RX5 10 "ShiftMaps" "now" "LShiftMaps$State;") (List.mem_of_getElem? (i := 1) rfl)) (fun _ h9 => h9) rfl dX5_shift_17 ?_
    refine va_getN (D := D) (ci := 4) (v := .int (v4_gear (v5_now V))) (C := RX4) (T := TX4) (N := 11) hx hb hts inX4 hown hK hP 1 rfl rfl 4 (by decide) (va_Nw.use rfl (NZ.n88 hN)) (fun _ h9 => h9) rfl dX5_shift_20 ?_
    refine lv_iconst (v := (1 : Int32)) hx hb dX5_shift_23 (by decide) ?_
    refine lv_isub hx hb dX5_shift_24 ?_
    exact B25 V ((v4_gear (v5_now V)) - (1 : Int32)) _ _ _ hr hP hD hS (lv_sub hl [0] rfl)
  · have hr := hr.trans (if_neg c_1)
    refine lv_aload_n hx hb dX5_shift_4 rfl (lv_at hl 0 rfl) ?_
    refine va_get (D := D) (ci := 5) (v := .ref (ad 1)) (C := RX5) (T := TX5) (N := 6) hx hb hts inX5 hown hK hP 0 rfl rfl 0 (by decide) (hts (.fieldLink RX5 10 "ShiftMaps" "now" "LShiftMaps$State;") (List.mem_of_getElem? (i := 1) rfl)) (fun _ h9 => h9) rfl dX5_shift_5 ?_
    refine va_getN (D := D) (ci := 4) (v := .int (v4_gear (v5_now V))) (C := RX4) (T := TX4) (N := 11) hx hb hts inX4 hown hK hP 1 rfl rfl 4 (by decide) (va_Nw.use rfl (NZ.n88 hN)) (fun _ h9 => h9) rfl dX5_shift_8 ?_
    refine lv_iconst (v := (1 : Int32)) hx hb dX5_shift_11 (by decide) ?_
    refine lv_iadd hx hb dX5_shift_12 ?_
    refine lv_goto (tgt := 25) hx hb dX5_shift_13 (by decide) ?_
    exact B25 V ((v4_gear (v5_now V)) + (1 : Int32)) _ _ _ hr hP hD hS (lv_sub hl [0] rfl)

set_option maxHeartbeats 4000000 in
set_option maxRecDepth 100000 in
theorem k_X5_type (l : Launch) (D : va_G) (Y : Nat → ClassId) (ad : Nat → Nat) (V : CarV) (x1 : Int32) (R : Int32 × CarV) (hr : R = mf_X5_type V x1) : Met l yX5_type wsX5_type ({ frames := 1, cells := 0, slots := 0, locals := 21 } : Room) (va_Pc [.ref (ad 0), .int x1] (PW D Y (carW Y ad V))) (va_Qi (S := Unit) (fun r _ => r = R.1) (fun _ t => va_P D vwCl (carW Y ad R.2) t.heap) (wA (carW Y ad V))) 0 0 (wA (carW Y ad V)) := by
  refine Met.ofW (cc := cX5_type) (maxL := 2) (ret := (some .int)) (by decide) rfl ?_
  intro p e s m args below meth c s₁ B hml hv
  obtain ⟨rfl, hP, hK, hN, hZ, hD⟩ := hv
  have hx := B.exec
  have hb := B.bytes
  have hrt := B.returns
  have hts := atoms_spec (ws := wsX5_type) B.pre
  have hown : s.vm.findClass RX5 = some m.cls := findClass_of_methodNamed B.named
  have hlocks := B.notSynchronized
  have inX5 : ∀ w ∈ u_ws RX5 TX5 6, w ∈ wsX5_type := uin_at 13 rfl
  generalize hAe : wA (carW Y ad V) = A at hZ hD ⊢
  have hS : va_S A s.heap s.heap [] := va_S.rf
  have hl := lv_entry ([.ref (ad 0), .int x1]) (n := 2) (Nat.le_of_ble_eq_true rfl)
  rw [lg_entry_eq]
  generalize (lg_sl ([.ref (ad 0), .int x1]) ++ List.replicate (2 - (lg_sl ([.ref (ad 0), .int x1])).length) Slot.unset).toArray = ls at hl ⊢
  have hl : lv_has ls 2 [(0, .ref (ad 0)), (1, .int x1)] := hl
  rw [mf_X5_type] at hr
  suffices KK : ∀ (H : Heap) (locs : List Loc), va_P D vwCl (carW Y ad V) H → va_S A s.heap H locs → W p l e ({ frames := 1, cells := 0, slots := 0, locals := 21 } : Room) s m ([.ref (ad 0), .int x1] : List Value).toArray below meth c H locs 0 0 (MQ below (va_Qi (S := Unit) (fun r _ => r = R.1) (fun _ t => va_P D vwCl (carW Y ad R.2) t.heap) A) ([.ref (ad 0), .int x1] : List Value).toArray s 0 0 A) (F0 m 0 ls []) from KK _ _ hP hS
  intro H locs hP hS
  refine lv_aload_n hx hb dX5_type_0 rfl (lv_at hl 0 rfl) ?_
  refine va_get (D := D) (ci := 5) (v := .ref (ad 52)) (C := RX5) (T := TX5) (N := 6) hx hb hts inX5 hown hK hP 0 rfl rfl 4 (by decide) (hts (.fieldLink RX5 32 "ShiftMaps" "text" "LShiftMaps$DriveText;") (List.mem_of_getElem? (i := 1) rfl)) (fun _ h9 => h9) rfl dX5_type_1 ?_
  refine lv_iload_n hx hb dX5_type_4 rfl (lv_at hl 1 rfl) ?_
  refine nmv hr (fun r_1 e_2 hr => ?_)
  refine nmv hr (fun V_3 e_4 hr => ?_)
  refine rwV_i (W1 := (txW Y (ad 52) (ad 53) (ad 54) r_1.2)) (W' := (carW Y ad V_3)) (As := [.int x1]) (rest := []) ⟨hx, hb, hml, hown, hts⟩ (k_X0_append l D Y (ad 52) (ad 53) (ad 54) (v5_text V) x1 r_1 e_2) (cwV 1 hts gX5_type_X0_append rfl rfl rfl (by decide +kernel) ⟨Nat.le_of_ble_eq_true rfl, Nat.le_of_ble_eq_true rfl⟩) hP hK hN hZ hD hS [52, 53, 54] rfl (by decide) [.inl 0, .inl 1, .inl 2, .inl 3, .inl 4, .inl 5, .inl 6, .inl 7, .inl 8, .inl 9, .inl 10, .inl 11, .inl 12, .inl 13, .inl 14, .inl 15, .inl 16, .inl 17, .inl 18, .inl 19, .inl 20, .inl 21, .inl 22, .inl 23, .inl 24, .inl 25, .inl 26, .inl 27, .inl 28, .inl 29, .inl 30, .inl 31, .inl 32, .inl 33, .inl 34, .inl 35, .inl 36, .inl 37, .inl 38, .inl 39, .inl 40, .inl 41, .inl 42, .inl 43, .inl 44, .inl 45, .inl 46, .inl 47, .inl 48, .inl 49, .inl 50, .inl 51, .inr 0, .inr 1, .inr 2] (jk_ok _ _ (by decide)) (by rw [e_4]; rfl) rfl 52 0 rfl rfl rfl hl.1 rfl (Nat.le_of_ble_eq_true rfl) dX5_type_5 ⟨Nat.le_refl 0, Nat.le_refl 0⟩ (fun H locs hP hD hS => ?_)
  refine lv_if_eq (tgt := 21) hx hb dX5_type_8 (by decide) (fun c_5 => ?_) (fun c_5 => ?_)
  · have hr := hr.trans (if_pos c_5)
    refine lv_bipush (v := (-3 : Int32)) hx hb dX5_type_21 (by decide) ?_
    subst hr
    exact W.iret hx hb hrt (fun t ht hW => ⟨⟨_, (), rfl, rfl, by show va_P D vwCl _ t.heap; rw [ht]; exact hP⟩, hS.F ht⟩) hS.2.2 dX5_type_23
  · have hr := hr.trans (if_neg c_5)
    refine lv_aload_n hx hb dX5_type_11 rfl (lv_at hl 0 rfl) ?_
    refine va_get (D := D) (ci := 5) (v := .ref (ad 52)) (C := RX5) (T := TX5) (N := 6) hx hb hts inX5 hown hK hP 0 rfl rfl 4 (by decide) (hts (.fieldLink RX5 32 "ShiftMaps" "text" "LShiftMaps$DriveText;") (List.mem_of_getElem? (i := 1) rfl)) (fun _ h9 => h9) rfl dX5_type_12 ?_
    refine nmv hr (fun r_6 e_7 hr => ?_)
    refine roV_i (As := []) (rest := []) ⟨hx, hb, hml, hown, hts⟩ (k_X0_length l D Y (ad 52) (ad 53) (ad 54) (v5_text V_3) r_6 e_7) (cwV 0 hts gX5_type_X0_length rfl rfl rfl (by decide +kernel) ⟨Nat.le_of_ble_eq_true rfl, Nat.le_of_ble_eq_true rfl⟩) (hP.sub (ws' := (txW Y (ad 52) (ad 53) (ad 54) (v5_text V_3))) [52, 53, 54] rfl) hK hN (hZ.at hS).F 0 0 rfl rfl rfl hl.1 rfl (Nat.le_of_ble_eq_true rfl) dX5_type_15 ⟨Nat.le_refl 0, Nat.le_refl 0⟩ ?_
    refine lv_goto (tgt := 23) hx hb dX5_type_18 (by decide) ?_
    subst hr
    exact W.iret hx hb hrt (fun t ht hW => ⟨⟨_, (), rfl, rfl, by show va_P D vwCl _ t.heap; rw [ht]; exact hP⟩, hS.F ht⟩) hS.2.2 dX5_type_23

set_option maxHeartbeats 4000000 in
set_option maxRecDepth 100000 in
theorem k_X5_clearText (l : Launch) (D : va_G) (Y : Nat → ClassId) (ad : Nat → Nat) (V : CarV) (R : Int32 × CarV) (hr : R = mf_X5_clearText V) : Met l yX5_clearText wsX5_clearText ({ frames := 1, cells := 0, slots := 0, locals := 20 } : Room) (va_Pc [.ref (ad 0)] (PW D Y (carW Y ad V))) (va_Qi (S := Unit) (fun r _ => r = R.1) (fun _ t => va_P D vwCl (carW Y ad R.2) t.heap) (wA (carW Y ad V))) 0 0 (wA (carW Y ad V)) := by
  refine Met.ofW (cc := cX5_clearText) (maxL := 2) (ret := (some .int)) (by decide) rfl ?_
  intro p e s m args below meth c s₁ B hml hv
  obtain ⟨rfl, hP, hK, hN, hZ, hD⟩ := hv
  have hx := B.exec
  have hb := B.bytes
  have hrt := B.returns
  have hts := atoms_spec (ws := wsX5_clearText) B.pre
  have hown : s.vm.findClass RX5 = some m.cls := findClass_of_methodNamed B.named
  have hlocks := B.notSynchronized
  have inX5 : ∀ w ∈ u_ws RX5 TX5 6, w ∈ wsX5_clearText := uin_at 12 rfl
  generalize hAe : wA (carW Y ad V) = A at hZ hD ⊢
  have hS : va_S A s.heap s.heap [] := va_S.rf
  have hl := lv_entry ([.ref (ad 0)]) (n := 2) (Nat.le_of_ble_eq_true rfl)
  rw [lg_entry_eq]
  generalize (lg_sl ([.ref (ad 0)]) ++ List.replicate (2 - (lg_sl ([.ref (ad 0)])).length) Slot.unset).toArray = ls at hl ⊢
  have hl : lv_has ls 2 [(0, .ref (ad 0))] := hl
  rw [mf_X5_clearText] at hr
  suffices KK : ∀ (H : Heap) (locs : List Loc), va_P D vwCl (carW Y ad V) H → va_S A s.heap H locs → W p l e ({ frames := 1, cells := 0, slots := 0, locals := 20 } : Room) s m ([.ref (ad 0)] : List Value).toArray below meth c H locs 0 0 (MQ below (va_Qi (S := Unit) (fun r _ => r = R.1) (fun _ t => va_P D vwCl (carW Y ad R.2) t.heap) A) ([.ref (ad 0)] : List Value).toArray s 0 0 A) (F0 m 0 ls []) from KK _ _ hP hS
  intro H locs hP hS
  refine lv_aload_n hx hb dX5_clearText_0 rfl (lv_at hl 0 rfl) ?_
  refine va_get (D := D) (ci := 5) (v := .ref (ad 52)) (C := RX5) (T := TX5) (N := 6) hx hb hts inX5 hown hK hP 0 rfl rfl 4 (by decide) (hts (.fieldLink RX5 32 "ShiftMaps" "text" "LShiftMaps$DriveText;") (List.mem_of_getElem? (i := 1) rfl)) (fun _ h9 => h9) rfl dX5_clearText_1 ?_
  refine nmv hr (fun r_1 e_2 hr => ?_)
  refine roV_i (As := []) (rest := []) ⟨hx, hb, hml, hown, hts⟩ (k_X0_length l D Y (ad 52) (ad 53) (ad 54) (v5_text V) r_1 e_2) (cwV 0 hts gX5_clearText_X0_length rfl rfl rfl (by decide +kernel) ⟨Nat.le_of_ble_eq_true rfl, Nat.le_of_ble_eq_true rfl⟩) (hP.sub (ws' := (txW Y (ad 52) (ad 53) (ad 54) (v5_text V))) [52, 53, 54] rfl) hK hN (hZ.at hS).F 0 0 rfl rfl rfl hl.1 rfl (Nat.le_of_ble_eq_true rfl) dX5_clearText_4 ⟨Nat.le_refl 0, Nat.le_refl 0⟩ ?_
  refine lv_istore_n (lv' := [(1, .int r_1), (0, .ref (ad 0))]) hx hb dX5_clearText_7 rfl hl (by decide) rfl (fun ls hl => ?_)
  refine lv_aload_n hx hb dX5_clearText_8 rfl (lv_at hl 1 rfl) ?_
  refine va_get (D := D) (ci := 5) (v := .ref (ad 52)) (C := RX5) (T := TX5) (N := 6) hx hb hts inX5 hown hK hP 0 rfl rfl 4 (by decide) (hts (.fieldLink RX5 32 "ShiftMaps" "text" "LShiftMaps$DriveText;") (List.mem_of_getElem? (i := 1) rfl)) (fun _ h9 => h9) rfl dX5_clearText_9 ?_
  refine nmv hr (fun r_3 e_4 hr => ?_)
  refine nmv hr (fun V_5 e_6 hr => ?_)
  refine rwV_v (W1 := (txW Y (ad 52) (ad 53) (ad 54) r_3)) (W' := (carW Y ad V_5)) (As := []) (rest := []) ⟨hx, hb, hml, hown, hts⟩ (k_X0_clear l D Y (ad 52) (ad 53) (ad 54) (v5_text V) r_3 e_4) (cwV 0 hts gX5_clearText_X0_clear rfl rfl rfl (by decide +kernel) ⟨Nat.le_of_ble_eq_true rfl, Nat.le_of_ble_eq_true rfl⟩) hP hK hN hZ hD hS [52, 53, 54] rfl (by decide) [.inl 0, .inl 1, .inl 2, .inl 3, .inl 4, .inl 5, .inl 6, .inl 7, .inl 8, .inl 9, .inl 10, .inl 11, .inl 12, .inl 13, .inl 14, .inl 15, .inl 16, .inl 17, .inl 18, .inl 19, .inl 20, .inl 21, .inl 22, .inl 23, .inl 24, .inl 25, .inl 26, .inl 27, .inl 28, .inl 29, .inl 30, .inl 31, .inl 32, .inl 33, .inl 34, .inl 35, .inl 36, .inl 37, .inl 38, .inl 39, .inl 40, .inl 41, .inl 42, .inl 43, .inl 44, .inl 45, .inl 46, .inl 47, .inl 48, .inl 49, .inl 50, .inl 51, .inr 0, .inr 1, .inr 2] (jk_ok _ _ (by decide)) (by rw [e_6]; rfl) rfl 52 0 rfl rfl rfl hl.1 rfl (Nat.le_of_ble_eq_true rfl) dX5_clearText_12 ⟨Nat.le_refl 0, Nat.le_refl 0⟩ (fun H locs hP hD hS => ?_)
  refine lv_iload_n hx hb dX5_clearText_15 rfl (lv_at hl 0 rfl) ?_
  subst hr
  exact W.iret hx hb hrt (fun t ht hW => ⟨⟨_, (), rfl, rfl, by show va_P D vwCl _ t.heap; rw [ht]; exact hP⟩, hS.F ht⟩) hS.2.2 dX5_clearText_16

set_option maxHeartbeats 4000000 in
set_option maxRecDepth 100000 in
theorem k_X5_undo (l : Launch) (D : va_G) (Y : Nat → ClassId) (ad : Nat → Nat) (V : CarV) (R : Int32 × CarV) (hr : some R = mf_X5_undo V) : Met l yX5_undo wsX5_undo ({ frames := 4, cells := 0, slots := 0, locals := 125 } : Room) (va_Pc [.ref (ad 0)] (PW D Y (carW Y ad V))) (va_Qi (S := Unit) (fun r _ => r = R.1) (fun _ t => va_P D vwCl (carW Y ad R.2) t.heap) (wA (carW Y ad V))) 0 0 (wA (carW Y ad V)) := by
  refine Met.ofW (cc := cX5_undo) (maxL := 1) (ret := (some .int)) (by decide) rfl ?_
  intro p e s m args below meth c s₁ B hml hv
  obtain ⟨rfl, hP, hK, hN, hZ, hD⟩ := hv
  have hx := B.exec
  have hb := B.bytes
  have hrt := B.returns
  have hts := atoms_spec (ws := wsX5_undo) B.pre
  have hown : s.vm.findClass RX5 = some m.cls := findClass_of_methodNamed B.named
  have hlocks := B.notSynchronized
  have inX5 : ∀ w ∈ u_ws RX5 TX5 6, w ∈ wsX5_undo := uin_at 55 rfl
  generalize hAe : wA (carW Y ad V) = A at hZ hD ⊢
  have hS : va_S A s.heap s.heap [] := va_S.rf
  have hl := lv_entry ([.ref (ad 0)]) (n := 1) (Nat.le_of_ble_eq_true rfl)
  rw [lg_entry_eq]
  generalize (lg_sl ([.ref (ad 0)]) ++ List.replicate (1 - (lg_sl ([.ref (ad 0)])).length) Slot.unset).toArray = ls at hl ⊢
  have hl : lv_has ls 1 [(0, .ref (ad 0))] := hl
  rw [mf_X5_undo] at hr
  suffices KK : ∀ (H : Heap) (locs : List Loc), va_P D vwCl (carW Y ad V) H → va_S A s.heap H locs → W p l e ({ frames := 4, cells := 0, slots := 0, locals := 125 } : Room) s m ([.ref (ad 0)] : List Value).toArray below meth c H locs 0 0 (MQ below (va_Qi (S := Unit) (fun r _ => r = R.1) (fun _ t => va_P D vwCl (carW Y ad R.2) t.heap) A) ([.ref (ad 0)] : List Value).toArray s 0 0 A) (F0 m 0 ls []) from KK _ _ hP hS
  intro H locs hP hS
  refine lv_aload_n hx hb dX5_undo_0 rfl (lv_at hl 0 rfl) ?_
  refine va_get (D := D) (ci := 5) (v := .ref (ad 22)) (C := RX5) (T := TX5) (N := 6) hx hb hts inX5 hown hK hP 0 rfl rfl 3 (by decide) (hts (.fieldLink RX5 25 "ShiftMaps" "history" "LShiftMaps$History;") (List.mem_of_getElem? (i := 1) rfl)) (fun _ h9 => h9) rfl dX5_undo_1 ?_
  refine lv_aload_n hx hb dX5_undo_4 rfl (lv_at hl 0 rfl) ?_
  refine va_get (D := D) (ci := 5) (v := .ref (ad 1)) (C := RX5) (T := TX5) (N := 6) hx hb hts inX5 hown hK hP 0 rfl rfl 0 (by decide) (hts (.fieldLink RX5 10 "ShiftMaps" "now" "LShiftMaps$State;") (List.mem_of_getElem? (i := 2) rfl)) (fun _ h9 => h9) rfl dX5_undo_5 ?_
  refine bdv hr (fun r_1 e_2 hr => ?_)
  refine nmv hr (fun V_3 e_4 hr => ?_)
  refine nmv hr (fun V_5 e_6 hr => ?_)
  refine rwV_i (W1 := (hiW Y ad r_1.2.1) ++ (stW Y (ad 1) (ad 2) (ad 3) (ad 4) (ad 5) (ad 6) (ad 7) r_1.2.2)) (W' := (carW Y ad V_5)) (As := [.ref (ad 1)]) (rest := []) ⟨hx, hb, hml, hown, hts⟩ (k_X1_takeLatestInto l D Y ad (ad 1) (ad 2) (ad 3) (ad 4) (ad 5) (ad 6) (ad 7) (v5_history V) (v5_now V) r_1 e_2) (cwV 1 hts gX5_undo_X1_takeLatestInto rfl rfl rfl (by decide +kernel) ⟨Nat.le_of_ble_eq_true rfl, Nat.le_of_ble_eq_true rfl⟩) hP hK hN hZ hD hS [22, 23, 24, 25, 26, 27, 28, 29, 30, 31, 32, 33, 34, 35, 36, 37, 38, 39, 40, 41, 42, 43, 44, 45, 46, 47, 48, 49, 50, 51, 1, 2, 3, 4, 5, 6, 7] rfl (by decide) [.inl 0, .inr 30, .inr 31, .inr 32, .inr 33, .inr 34, .inr 35, .inr 36, .inl 8, .inl 9, .inl 10, .inl 11, .inl 12, .inl 13, .inl 14, .inl 15, .inl 16, .inl 17, .inl 18, .inl 19, .inl 20, .inl 21, .inr 0, .inr 1, .inr 2, .inr 3, .inr 4, .inr 5, .inr 6, .inr 7, .inr 8, .inr 9, .inr 10, .inr 11, .inr 12, .inr 13, .inr 14, .inr 15, .inr 16, .inr 17, .inr 18, .inr 19, .inr 20, .inr 21, .inr 22, .inr 23, .inr 24, .inr 25, .inr 26, .inr 27, .inr 28, .inr 29, .inl 52, .inl 53, .inl 54] (jk_ok _ _ (by decide)) (by rw [e_6, e_4]; rfl) rfl 22 1 rfl rfl rfl hl.1 rfl (Nat.le_of_ble_eq_true rfl) dX5_undo_8 ⟨Nat.le_refl 0, Nat.le_refl 0⟩ (fun H locs hP hD hS => ?_)
  refine lv_if_eq (tgt := 24) hx hb dX5_undo_11 (by decide) (fun c_7 => ?_) (fun c_7 => ?_)
  · have hr := hr.trans (if_pos c_7)
    refine lv_bipush (v := (-5 : Int32)) hx hb dX5_undo_24 (by decide) ?_
    have hr := Option.some.inj hr
    subst hr
    exact W.iret hx hb hrt (fun t ht hW => ⟨⟨_, (), rfl, rfl, by show va_P D vwCl _ t.heap; rw [ht]; exact hP⟩, hS.F ht⟩) hS.2.2 dX5_undo_26
  · have hr := hr.trans (if_neg c_7)
    refine lv_aload_n hx hb dX5_undo_14 rfl (lv_at hl 0 rfl) ?_
    refine va_get (D := D) (ci := 5) (v := .ref (ad 22)) (C := RX5) (T := TX5) (N := 6) hx hb hts inX5 hown hK hP 0 rfl rfl 3 (by decide) (hts (.fieldLink RX5 25 "ShiftMaps" "history" "LShiftMaps$History;") (List.mem_of_getElem? (i := 1) rfl)) (fun _ h9 => h9) rfl dX5_undo_15 ?_
    refine nmv hr (fun r_8 e_9 hr => ?_)
    refine roV_i (As := []) (rest := []) ⟨hx, hb, hml, hown, hts⟩ (k_X1_size l D Y ad (v5_history V_5) r_8 e_9) (cwV 0 hts gX5_undo_X1_size rfl rfl rfl (by decide +kernel) ⟨Nat.le_of_ble_eq_true rfl, Nat.le_of_ble_eq_true rfl⟩) (hP.sub (ws' := (hiW Y ad (v5_history V_5))) [22, 23, 24, 25, 26, 27, 28, 29, 30, 31, 32, 33, 34, 35, 36, 37, 38, 39, 40, 41, 42, 43, 44, 45, 46, 47, 48, 49, 50, 51] rfl) hK hN (hZ.at hS).F 0 1 rfl rfl rfl hl.1 rfl (Nat.le_of_ble_eq_true rfl) dX5_undo_18 ⟨Nat.le_refl 0, Nat.le_refl 0⟩ ?_
    refine lv_goto (tgt := 26) hx hb dX5_undo_21 (by decide) ?_
    have hr := Option.some.inj hr
    subst hr
    exact W.iret hx hb hrt (fun t ht hW => ⟨⟨_, (), rfl, rfl, by show va_P D vwCl _ t.heap; rw [ht]; exact hP⟩, hS.F ht⟩) hS.2.2 dX5_undo_26

set_option maxHeartbeats 4000000 in
set_option maxRecDepth 100000 in
theorem k_X5_wouldChoose (l : Launch) (D : va_G) (Y : Nat → ClassId) (ad : Nat → Nat) (V : CarV) (x1 : Int32) (x2 : Int32) (R : Int32 × CarV) (hr : some R = mf_X5_wouldChoose V x1 x2) : Met l yX5_wouldChoose wsX5_wouldChoose ({ frames := 5, cells := 0, slots := 0, locals := 113 } : Room) (va_Pc [.ref (ad 0), .int x1, .int x2] (PW D Y (carW Y ad V))) (va_Qi (S := Unit) (fun r _ => r = R.1) (fun _ t => va_P D vwCl (carW Y ad R.2) t.heap) (wA (carW Y ad V))) 0 0 (wA (carW Y ad V)) := by
  refine Met.ofW (cc := cX5_wouldChoose) (maxL := 3) (ret := (some .int)) (by decide) rfl ?_
  intro p e s m args below meth c s₁ B hml hv
  obtain ⟨rfl, hP, hK, hN, hZ, hD⟩ := hv
  have hx := B.exec
  have hb := B.bytes
  have hrt := B.returns
  have hts := atoms_spec (ws := wsX5_wouldChoose) B.pre
  have hown : s.vm.findClass RX5 = some m.cls := findClass_of_methodNamed B.named
  have hlocks := B.notSynchronized
  have inX4 : ∀ w ∈ u_ws RX4 TX4 11, w ∈ wsX5_wouldChoose := uin_at 148 rfl
  have inX5 : ∀ w ∈ u_ws RX5 TX5 6, w ∈ wsX5_wouldChoose := uin_at 142 rfl
  generalize hAe : wA (carW Y ad V) = A at hZ hD ⊢
  have hS : va_S A s.heap s.heap [] := va_S.rf
  have hl := lv_entry ([.ref (ad 0), .int x1, .int x2]) (n := 3) (Nat.le_of_ble_eq_true rfl)
  rw [lg_entry_eq]
  generalize (lg_sl ([.ref (ad 0), .int x1, .int x2]) ++ List.replicate (3 - (lg_sl ([.ref (ad 0), .int x1, .int x2])).length) Slot.unset).toArray = ls at hl ⊢
  have hl : lv_has ls 3 [(0, .ref (ad 0)), (1, .int x1), (2, .int x2)] := hl
  rw [mf_X5_wouldChoose] at hr
  suffices KK : ∀ (H : Heap) (locs : List Loc), va_P D vwCl (carW Y ad V) H → va_S A s.heap H locs → W p l e ({ frames := 5, cells := 0, slots := 0, locals := 113 } : Room) s m ([.ref (ad 0), .int x1, .int x2] : List Value).toArray below meth c H locs 0 0 (MQ below (va_Qi (S := Unit) (fun r _ => r = R.1) (fun _ t => va_P D vwCl (carW Y ad R.2) t.heap) A) ([.ref (ad 0), .int x1, .int x2] : List Value).toArray s 0 0 A) (F0 m 0 ls []) from KK _ _ hP hS
  intro H locs hP hS
  refine lv_iload_n hx hb dX5_wouldChoose_0 rfl (lv_at hl 1 rfl) ?_
  refine nmv hr (fun r_1 e_2 hr => ?_)
  refine roS_i (As := [.int x1]) (rest := []) ⟨hx, hb, hml, hown, hts⟩ (k_X5_isSpeed l D Y  x1 r_1 e_2) (va_cwS 1 hts gX5_wouldChoose_X5_isSpeed rfl rfl rfl (by decide +kernel) ⟨Nat.le_of_ble_eq_true rfl, Nat.le_of_ble_eq_true rfl⟩) (hP.sub (ws' := []) [] rfl) hK hN (hZ.at hS).F rfl hl.1 rfl (Nat.le_of_ble_eq_true rfl) dX5_wouldChoose_1 ⟨Nat.le_refl 0, Nat.le_refl 0⟩ ?_
  refine lv_if_eq (tgt := 14) hx hb dX5_wouldChoose_4 (by decide) (fun c_3 => ?_) (fun c_3 => ?_)
  · have hr := hr.trans (if_pos c_3)
    refine lv_bipush (v := (-2 : Int32)) hx hb dX5_wouldChoose_14 (by decide) ?_
    have hr := Option.some.inj hr
    subst hr
    exact W.iret hx hb hrt (fun t ht hW => ⟨⟨_, (), rfl, rfl, by show va_P D vwCl _ t.heap; rw [ht]; exact hP⟩, hS.F ht⟩) hS.2.2 dX5_wouldChoose_16
  · have hr := hr.trans (if_neg c_3)
    refine lv_iload_n hx hb dX5_wouldChoose_7 rfl (lv_at hl 2 rfl) ?_
    refine nmv hr (fun r_4 e_5 hr => ?_)
    refine roS_i (As := [.int x2]) (rest := []) ⟨hx, hb, hml, hown, hts⟩ (k_X5_isPedal l D Y  x2 r_4 e_5) (va_cwS 1 hts gX5_wouldChoose_X5_isPedal rfl rfl rfl (by decide +kernel) ⟨Nat.le_of_ble_eq_true rfl, Nat.le_of_ble_eq_true rfl⟩) (hP.sub (ws' := []) [] rfl) hK hN (hZ.at hS).F rfl hl.1 rfl (Nat.le_of_ble_eq_true rfl) dX5_wouldChoose_8 ⟨Nat.le_refl 0, Nat.le_refl 0⟩ ?_
    refine lv_if_ne (tgt := 17) hx hb dX5_wouldChoose_11 (by decide) (fun c_6 => ?_) (fun c_6 => ?_)
    · have hr := hr.trans (if_neg c_6)
      refine lv_aload_n hx hb dX5_wouldChoose_17 rfl (lv_at hl 0 rfl) ?_
      refine va_get (D := D) (ci := 5) (v := .ref (ad 15)) (C := RX5) (T := TX5) (N := 6) hx hb hts inX5 hown hK hP 0 rfl rfl 2 (by decide) (hts (.fieldLink RX5 19 "ShiftMaps" "forecast" "LShiftMaps$State;") (List.mem_of_getElem? (i := 1) rfl)) (fun _ h9 => h9) rfl dX5_wouldChoose_18 ?_
      refine lv_aload_n hx hb dX5_wouldChoose_21 rfl (lv_at hl 0 rfl) ?_
      refine va_get (D := D) (ci := 5) (v := .ref (ad 1)) (C := RX5) (T := TX5) (N := 6) hx hb hts inX5 hown hK hP 0 rfl rfl 0 (by decide) (hts (.fieldLink RX5 10 "ShiftMaps" "now" "LShiftMaps$State;") (List.mem_of_getElem? (i := 2) rfl)) (fun _ h9 => h9) rfl dX5_wouldChoose_22 ?_
      refine bdv hr (fun r_7 e_8 hr => ?_)
      refine nmv hr (fun V_9 e_10 hr => ?_)
      refine rwV_v (W1 := (stW Y (ad 15) (ad 16) (ad 17) (ad 18) (ad 19) (ad 20) (ad 21) r_7) ++ (stW Y (ad 1) (ad 2) (ad 3) (ad 4) (ad 5) (ad 6) (ad 7) (v5_now V))) (W' := (carW Y ad V_9)) (As := [.ref (ad 1)]) (rest := []) ⟨hx, hb, hml, hown, hts⟩ (k_X4_copyFrom l D Y (ad 15) (ad 16) (ad 17) (ad 18) (ad 19) (ad 20) (ad 21) (ad 1) (ad 2) (ad 3) (ad 4) (ad 5) (ad 6) (ad 7) (v5_forecast V) (v5_now V) r_7 e_8) (cwV 1 hts gX5_wouldChoose_X4_copyFrom rfl rfl rfl (by decide +kernel) ⟨Nat.le_of_ble_eq_true rfl, Nat.le_of_ble_eq_true rfl⟩) hP hK hN hZ hD hS [15, 16, 17, 18, 19, 20, 21, 1, 2, 3, 4, 5, 6, 7] rfl (by decide) [.inl 0, .inr 7, .inr 8, .inr 9, .inr 10, .inr 11, .inr 12, .inr 13, .inl 8, .inl 9, .inl 10, .inl 11, .inl 12, .inl 13, .inl 14, .inr 0, .inr 1, .inr 2, .inr 3, .inr 4, .inr 5, .inr 6, .inl 22, .inl 23, .inl 24, .inl 25, .inl 26, .inl 27, .inl 28, .inl 29, .inl 30, .inl 31, .inl 32, .inl 33, .inl 34, .inl 35, .inl 36, .inl 37, .inl 38, .inl 39, .inl 40, .inl 41, .inl 42, .inl 43, .inl 44, .inl 45, .inl 46, .inl 47, .inl 48, .inl 49, .inl 50, .inl 51, .inl 52, .inl 53, .inl 54] (jk_ok _ _ (by decide)) (by rw [e_10]; rfl) rfl 15 4 rfl rfl rfl hl.1 rfl (Nat.le_of_ble_eq_true rfl) dX5_wouldChoose_25 ⟨Nat.le_refl 0, Nat.le_refl 0⟩ (fun H locs hP hD hS => ?_)
      refine lv_aload_n hx hb dX5_wouldChoose_28 rfl (lv_at hl 0 rfl) ?_
      refine va_get (D := D) (ci := 5) (v := .ref (ad 15)) (C := RX5) (T := TX5) (N := 6) hx hb hts inX5 hown hK hP 0 rfl rfl 2 (by decide) (hts (.fieldLink RX5 19 "ShiftMaps" "forecast" "LShiftMaps$State;") (List.mem_of_getElem? (i := 1) rfl)) (fun _ h9 => h9) rfl dX5_wouldChoose_29 ?_
      refine lv_iload_n hx hb dX5_wouldChoose_32 rfl (lv_at hl 1 rfl) ?_
      refine bdv hr (fun r_11 e_12 hr => ?_)
      refine roS_f (As := [.int x1]) (rest := [.ref (ad 15)]) ⟨hx, hb, hml, hown, hts⟩ (k_X5_floatOf l D Y  x1 r_11 e_12) (va_cwS 1 hts gX5_wouldChoose_X5_floatOf rfl rfl rfl (by decide +kernel) ⟨Nat.le_of_ble_eq_true rfl, Nat.le_of_ble_eq_true rfl⟩) (hP.sub (ws' := []) [] rfl) hK hN (hZ.at hS).F rfl hl.1 rfl (Nat.le_of_ble_eq_true rfl) dX5_wouldChoose_33 ⟨Nat.le_refl 0, Nat.le_refl 0⟩ ?_
      refine lv_iload_n hx hb dX5_wouldChoose_36 rfl (lv_at hl 2 rfl) ?_
      refine bdv hr (fun r_13 e_14 hr => ?_)
      refine roS_f (As := [.int x2]) (rest := [.float r_11, .ref (ad 15)]) ⟨hx, hb, hml, hown, hts⟩ (k_X5_floatOf l D Y  x2 r_13 e_14) (va_cwS 1 hts gX5_wouldChoose_X5_floatOf rfl rfl rfl (by decide +kernel) ⟨Nat.le_of_ble_eq_true rfl, Nat.le_of_ble_eq_true rfl⟩) (hP.sub (ws' := []) [] rfl) hK hN (hZ.at hS).F rfl hl.1 rfl (Nat.le_of_ble_eq_true rfl) dX5_wouldChoose_37 ⟨Nat.le_refl 0, Nat.le_refl 0⟩ ?_
      refine bdv hr (fun r_15 e_16 hr => ?_)
      refine nmv hr (fun V_17 e_18 hr => ?_)
      refine rwV_i (W1 := (stW Y (ad 15) (ad 16) (ad 17) (ad 18) (ad 19) (ad 20) (ad 21) r_15.2)) (W' := (carW Y ad V_17)) (As := [.float r_11, .float r_13]) (rest := []) ⟨hx, hb, hml, hown, hts⟩ (k_X4_passTick l D Y (ad 15) (ad 16) (ad 17) (ad 18) (ad 19) (ad 20) (ad 21) (v5_forecast V_9) r_11 r_13 r_15 e_16) (cwV 2 hts gX5_wouldChoose_X4_passTick rfl rfl rfl (by decide +kernel) ⟨Nat.le_of_ble_eq_true rfl, Nat.le_of_ble_eq_true rfl⟩) hP hK hN hZ hD hS [15, 16, 17, 18, 19, 20, 21] rfl (by decide) [.inl 0, .inl 1, .inl 2, .inl 3, .inl 4, .inl 5, .inl 6, .inl 7, .inl 8, .inl 9, .inl 10, .inl 11, .inl 12, .inl 13, .inl 14, .inr 0, .inr 1, .inr 2, .inr 3, .inr 4, .inr 5, .inr 6, .inl 22, .inl 23, .inl 24, .inl 25, .inl 26, .inl 27, .inl 28, .inl 29, .inl 30, .inl 31, .inl 32, .inl 33, .inl 34, .inl 35, .inl 36, .inl 37, .inl 38, .inl 39, .inl 40, .inl 41, .inl 42, .inl 43, .inl 44, .inl 45, .inl 46, .inl 47, .inl 48, .inl 49, .inl 50, .inl 51, .inl 52, .inl 53, .inl 54] (jk_ok _ _ (by decide)) (by rw [e_18]; rfl) rfl 15 4 rfl rfl rfl hl.1 rfl (Nat.le_of_ble_eq_true rfl) dX5_wouldChoose_40 ⟨Nat.le_refl 0, Nat.le_refl 0⟩ (fun H locs hP hD hS => ?_)
      refine lv_if_eq (tgt := 56) hx hb dX5_wouldChoose_43 (by decide) (fun c_19 => ?_) (fun c_19 => ?_)
      · have hr := hr.trans (if_pos c_19)
        refine lv_bipush (v := (-5 : Int32)) hx hb dX5_wouldChoose_56 (by decide) ?_
        have hr := Option.some.inj hr
        subst hr
        exact W.iret hx hb hrt (fun t ht hW => ⟨⟨_, (), rfl, rfl, by show va_P D vwCl _ t.heap; rw [ht]; exact hP⟩, hS.F ht⟩) hS.2.2 dX5_wouldChoose_58
      · have hr := hr.trans (if_neg c_19)
        refine lv_aload_n hx hb dX5_wouldChoose_46 rfl (lv_at hl 0 rfl) ?_
        refine va_get (D := D) (ci := 5) (v := .ref (ad 15)) (C := RX5) (T := TX5) (N := 6) hx hb hts inX5 hown hK hP 0 rfl rfl 2 (by decide) (hts (.fieldLink RX5 19 "ShiftMaps" "forecast" "LShiftMaps$State;") (List.mem_of_getElem? (i := 1) rfl)) (fun _ h9 => h9) rfl dX5_wouldChoose_47 ?_
        refine va_getN (D := D) (ci := 4) (v := .int (v4_target (v5_forecast V_17))) (C := RX4) (T := TX4) (N := 11) hx hb hts inX4 hown hK hP 15 rfl rfl 5 (by decide) (va_Nw.use rfl (NZ.n149 hN)) (fun _ h9 => h9) rfl dX5_wouldChoose_50 ?_
        refine lv_goto (tgt := 58) hx hb dX5_wouldChoose_53 (by decide) ?_
        have hr := Option.some.inj hr
        subst hr
        exact W.iret hx hb hrt (fun t ht hW => ⟨⟨_, (), rfl, rfl, by show va_P D vwCl _ t.heap; rw [ht]; exact hP⟩, hS.F ht⟩) hS.2.2 dX5_wouldChoose_58
    · have hr := hr.trans (if_pos c_6)
      refine lv_bipush (v := (-2 : Int32)) hx hb dX5_wouldChoose_14 (by decide) ?_
      have hr := Option.some.inj hr
      subst hr
      exact W.iret hx hb hrt (fun t ht hW => ⟨⟨_, (), rfl, rfl, by show va_P D vwCl _ t.heap; rw [ht]; exact hP⟩, hS.F ht⟩) hS.2.2 dX5_wouldChoose_16

set_option maxHeartbeats 4000000 in
set_option maxRecDepth 100000 in
theorem k_X5_settles (l : Launch) (D : va_G) (Y : Nat → ClassId) (ad : Nat → Nat) (V : CarV) (x1 : Int32) (x2 : Int32) (R : Int32 × CarV) (hr : some R = mf_X5_settles V x1 x2) : Met l yX5_settles wsX5_settles ({ frames := 5, cells := 0, slots := 0, locals := 113 } : Room) (va_Pc [.ref (ad 0), .int x1, .int x2] (PW D Y (carW Y ad V))) (va_Qi (S := Unit) (fun r _ => r = R.1) (fun _ t => va_P D vwCl (carW Y ad R.2) t.heap) (wA (carW Y ad V))) 0 0 (wA (carW Y ad V)) := by
  refine Met.ofW (cc := cX5_settles) (maxL := 7) (ret := (some .int)) (by decide) rfl ?_
  intro p e s m args below meth c s₁ B hml hv
  obtain ⟨rfl, hP, hK, hN, hZ, hD⟩ := hv
  have hx := B.exec
  have hb := B.bytes
  have hrt := B.returns
  have hts := atoms_spec (ws := wsX5_settles) B.pre
  have hown : s.vm.findClass RX5 = some m.cls := findClass_of_methodNamed B.named
  have hlocks := B.notSynchronized
  have inX5 : ∀ w ∈ u_ws RX5 TX5 6, w ∈ wsX5_settles := uin_at 142 rfl
  generalize hAe : wA (carW Y ad V) = A at hZ hD ⊢
  have hS : va_S A s.heap s.heap [] := va_S.rf
  have hl := lv_entry ([.ref (ad 0), .int x1, .int x2]) (n := 7) (Nat.le_of_ble_eq_true rfl)
  rw [lg_entry_eq]
  generalize (lg_sl ([.ref (ad 0), .int x1, .int x2]) ++ List.replicate (7 - (lg_sl ([.ref (ad 0), .int x1, .int x2])).length) Slot.unset).toArray = ls at hl ⊢
  have hl : lv_has ls 7 [(0, .ref (ad 0)), (1, .int x1), (2, .int x2)] := hl
  have B97 : ∀ (W0 : CarV) (z5 : Int32) (H : Heap) (locs : List Loc) (ls : Array Slot), some R = mf_X5_settles_B97 W0 z5 → va_P D vwCl (carW Y ad W0) H → va_D A (carW Y ad W0) → va_S A s.heap H locs → lv_has ls 7 [(5, .int z5)] → W p l e ({ frames := 5, cells := 0, slots := 0, locals := 113 } : Room) s m ([.ref (ad 0), .int x1, .int x2] : List Value).toArray below meth c H locs 0 0 (MQ below (va_Qi (S := Unit) (fun r _ => r = R.1) (fun _ t => va_P D vwCl (carW Y ad R.2) t.heap) A) ([.ref (ad 0), .int x1, .int x2] : List Value).toArray s 0 0 A) (F0 m 97 ls []) := by
    intro W0 z5 H locs ls hr hP hD hS hl
    rw [mf_X5_settles_B97] at hr
    refine lv_iload hx hb dX5_settles_97 (lv_at hl 0 rfl) ?_
    refine lv_sipush (v := (200 : Int32)) hx hb dX5_settles_99 (by decide) ?_
    refine lv_icmp_le (tgt := 110) hx hb dX5_settles_102 (by decide) (fun c_16 => ?_) (fun c_16 => ?_)
    · have hr := hr.trans (if_pos c_16)
      refine lv_iload hx hb dX5_settles_110 (lv_at hl 0 rfl) ?_
      have hr := Option.some.inj hr
      subst hr
      exact W.iret hx hb hrt (fun t ht hW => ⟨⟨_, (), rfl, rfl, by show va_P D vwCl _ t.heap; rw [ht]; exact hP⟩, hS.F ht⟩) hS.2.2 dX5_settles_112
    · have hr := hr.trans (if_neg c_16)
      refine lv_bipush (v := (-5 : Int32)) hx hb dX5_settles_105 (by decide) ?_
      refine lv_goto (tgt := 112) hx hb dX5_settles_107 (by decide) ?_
      have hr := Option.some.inj hr
      subst hr
      exact W.iret hx hb hrt (fun t ht hW => ⟨⟨_, (), rfl, rfl, by show va_P D vwCl _ t.heap; rw [ht]; exact hP⟩, hS.F ht⟩) hS.2.2 dX5_settles_112
  have B91 : ∀ (rc : CarV → UInt32 → UInt32 → Int32 → Int32 → Option (Int32 × CarV)) (hrc : ∀ (W0 : CarV) (z3 : UInt32) (z4 : UInt32) (z5 : Int32) (z6 : Int32) (H : Heap) (locs : List Loc) (ls : Array Slot), some R = rc W0 z3 z4 z5 z6 → va_P D vwCl (carW Y ad W0) H → va_D A (carW Y ad W0) → va_S A s.heap H locs → lv_has ls 7 [(0, .ref (ad 0)), (3, .float z3), (4, .float z4), (5, .int z5), (6, .int z6)] → W p l e ({ frames := 5, cells := 0, slots := 0, locals := 113 } : Room) s m ([.ref (ad 0), .int x1, .int x2] : List Value).toArray below meth c H locs 0 0 (MQ below (va_Qi (S := Unit) (fun r _ => r = R.1) (fun _ t => va_P D vwCl (carW Y ad R.2) t.heap) A) ([.ref (ad 0), .int x1, .int x2] : List Value).toArray s 0 0 A) (F0 m 45 ls [])), ∀ (W0 : CarV) (z3 : UInt32) (z4 : UInt32) (z5 : Int32) (z6 : Int32) (H : Heap) (locs : List Loc) (ls : Array Slot), some R = mf_X5_settles_B91 rc W0 z3 z4 z5 z6 → va_P D vwCl (carW Y ad W0) H → va_D A (carW Y ad W0) → va_S A s.heap H locs → lv_has ls 7 [(0, .ref (ad 0)), (3, .float z3), (4, .float z4), (5, .int z5), (6, .int z6)] → W p l e ({ frames := 5, cells := 0, slots := 0, locals := 113 } : Room) s m ([.ref (ad 0), .int x1, .int x2] : List Value).toArray below meth c H locs 0 0 (MQ below (va_Qi (S := Unit) (fun r _ => r = R.1) (fun _ t => va_P D vwCl (carW Y ad R.2) t.heap) A) ([.ref (ad 0), .int x1, .int x2] : List Value).toArray s 0 0 A) (F0 m 91 ls []) := by
    intro rc hrc W0 z3 z4 z5 z6 H locs ls hr hP hD hS hl
    rw [mf_X5_settles_B91] at hr
    refine lv_iinc (v := (z6 + (1 : Int32))) (lv' := [(6, .int (z6 + (1 : Int32))), (0, .ref (ad 0)), (3, .float z3), (4, .float z4), (5, .int z5)]) hx hb dX5_settles_91 hl (k := 4) rfl rfl (by decide) rfl (fun ls hl => ?_)
    refine lv_goto (tgt := 45) hx hb dX5_settles_94 (by decide) ?_
    exact hrc W0 z3 z4 z5 (z6 + (1 : Int32)) _ _ _ hr hP hD hS (lv_sub hl [1, 2, 3, 4, 0] rfl)
  have B45 : ∀ (fu : Nat), ∀ (W0 : CarV) (z3 : UInt32) (z4 : UInt32) (z5 : Int32) (z6 : Int32) (H : Heap) (locs : List Loc) (ls : Array Slot), some R = mf_X5_settles_B45 fu W0 z3 z4 z5 z6 → va_P D vwCl (carW Y ad W0) H → va_D A (carW Y ad W0) → va_S A s.heap H locs → lv_has ls 7 [(0, .ref (ad 0)), (3, .float z3), (4, .float z4), (5, .int z5), (6, .int z6)] → W p l e ({ frames := 5, cells := 0, slots := 0, locals := 113 } : Room) s m ([.ref (ad 0), .int x1, .int x2] : List Value).toArray below meth c H locs 0 0 (MQ below (va_Qi (S := Unit) (fun r _ => r = R.1) (fun _ t => va_P D vwCl (carW Y ad R.2) t.heap) A) ([.ref (ad 0), .int x1, .int x2] : List Value).toArray s 0 0 A) (F0 m 45 ls []) := by
    intro fu
    induction fu with
    | zero =>
      intro W0 z3 z4 z5 z6 H locs ls hr hP hD hS hl
      rw [mf_X5_settles_B45] at hr
      cases hr
    | succ fu ih =>
      intro W0 z3 z4 z5 z6 H locs ls hr hP hD hS hl
      rw [mf_X5_settles_B45] at hr
      refine lv_iload hx hb dX5_settles_45 (lv_at hl 4 rfl) ?_
      refine lv_sipush (v := (300 : Int32)) hx hb dX5_settles_47 (by decide) ?_
      refine lv_icmp_gt (tgt := 97) hx hb dX5_settles_50 (by decide) (fun c_15 => ?_) (fun c_15 => ?_)
      · have hr := hr.trans (if_pos c_15)
        exact B97 W0 z5 _ _ _ hr hP hD hS (lv_sub hl [3] rfl)
      · have hr := hr.trans (if_neg c_15)
        refine lv_iload hx hb dX5_settles_53 (lv_at hl 4 rfl) ?_
        refine lv_iload hx hb dX5_settles_55 (lv_at hl 3 rfl) ?_
        refine lv_bipush (v := (100 : Int32)) hx hb dX5_settles_57 (by decide) ?_
        refine lv_iadd hx hb dX5_settles_59 ?_
        refine lv_icmp_gt (tgt := 97) hx hb dX5_settles_60 (by decide) (fun c_17 => ?_) (fun c_17 => ?_)
        · have hr := hr.trans (if_pos c_17)
          exact B97 W0 z5 _ _ _ hr hP hD hS (lv_sub hl [3] rfl)
        · have hr := hr.trans (if_neg c_17)
          refine lv_iload hx hb dX5_settles_63 (lv_at hl 3 rfl) ?_
          refine lv_sipush (v := (200 : Int32)) hx hb dX5_settles_65 (by decide) ?_
          refine lv_icmp_le (tgt := 74) hx hb dX5_settles_68 (by decide) (fun c_18 => ?_) (fun c_18 => ?_)
          · have hr := hr.trans (if_pos c_18)
            refine lv_aload_n hx hb dX5_settles_74 rfl (lv_at hl 0 rfl) ?_
            refine va_get (D := D) (ci := 5) (v := .ref (ad 15)) (C := RX5) (T := TX5) (N := 6) hx hb hts inX5 hown hK hP 0 rfl rfl 2 (by decide) (hts (.fieldLink RX5 19 "ShiftMaps" "forecast" "LShiftMaps$State;") (List.mem_of_getElem? (i := 1) rfl)) (fun _ h9 => h9) rfl dX5_settles_75 ?_
            refine lv_fload_n hx hb dX5_settles_78 rfl (lv_at hl 1 rfl) ?_
            refine lv_fload hx hb dX5_settles_79 (lv_at hl 2 rfl) ?_
            refine bdv hr (fun r_19 e_20 hr => ?_)
            refine nmv hr (fun V_21 e_22 hr => ?_)
            refine rwV_i (W1 := (stW Y (ad 15) (ad 16) (ad 17) (ad 18) (ad 19) (ad 20) (ad 21) r_19.2)) (W' := (carW Y ad V_21)) (As := [.float z3, .float z4]) (rest := []) ⟨hx, hb, hml, hown, hts⟩ (k_X4_passTick l D Y (ad 15) (ad 16) (ad 17) (ad 18) (ad 19) (ad 20) (ad 21) (v5_forecast W0) z3 z4 r_19 e_20) (cwV 2 hts gX5_settles_X4_passTick rfl rfl rfl (by decide +kernel) ⟨Nat.le_of_ble_eq_true rfl, Nat.le_of_ble_eq_true rfl⟩) hP hK hN hZ hD hS [15, 16, 17, 18, 19, 20, 21] rfl (by decide) [.inl 0, .inl 1, .inl 2, .inl 3, .inl 4, .inl 5, .inl 6, .inl 7, .inl 8, .inl 9, .inl 10, .inl 11, .inl 12, .inl 13, .inl 14, .inr 0, .inr 1, .inr 2, .inr 3, .inr 4, .inr 5, .inr 6, .inl 22, .inl 23, .inl 24, .inl 25, .inl 26, .inl 27, .inl 28, .inl 29, .inl 30, .inl 31, .inl 32, .inl 33, .inl 34, .inl 35, .inl 36, .inl 37, .inl 38, .inl 39, .inl 40, .inl 41, .inl 42, .inl 43, .inl 44, .inl 45, .inl 46, .inl 47, .inl 48, .inl 49, .inl 50, .inl 51, .inl 52, .inl 53, .inl 54] (jk_ok _ _ (by decide)) (by rw [e_22]; rfl) rfl 15 4 rfl rfl rfl hl.1 rfl (Nat.le_of_ble_eq_true rfl) dX5_settles_81 ⟨Nat.le_refl 0, Nat.le_refl 0⟩ (fun H locs hP hD hS => ?_)
            refine lv_if_eq (tgt := 91) hx hb dX5_settles_84 (by decide) (fun c_23 => ?_) (fun c_23 => ?_)
            · have hr := hr.trans (if_pos c_23)
              exact B91 _ ih V_21 z3 z4 z5 z6 _ _ _ hr hP hD hS (lv_sub hl [0, 1, 2, 3, 4] rfl)
            · have hr := hr.trans (if_neg c_23)
              refine lv_iload hx hb dX5_settles_87 (lv_at hl 4 rfl) ?_
              refine lv_istore (lv' := [(5, .int z6), (0, .ref (ad 0)), (3, .float z3), (4, .float z4), (6, .int z6)]) hx hb dX5_settles_89 hl (by decide) rfl (fun ls hl => ?_)
              exact B91 _ ih V_21 z3 z4 z6 z6 _ _ _ hr hP hD hS (lv_sub hl [1, 2, 3, 0, 4] rfl)
          · have hr := hr.trans (if_neg c_18)
            refine lv_goto (tgt := 97) hx hb dX5_settles_71 (by decide) ?_
            exact B97 W0 z5 _ _ _ hr hP hD hS (lv_sub hl [3] rfl)
  rw [mf_X5_settles] at hr
  suffices KK : ∀ (H : Heap) (locs : List Loc), va_P D vwCl (carW Y ad V) H → va_S A s.heap H locs → W p l e ({ frames := 5, cells := 0, slots := 0, locals := 113 } : Room) s m ([.ref (ad 0), .int x1, .int x2] : List Value).toArray below meth c H locs 0 0 (MQ below (va_Qi (S := Unit) (fun r _ => r = R.1) (fun _ t => va_P D vwCl (carW Y ad R.2) t.heap) A) ([.ref (ad 0), .int x1, .int x2] : List Value).toArray s 0 0 A) (F0 m 0 ls []) from KK _ _ hP hS
  intro H locs hP hS
  refine lv_iload_n hx hb dX5_settles_0 rfl (lv_at hl 1 rfl) ?_
  refine nmv hr (fun r_1 e_2 hr => ?_)
  refine roS_i (As := [.int x1]) (rest := []) ⟨hx, hb, hml, hown, hts⟩ (k_X5_isSpeed l D Y  x1 r_1 e_2) (va_cwS 1 hts gX5_settles_X5_isSpeed rfl rfl rfl (by decide +kernel) ⟨Nat.le_of_ble_eq_true rfl, Nat.le_of_ble_eq_true rfl⟩) (hP.sub (ws' := []) [] rfl) hK hN (hZ.at hS).F rfl hl.1 rfl (Nat.le_of_ble_eq_true rfl) dX5_settles_1 ⟨Nat.le_refl 0, Nat.le_refl 0⟩ ?_
  refine lv_if_eq (tgt := 14) hx hb dX5_settles_4 (by decide) (fun c_3 => ?_) (fun c_3 => ?_)
  · have hr := hr.trans (if_pos c_3)
    refine lv_bipush (v := (-2 : Int32)) hx hb dX5_settles_14 (by decide) ?_
    have hr := Option.some.inj hr
    subst hr
    exact W.iret hx hb hrt (fun t ht hW => ⟨⟨_, (), rfl, rfl, by show va_P D vwCl _ t.heap; rw [ht]; exact hP⟩, hS.F ht⟩) hS.2.2 dX5_settles_16
  · have hr := hr.trans (if_neg c_3)
    refine lv_iload_n hx hb dX5_settles_7 rfl (lv_at hl 2 rfl) ?_
    refine nmv hr (fun r_4 e_5 hr => ?_)
    refine roS_i (As := [.int x2]) (rest := []) ⟨hx, hb, hml, hown, hts⟩ (k_X5_isPedal l D Y  x2 r_4 e_5) (va_cwS 1 hts gX5_settles_X5_isPedal rfl rfl rfl (by decide +kernel) ⟨Nat.le_of_ble_eq_true rfl, Nat.le_of_ble_eq_true rfl⟩) (hP.sub (ws' := []) [] rfl) hK hN (hZ.at hS).F rfl hl.1 rfl (Nat.le_of_ble_eq_true rfl) dX5_settles_8 ⟨Nat.le_refl 0, Nat.le_refl 0⟩ ?_
    refine lv_if_ne (tgt := 17) hx hb dX5_settles_11 (by decide) (fun c_6 => ?_) (fun c_6 => ?_)
    · have hr := hr.trans (if_neg c_6)
      refine lv_aload_n hx hb dX5_settles_17 rfl (lv_at hl 0 rfl) ?_
      refine va_get (D := D) (ci := 5) (v := .ref (ad 15)) (C := RX5) (T := TX5) (N := 6) hx hb hts inX5 hown hK hP 0 rfl rfl 2 (by decide) (hts (.fieldLink RX5 19 "ShiftMaps" "forecast" "LShiftMaps$State;") (List.mem_of_getElem? (i := 1) rfl)) (fun _ h9 => h9) rfl dX5_settles_18 ?_
      refine lv_aload_n hx hb dX5_settles_21 rfl (lv_at hl 0 rfl) ?_
      refine va_get (D := D) (ci := 5) (v := .ref (ad 1)) (C := RX5) (T := TX5) (N := 6) hx hb hts inX5 hown hK hP 0 rfl rfl 0 (by decide) (hts (.fieldLink RX5 10 "ShiftMaps" "now" "LShiftMaps$State;") (List.mem_of_getElem? (i := 2) rfl)) (fun _ h9 => h9) rfl dX5_settles_22 ?_
      refine bdv hr (fun r_7 e_8 hr => ?_)
      refine nmv hr (fun V_9 e_10 hr => ?_)
      refine rwV_v (W1 := (stW Y (ad 15) (ad 16) (ad 17) (ad 18) (ad 19) (ad 20) (ad 21) r_7) ++ (stW Y (ad 1) (ad 2) (ad 3) (ad 4) (ad 5) (ad 6) (ad 7) (v5_now V))) (W' := (carW Y ad V_9)) (As := [.ref (ad 1)]) (rest := []) ⟨hx, hb, hml, hown, hts⟩ (k_X4_copyFrom l D Y (ad 15) (ad 16) (ad 17) (ad 18) (ad 19) (ad 20) (ad 21) (ad 1) (ad 2) (ad 3) (ad 4) (ad 5) (ad 6) (ad 7) (v5_forecast V) (v5_now V) r_7 e_8) (cwV 1 hts gX5_settles_X4_copyFrom rfl rfl rfl (by decide +kernel) ⟨Nat.le_of_ble_eq_true rfl, Nat.le_of_ble_eq_true rfl⟩) hP hK hN hZ hD hS [15, 16, 17, 18, 19, 20, 21, 1, 2, 3, 4, 5, 6, 7] rfl (by decide) [.inl 0, .inr 7, .inr 8, .inr 9, .inr 10, .inr 11, .inr 12, .inr 13, .inl 8, .inl 9, .inl 10, .inl 11, .inl 12, .inl 13, .inl 14, .inr 0, .inr 1, .inr 2, .inr 3, .inr 4, .inr 5, .inr 6, .inl 22, .inl 23, .inl 24, .inl 25, .inl 26, .inl 27, .inl 28, .inl 29, .inl 30, .inl 31, .inl 32, .inl 33, .inl 34, .inl 35, .inl 36, .inl 37, .inl 38, .inl 39, .inl 40, .inl 41, .inl 42, .inl 43, .inl 44, .inl 45, .inl 46, .inl 47, .inl 48, .inl 49, .inl 50, .inl 51, .inl 52, .inl 53, .inl 54] (jk_ok _ _ (by decide)) (by rw [e_10]; rfl) rfl 15 4 rfl rfl rfl hl.1 rfl (Nat.le_of_ble_eq_true rfl) dX5_settles_25 ⟨Nat.le_refl 0, Nat.le_refl 0⟩ (fun H locs hP hD hS => ?_)
      refine lv_iload_n hx hb dX5_settles_28 rfl (lv_at hl 1 rfl) ?_
      refine bdv hr (fun r_11 e_12 hr => ?_)
      refine roS_f (As := [.int x1]) (rest := []) ⟨hx, hb, hml, hown, hts⟩ (k_X5_floatOf l D Y  x1 r_11 e_12) (va_cwS 1 hts gX5_settles_X5_floatOf rfl rfl rfl (by decide +kernel) ⟨Nat.le_of_ble_eq_true rfl, Nat.le_of_ble_eq_true rfl⟩) (hP.sub (ws' := []) [] rfl) hK hN (hZ.at hS).F rfl hl.1 rfl (Nat.le_of_ble_eq_true rfl) dX5_settles_29 ⟨Nat.le_refl 0, Nat.le_refl 0⟩ ?_
      refine lv_fstore_n (lv' := [(3, .float r_11), (0, .ref (ad 0)), (1, .int x1), (2, .int x2)]) hx hb dX5_settles_32 rfl hl (by decide) rfl (fun ls hl => ?_)
      refine lv_iload_n hx hb dX5_settles_33 rfl (lv_at hl 3 rfl) ?_
      refine bdv hr (fun r_13 e_14 hr => ?_)
      refine roS_f (As := [.int x2]) (rest := []) ⟨hx, hb, hml, hown, hts⟩ (k_X5_floatOf l D Y  x2 r_13 e_14) (va_cwS 1 hts gX5_settles_X5_floatOf rfl rfl rfl (by decide +kernel) ⟨Nat.le_of_ble_eq_true rfl, Nat.le_of_ble_eq_true rfl⟩) (hP.sub (ws' := []) [] rfl) hK hN (hZ.at hS).F rfl hl.1 rfl (Nat.le_of_ble_eq_true rfl) dX5_settles_34 ⟨Nat.le_refl 0, Nat.le_refl 0⟩ ?_
      refine lv_fstore (lv' := [(4, .float r_13), (3, .float r_11), (0, .ref (ad 0)), (1, .int x1), (2, .int x2)]) hx hb dX5_settles_37 hl (by decide) rfl (fun ls hl => ?_)
      refine lv_iconst (v := (0 : Int32)) hx hb dX5_settles_39 (by decide) ?_
      refine lv_istore (lv' := [(5, .int (0 : Int32)), (4, .float r_13), (3, .float r_11), (0, .ref (ad 0)), (1, .int x1), (2, .int x2)]) hx hb dX5_settles_40 hl (by decide) rfl (fun ls hl => ?_)
      refine lv_iconst (v := (1 : Int32)) hx hb dX5_settles_42 (by decide) ?_
      refine lv_istore (lv' := [(6, .int (1 : Int32)), (5, .int (0 : Int32)), (4, .float r_13), (3, .float r_11), (0, .ref (ad 0)), (1, .int x1), (2, .int x2)]) hx hb dX5_settles_43 hl (by decide) rfl (fun ls hl => ?_)
      exact B45 400 V_9 r_11 r_13 (0 : Int32) (1 : Int32) _ _ _ hr hP hD hS (lv_sub hl [4, 3, 2, 1, 0] rfl)
    · have hr := hr.trans (if_pos c_6)
      refine lv_bipush (v := (-2 : Int32)) hx hb dX5_settles_14 (by decide) ?_
      have hr := Option.some.inj hr
      subst hr
      exact W.iret hx hb hrt (fun t ht hW => ⟨⟨_, (), rfl, rfl, by show va_P D vwCl _ t.heap; rw [ht]; exact hP⟩, hS.F ht⟩) hS.2.2 dX5_settles_16
