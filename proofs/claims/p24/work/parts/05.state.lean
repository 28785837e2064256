set_option maxHeartbeats 4000000 in
set_option maxRecDepth 100000 in
theorem k_X4_setting (l : Launch) (D : va_G) (Y : Nat → ClassId) (a0 a1 a2 a3 a4 a5 a6 : Nat) (V : St) (x1 : Int32) (R : Int32) (hr : R = mf_X4_setting V x1) : Met l yX4_setting wsX4_setting ({ frames := 0, cells := 0, slots := 0, locals := 0 } : Room) (va_Pc [.ref a0, .int x1] (PR D Y (stW Y a0 a1 a2 a3 a4 a5 a6 V))) (vp_Si (fun x => x = R)) 0 0 (fun _ => False) := by
  refine Met.ofW (cc := cX4_setting) (maxL := 2) (ret := (some .int)) (by decide) rfl ?_
  intro p e s m args below meth c s₁ B hml hv
  obtain ⟨rfl, hP, hK, hN, hZ⟩ := hv
  have hx := B.exec
  have hb := B.bytes
  have hrt := B.returns
  have hts := atoms_spec (ws := wsX4_setting) B.pre
  have hown : s.vm.findClass RX4 = some m.cls := findClass_of_methodNamed B.named
  have hlocks := B.notSynchronized
  have inX4 : ∀ w ∈ u_ws RX4 TX4 11, w ∈ wsX4_setting := uin_at 2 rfl
  have hS : va_S (fun _ => False) s.heap s.heap [] := va_S.rf
  have hl := lv_entry ([.ref a0, .int x1]) (n := 2) (Nat.le_of_ble_eq_true rfl)
  rw [lg_entry_eq]
  generalize (lg_sl ([.ref a0, .int x1]) ++ List.replicate (2 - (lg_sl ([.ref a0, .int x1])).length) Slot.unset).toArray = ls at hl ⊢
  have hl : lv_has ls 2 [(0, .ref a0), (1, .int x1)] := hl
  rw [mf_X4_setting] at hr
  refine lv_iload_n hx hb dX4_setting_0 rfl (lv_at hl 1 rfl) ?_
  refine lv_if_lt (tgt := 22) hx hb dX4_setting_1 (by decide) (fun c_1 => ?_) (fun c_1 => ?_)
  · have hr := hr.trans (if_pos c_1)
    refine lv_iconst (v := (-1 : Int32)) hx hb dX4_setting_22 (by decide) ?_
    subst hr
    exact W.iret hx hb hrt (fun t ht hW => ⟨_, rfl, rfl, ht⟩) (fun q hq => absurd hq List.not_mem_nil) dX4_setting_23
  · have hr := hr.trans (if_neg c_1)
    refine lv_iload_n hx hb dX4_setting_4 rfl (lv_at hl 1 rfl) ?_
    refine lv_aload_n hx hb dX4_setting_5 rfl (lv_at hl 0 rfl) ?_
    refine va_get (D := D) (ci := 4) (v := .ref a6) (C := RX4) (T := TX4) (N := 11) hx hb hts inX4 hown hK hP 0 rfl rfl 3 (by decide) (hts (.fieldLink RX4 32 "ShiftMaps$State" "settings" "[I") (List.mem_of_getElem? (i := 1) rfl)) (fun _ h9 => h9) rfl dX4_setting_6 ?_
    refine va_alen (D := D) (v := (4 : Int32)) hx hb hK hP 6 2 rfl rfl rfl dX4_setting_9 ?_
    refine lv_icmp_ge (tgt := 22) hx hb dX4_setting_10 (by decide) (fun c_2 => ?_) (fun c_2 => ?_)
    · have hr := hr.trans (if_pos c_2)
      refine lv_iconst (v := (-1 : Int32)) hx hb dX4_setting_22 (by decide) ?_
      subst hr
      exact W.iret hx hb hrt (fun t ht hW => ⟨_, rfl, rfl, ht⟩) (fun q hq => absurd hq List.not_mem_nil) dX4_setting_23
    · have hr := hr.trans (if_neg c_2)
      refine lv_aload_n hx hb dX4_setting_13 rfl (lv_at hl 0 rfl) ?_
      refine va_get (D := D) (ci := 4) (v := .ref a6) (C := RX4) (T := TX4) (N := 11) hx hb hts inX4 hown hK hP 0 rfl rfl 3 (by decide) (hts (.fieldLink RX4 32 "ShiftMaps$State" "settings" "[I") (List.mem_of_getElem? (i := 1) rfl)) (fun _ h9 => h9) rfl dX4_setting_14 ?_
      refine lv_iload_n hx hb dX4_setting_17 rfl (lv_at hl 1 rfl) ?_
      refine va_iald (D := D) hx hb hK hP 6 2 rfl rfl (in_of (y := (4 : Int32)) rfl (by decide) c_1 c_2) dX4_setting_18 ?_
      refine lv_goto (tgt := 23) hx hb dX4_setting_19 (by decide) ?_
      subst hr
      exact W.iret hx hb hrt (fun t ht hW => ⟨_, rfl, rfl, ht⟩) (fun q hq => absurd hq List.not_mem_nil) dX4_setting_23

set_option maxHeartbeats 4000000 in
set_option maxRecDepth 100000 in
theorem k_X4_putSetting (l : Launch) (D : va_G) (Y : Nat → ClassId) (a0 a1 a2 a3 a4 a5 a6 : Nat) (V : St) (x1 : Int32) (x2 : Int32) (R : St) (hr : R = mf_X4_putSetting V x1 x2) : Met l yX4_putSetting wsX4_putSetting ({ frames := 0, cells := 0, slots := 0, locals := 0 } : Room) (va_Pc [.ref a0, .int x1, .int x2] (PW D Y (stW Y a0 a1 a2 a3 a4 a5 a6 V))) (va_Qv (S := Unit) (fun _ => True) (fun _ t => va_P D vwCl (stW Y a0 a1 a2 a3 a4 a5 a6 R) t.heap) (wA (stW Y a0 a1 a2 a3 a4 a5 a6 V))) 0 0 (wA (stW Y a0 a1 a2 a3 a4 a5 a6 V)) := by
  refine Met.ofW (cc := cX4_putSetting) (maxL := 3) (ret := none) (by decide) rfl ?_
  intro p e s m args below meth c s₁ B hml hv
  obtain ⟨rfl, hP, hK, hN, hZ, hD⟩ := hv
  have hx := B.exec
  have hb := B.bytes
  have hrt := B.returns
  have hts := atoms_spec (ws := wsX4_putSetting) B.pre
  have hown : s.vm.findClass RX4 = some m.cls := findClass_of_methodNamed B.named
  have hlocks := B.notSynchronized
  have inX4 : ∀ w ∈ u_ws RX4 TX4 11, w ∈ wsX4_putSetting := uin_at 2 rfl
  generalize hAe : wA (stW Y a0 a1 a2 a3 a4 a5 a6 V) = A at hZ hD ⊢
  have hS : va_S A s.heap s.heap [] := va_S.rf
  have hl := lv_entry ([.ref a0, .int x1, .int x2]) (n := 3) (Nat.le_of_ble_eq_true rfl)
  rw [lg_entry_eq]
  generalize (lg_sl ([.ref a0, .int x1, .int x2]) ++ List.replicate (3 - (lg_sl ([.ref a0, .int x1, .int x2])).length) Slot.unset).toArray = ls at hl ⊢
  have hl : lv_has ls 3 [(0, .ref a0), (1, .int x1), (2, .int x2)] := hl
  rw [mf_X4_putSetting] at hr
  suffices KK : ∀ (H : Heap) (locs : List Loc), va_P D vwCl (stW Y a0 a1 a2 a3 a4 a5 a6 V) H → va_S A s.heap H locs → W p l e ({ frames := 0, cells := 0, slots := 0, locals := 0 } : Room) s m ([.ref a0, .int x1, .int x2] : List Value).toArray below meth c H locs 0 0 (MQ below (va_Qv (S := Unit) (fun _ => True) (fun _ t => va_P D vwCl (stW Y a0 a1 a2 a3 a4 a5 a6 R) t.heap) A) ([.ref a0, .int x1, .int x2] : List Value).toArray s 0 0 A) (F0 m 0 ls []) from KK _ _ hP hS
  intro H locs hP hS
  refine lv_iload_n hx hb dX4_putSetting_0 rfl (lv_at hl 1 rfl) ?_
  refine lv_if_lt (tgt := 20) hx hb dX4_putSetting_1 (by decide) (fun c_1 => ?_) (fun c_1 => ?_)
  · have hr := hr.trans (if_pos c_1)
    subst hr
    exact W.vret hx hb hrt (fun t ht hW => ⟨⟨(), rfl, trivial, by show va_P D vwCl _ t.heap; rw [ht]; exact hP⟩, hS.F ht⟩) hS.2.2 dX4_putSetting_20
  · have hr := hr.trans (if_neg c_1)
    refine lv_iload_n hx hb dX4_putSetting_4 rfl (lv_at hl 1 rfl) ?_
    refine lv_aload_n hx hb dX4_putSetting_5 rfl (lv_at hl 0 rfl) ?_
    refine va_get (D := D) (ci := 4) (v := .ref a6) (C := RX4) (T := TX4) (N := 11) hx hb hts inX4 hown hK hP 0 rfl rfl 3 (by decide) (hts (.fieldLink RX4 32 "ShiftMaps$State" "settings" "[I") (List.mem_of_getElem? (i := 1) rfl)) (fun _ h9 => h9) rfl dX4_putSetting_6 ?_
    refine va_alen (D := D) (v := (4 : Int32)) hx hb hK hP 6 2 rfl rfl rfl dX4_putSetting_9 ?_
    refine lv_icmp_ge (tgt := 20) hx hb dX4_putSetting_10 (by decide) (fun c_2 => ?_) (fun c_2 => ?_)
    · have hr := hr.trans (if_pos c_2)
      subst hr
      exact W.vret hx hb hrt (fun t ht hW => ⟨⟨(), rfl, trivial, by show va_P D vwCl _ t.heap; rw [ht]; exact hP⟩, hS.F ht⟩) hS.2.2 dX4_putSetting_20
    · have hr := hr.trans (if_neg c_2)
      refine lv_aload_n hx hb dX4_putSetting_13 rfl (lv_at hl 0 rfl) ?_
      refine va_get (D := D) (ci := 4) (v := .ref a6) (C := RX4) (T := TX4) (N := 11) hx hb hts inX4 hown hK hP 0 rfl rfl 3 (by decide) (hts (.fieldLink RX4 32 "ShiftMaps$State" "settings" "[I") (List.mem_of_getElem? (i := 1) rfl)) (fun _ h9 => h9) rfl dX4_putSetting_14 ?_
      refine lv_iload_n hx hb dX4_putSetting_17 rfl (lv_at hl 1 rfl) ?_
      refine lv_iload_n hx hb dX4_putSetting_18 rfl (lv_at hl 2 rfl) ?_
      refine va_iast (D := D) hx hb hK hP hD hS 6 2 rfl rfl (in_of (y := (4 : Int32)) rfl (by decide) c_1 c_2) dX4_putSetting_19 (fun H locs hP hD hS => ?_)
      refine nmv hr (fun V_3 e_4 hr => ?_)
      have hP : va_P D vwCl (stW Y a0 a1 a2 a3 a4 a5 a6 V_3) H := by rw [e_4]; exact hP
      have hD : va_D A (stW Y a0 a1 a2 a3 a4 a5 a6 V_3) := va_D_adr hD rfl
      subst hr
      exact W.vret hx hb hrt (fun t ht hW => ⟨⟨(), rfl, trivial, by show va_P D vwCl _ t.heap; rw [ht]; exact hP⟩, hS.F ht⟩) hS.2.2 dX4_putSetting_20

set_option maxHeartbeats 4000000 in
set_option maxRecDepth 100000 in
theorem k_X4_allows (l : Launch) (D : va_G) (Y : Nat → ClassId) (a0 a1 a2 a3 a4 a5 a6 : Nat) (V : St) (x1 : Int32) (x2 : Int32) (R : Int32) (hr : R = mf_X4_allows V x1 x2) : Met l yX4_allows wsX4_allows ({ frames := 1, cells := 0, slots := 0, locals := 21 } : Room) (va_Pc [.ref a0, .int x1, .int x2] (PR D Y (stW Y a0 a1 a2 a3 a4 a5 a6 V))) (vp_Si (fun x => x = R)) 0 0 (fun _ => False) := by
  refine Met.ofW (cc := cX4_allows) (maxL := 3) (ret := (some .boolean)) (by decide) rfl ?_
  intro p e s m args below meth c s₁ B hml hv
  obtain ⟨rfl, hP, hK, hN, hZ⟩ := hv
  have hx := B.exec
  have hb := B.bytes
  have hrt := B.returns
  have hts := atoms_spec (ws := wsX4_allows) B.pre
  have hown : s.vm.findClass RX4 = some m.cls := findClass_of_methodNamed B.named
  have hlocks := B.notSynchronized
  have hS : va_S (fun _ => False) s.heap s.heap [] := va_S.rf
  have hl := lv_entry ([.ref a0, .int x1, .int x2]) (n := 3) (Nat.le_of_ble_eq_true rfl)
  rw [lg_entry_eq]
  generalize (lg_sl ([.ref a0, .int x1, .int x2]) ++ List.replicate (3 - (lg_sl ([.ref a0, .int x1, .int x2])).length) Slot.unset).toArray = ls at hl ⊢
  have hl : lv_has ls 3 [(0, .ref a0), (1, .int x1), (2, .int x2)] := hl
  rw [mf_X4_allows] at hr
  refine lv_iload_n hx hb dX4_allows_0 rfl (lv_at hl 1 rfl) ?_
  by_cases c_1 : x1 = (0 : Int32)
  · have hr := hr.trans (if_pos c_1)
    refine lv_lookup (off := 27) (tgt := 28) hx hb dX4_allows_1 (by decide) (by rw [c_1]; rfl) (by decide) ?_
    refine lv_iload_n hx hb dX4_allows_28 rfl (lv_at hl 2 rfl) ?_
    refine lv_iconst (v := (2 : Int32)) hx hb dX4_allows_29 (by decide) ?_
    refine lv_icmp_lt (tgt := 52) hx hb dX4_allows_30 (by decide) (fun c_2 => ?_) (fun c_2 => ?_)
    · have hr := hr.trans (if_pos c_2)
      refine lv_iconst (v := (0 : Int32)) hx hb dX4_allows_52 (by decide) ?_
      subst hr
      exact W.zret (ty := .boolean) hx hb hrt (by decide) (fun t ht hW => ⟨_, rfl, rfl, ht⟩) (fun q hq => absurd hq List.not_mem_nil) dX4_allows_53
    · have hr := hr.trans (if_neg c_2)
      refine lv_iload_n hx hb dX4_allows_33 rfl (lv_at hl 2 rfl) ?_
      refine lv_bipush (v := (20 : Int32)) hx hb dX4_allows_34 (by decide) ?_
      refine lv_icmp_gt (tgt := 52) hx hb dX4_allows_36 (by decide) (fun c_3 => ?_) (fun c_3 => ?_)
      · have hr := hr.trans (if_pos c_3)
        refine lv_iconst (v := (0 : Int32)) hx hb dX4_allows_52 (by decide) ?_
        subst hr
        exact W.zret (ty := .boolean) hx hb hrt (by decide) (fun t ht hW => ⟨_, rfl, rfl, ht⟩) (fun q hq => absurd hq List.not_mem_nil) dX4_allows_53
      · have hr := hr.trans (if_neg c_3)
        refine lv_iload_n hx hb dX4_allows_39 rfl (lv_at hl 2 rfl) ?_
        refine lv_aload_n hx hb dX4_allows_40 rfl (lv_at hl 0 rfl) ?_
        refine lv_iconst (v := (1 : Int32)) hx hb dX4_allows_41 (by decide) ?_
        refine nmv hr (fun r_4 e_5 hr => ?_)
        refine roV_i (As := [.int (1 : Int32)]) (rest := [.int x2]) ⟨hx, hb, hml, hown, hts⟩ (k_X4_setting l D Y a0 a1 a2 a3 a4 a5 a6 V (1 : Int32) r_4 e_5) (cwV 1 hts gX4_allows_X4_setting rfl rfl rfl (by decide +kernel) ⟨Nat.le_of_ble_eq_true rfl, Nat.le_of_ble_eq_true rfl⟩) hP hK hN hZ 0 4 rfl rfl rfl hl.1 rfl (Nat.le_of_ble_eq_true rfl) dX4_allows_42 ⟨Nat.le_refl 0, Nat.le_refl 0⟩ ?_
        refine lv_icmp_le (tgt := 52) hx hb dX4_allows_45 (by decide) (fun c_6 => ?_) (fun c_6 => ?_)
        · have hr := hr.trans (if_pos c_6)
          refine lv_iconst (v := (0 : Int32)) hx hb dX4_allows_52 (by decide) ?_
          subst hr
          exact W.zret (ty := .boolean) hx hb hrt (by decide) (fun t ht hW => ⟨_, rfl, rfl, ht⟩) (fun q hq => absurd hq List.not_mem_nil) dX4_allows_53
        · have hr := hr.trans (if_neg c_6)
          refine lv_iconst (v := (1 : Int32)) hx hb dX4_allows_48 (by decide) ?_
          refine lv_goto (tgt := 53) hx hb dX4_allows_49 (by decide) ?_
          subst hr
          exact W.zret (ty := .boolean) hx hb hrt (by decide) (fun t ht hW => ⟨_, rfl, rfl, ht⟩) (fun q hq => absurd hq List.not_mem_nil) dX4_allows_53
  · have hr := hr.trans (if_neg c_1)
    by_cases c_7 : x1 = (1 : Int32)
    · have hr := hr.trans (if_pos c_7)
      refine lv_lookup (off := 53) (tgt := 54) hx hb dX4_allows_1 (by decide) (by rw [c_7]; rfl) (by decide) ?_
      refine lv_iload_n hx hb dX4_allows_54 rfl (lv_at hl 2 rfl) ?_
      refine lv_if_lt (tgt := 71) hx hb dX4_allows_55 (by decide) (fun c_8 => ?_) (fun c_8 => ?_)
      · have hr := hr.trans (if_pos c_8)
        refine lv_iconst (v := (0 : Int32)) hx hb dX4_allows_71 (by decide) ?_
        subst hr
        exact W.zret (ty := .boolean) hx hb hrt (by decide) (fun t ht hW => ⟨_, rfl, rfl, ht⟩) (fun q hq => absurd hq List.not_mem_nil) dX4_allows_72
      · have hr := hr.trans (if_neg c_8)
        refine lv_iload_n hx hb dX4_allows_58 rfl (lv_at hl 2 rfl) ?_
        refine lv_aload_n hx hb dX4_allows_59 rfl (lv_at hl 0 rfl) ?_
        refine lv_iconst (v := (0 : Int32)) hx hb dX4_allows_60 (by decide) ?_
        refine nmv hr (fun r_9 e_10 hr => ?_)
        refine roV_i (As := [.int (0 : Int32)]) (rest := [.int x2]) ⟨hx, hb, hml, hown, hts⟩ (k_X4_setting l D Y a0 a1 a2 a3 a4 a5 a6 V (0 : Int32) r_9 e_10) (cwV 1 hts gX4_allows_X4_setting rfl rfl rfl (by decide +kernel) ⟨Nat.le_of_ble_eq_true rfl, Nat.le_of_ble_eq_true rfl⟩) hP hK hN hZ 0 4 rfl rfl rfl hl.1 rfl (Nat.le_of_ble_eq_true rfl) dX4_allows_61 ⟨Nat.le_refl 0, Nat.le_refl 0⟩ ?_
        refine lv_icmp_ge (tgt := 71) hx hb dX4_allows_64 (by decide) (fun c_11 => ?_) (fun c_11 => ?_)
        · have hr := hr.trans (if_pos c_11)
          refine lv_iconst (v := (0 : Int32)) hx hb dX4_allows_71 (by decide) ?_
          subst hr
          exact W.zret (ty := .boolean) hx hb hrt (by decide) (fun t ht hW => ⟨_, rfl, rfl, ht⟩) (fun q hq => absurd hq List.not_mem_nil) dX4_allows_72
        · have hr := hr.trans (if_neg c_11)
          refine lv_iconst (v := (1 : Int32)) hx hb dX4_allows_67 (by decide) ?_
          refine lv_goto (tgt := 72) hx hb dX4_allows_68 (by decide) ?_
          subst hr
          exact W.zret (ty := .boolean) hx hb hrt (by decide) (fun t ht hW => ⟨_, rfl, rfl, ht⟩) (fun q hq => absurd hq List.not_mem_nil) dX4_allows_72
    · have hr := hr.trans (if_neg c_7)
      refine lv_lookup (off := 72) (tgt := 73) hx hb dX4_allows_1 (by decide) ((lv_osw (k := (0 : Int32)) c_1 rfl).trans ((lv_osw (k := (1 : Int32)) c_7 rfl).trans rfl)) (by decide) ?_
      refine lv_iload_n hx hb dX4_allows_73 rfl (lv_at hl 2 rfl) ?_
      refine lv_iconst (v := (1 : Int32)) hx hb dX4_allows_74 (by decide) ?_
      refine lv_icmp_lt (tgt := 88) hx hb dX4_allows_75 (by decide) (fun c_12 => ?_) (fun c_12 => ?_)
      · have hr := hr.trans (if_pos c_12)
        refine lv_iconst (v := (0 : Int32)) hx hb dX4_allows_88 (by decide) ?_
        subst hr
        exact W.zret (ty := .boolean) hx hb hrt (by decide) (fun t ht hW => ⟨_, rfl, rfl, ht⟩) (fun q hq => absurd hq List.not_mem_nil) dX4_allows_89
      · have hr := hr.trans (if_neg c_12)
        refine lv_iload_n hx hb dX4_allows_78 rfl (lv_at hl 2 rfl) ?_
        refine lv_bipush (v := (100 : Int32)) hx hb dX4_allows_79 (by decide) ?_
        refine lv_icmp_gt (tgt := 88) hx hb dX4_allows_81 (by decide) (fun c_13 => ?_) (fun c_13 => ?_)
        · have hr := hr.trans (if_pos c_13)
          refine lv_iconst (v := (0 : Int32)) hx hb dX4_allows_88 (by decide) ?_
          subst hr
          exact W.zret (ty := .boolean) hx hb hrt (by decide) (fun t ht hW => ⟨_, rfl, rfl, ht⟩) (fun q hq => absurd hq List.not_mem_nil) dX4_allows_89
        · have hr := hr.trans (if_neg c_13)
          refine lv_iconst (v := (1 : Int32)) hx hb dX4_allows_84 (by decide) ?_
          refine lv_goto (tgt := 89) hx hb dX4_allows_85 (by decide) ?_
          subst hr
          exact W.zret (ty := .boolean) hx hb hrt (by decide) (fun t ht hW => ⟨_, rfl, rfl, ht⟩) (fun q hq => absurd hq List.not_mem_nil) dX4_allows_89

set_option maxHeartbeats 4000000 in
set_option maxRecDepth 100000 in
theorem k_X4_counted (l : Launch) (D : va_G) (Y : Nat → ClassId) (a0 a1 a2 a3 a4 a5 a6 : Nat) (V : St) (x1 : Int32) (R : Int32) (hr : R = mf_X4_counted V x1) : Met l yX4_counted wsX4_counted ({ frames := 0, cells := 0, slots := 0, locals := 0 } : Room) (va_Pc [.ref a0, .int x1] (PR D Y (stW Y a0 a1 a2 a3 a4 a5 a6 V))) (vp_Si (fun x => x = R)) 0 0 (fun _ => False) := by
  refine Met.ofW (cc := cX4_counted) (maxL := 2) (ret := (some .int)) (by decide) rfl ?_
  intro p e s m args below meth c s₁ B hml hv
  obtain ⟨rfl, hP, hK, hN, hZ⟩ := hv
  have hx := B.exec
  have hb := B.bytes
  have hrt := B.returns
  have hts := atoms_spec (ws := wsX4_counted) B.pre
  have hown : s.vm.findClass RX4 = some m.cls := findClass_of_methodNamed B.named
  have hlocks := B.notSynchronized
  have inX4 : ∀ w ∈ u_ws RX4 TX4 11, w ∈ wsX4_counted := uin_at 2 rfl
  have hS : va_S (fun _ => False) s.heap s.heap [] := va_S.rf
  have hl := lv_entry ([.ref a0, .int x1]) (n := 2) (Nat.le_of_ble_eq_true rfl)
  rw [lg_entry_eq]
  generalize (lg_sl ([.ref a0, .int x1]) ++ List.replicate (2 - (lg_sl ([.ref a0, .int x1])).length) Slot.unset).toArray = ls at hl ⊢
  have hl : lv_has ls 2 [(0, .ref a0), (1, .int x1)] := hl
  rw [mf_X4_counted] at hr
  refine lv_iload_n hx hb dX4_counted_0 rfl (lv_at hl 1 rfl) ?_
  refine lv_if_lt (tgt := 22) hx hb dX4_counted_1 (by decide) (fun c_1 => ?_) (fun c_1 => ?_)
  · have hr := hr.trans (if_pos c_1)
    refine lv_bipush (v := (-2 : Int32)) hx hb dX4_counted_22 (by decide) ?_
    subst hr
    exact W.iret hx hb hrt (fun t ht hW => ⟨_, rfl, rfl, ht⟩) (fun q hq => absurd hq List.not_mem_nil) dX4_counted_24
  · have hr := hr.trans (if_neg c_1)
    refine lv_iload_n hx hb dX4_counted_4 rfl (lv_at hl 1 rfl) ?_
    refine lv_aload_n hx hb dX4_counted_5 rfl (lv_at hl 0 rfl) ?_
    refine va_get (D := D) (ci := 4) (v := .ref a5) (C := RX4) (T := TX4) (N := 11) hx hb hts inX4 hown hK hP 0 rfl rfl 2 (by decide) (hts (.fieldLink RX4 25 "ShiftMaps$State" "counts" "[I") (List.mem_of_getElem? (i := 1) rfl)) (fun _ h9 => h9) rfl dX4_counted_6 ?_
    refine va_alen (D := D) (v := (13 : Int32)) hx hb hK hP 5 2 rfl rfl rfl dX4_counted_9 ?_
    refine lv_icmp_ge (tgt := 22) hx hb dX4_counted_10 (by decide) (fun c_2 => ?_) (fun c_2 => ?_)
    · have hr := hr.trans (if_pos c_2)
      refine lv_bipush (v := (-2 : Int32)) hx hb dX4_counted_22 (by decide) ?_
      subst hr
      exact W.iret hx hb hrt (fun t ht hW => ⟨_, rfl, rfl, ht⟩) (fun q hq => absurd hq List.not_mem_nil) dX4_counted_24
    · have hr := hr.trans (if_neg c_2)
      refine lv_aload_n hx hb dX4_counted_13 rfl (lv_at hl 0 rfl) ?_
      refine va_get (D := D) (ci := 4) (v := .ref a5) (C := RX4) (T := TX4) (N := 11) hx hb hts inX4 hown hK hP 0 rfl rfl 2 (by decide) (hts (.fieldLink RX4 25 "ShiftMaps$State" "counts" "[I") (List.mem_of_getElem? (i := 1) rfl)) (fun _ h9 => h9) rfl dX4_counted_14 ?_
      refine lv_iload_n hx hb dX4_counted_17 rfl (lv_at hl 1 rfl) ?_
      refine va_iald (D := D) hx hb hK hP 5 2 rfl rfl (in_of (y := (13 : Int32)) rfl (by decide) c_1 c_2) dX4_counted_18 ?_
      refine lv_goto (tgt := 24) hx hb dX4_counted_19 (by decide) ?_
      subst hr
      exact W.iret hx hb hrt (fun t ht hW => ⟨_, rfl, rfl, ht⟩) (fun q hq => absurd hq List.not_mem_nil) dX4_counted_24

set_option maxHeartbeats 4000000 in
set_option maxRecDepth 100000 in
theorem k_X4_countOneMore (l : Launch) (D : va_G) (Y : Nat → ClassId) (a0 a1 a2 a3 a4 a5 a6 : Nat) (V : St) (x1 : Int32) (R : St) (hr : R = mf_X4_countOneMore V x1) : Met l yX4_countOneMore wsX4_countOneMore ({ frames := 0, cells := 0, slots := 0, locals := 0 } : Room) (va_Pc [.ref a0, .int x1] (PW D Y (stW Y a0 a1 a2 a3 a4 a5 a6 V))) (va_Qv (S := Unit) (fun _ => True) (fun _ t => va_P D vwCl (stW Y a0 a1 a2 a3 a4 a5 a6 R) t.heap) (wA (stW Y a0 a1 a2 a3 a4 a5 a6 V))) 0 0 (wA (stW Y a0 a1 a2 a3 a4 a5 a6 V)) := by
  refine Met.ofW (cc := cX4_countOneMore) (maxL := 2) (ret := none) (by decide) rfl ?_
  intro p e s m args below meth c s₁ B hml hv
  obtain ⟨rfl, hP, hK, hN, hZ, hD⟩ := hv
  have hx := B.exec
  have hb := B.bytes
  have hrt := B.returns
  have hts := atoms_spec (ws := wsX4_countOneMore) B.pre
  have hown : s.vm.findClass RX4 = some m.cls := findClass_of_methodNamed B.named
  have hlocks := B.notSynchronized
  have inX4 : ∀ w ∈ u_ws RX4 TX4 11, w ∈ wsX4_countOneMore := uin_at 2 rfl
  generalize hAe : wA (stW Y a0 a1 a2 a3 a4 a5 a6 V) = A at hZ hD ⊢
  have hS : va_S A s.heap s.heap [] := va_S.rf
  have hl := lv_entry ([.ref a0, .int x1]) (n := 2) (Nat.le_of_ble_eq_true rfl)
  rw [lg_entry_eq]
  generalize (lg_sl ([.ref a0, .int x1]) ++ List.replicate (2 - (lg_sl ([.ref a0, .int x1])).length) Slot.unset).toArray = ls at hl ⊢
  have hl : lv_has ls 2 [(0, .ref a0), (1, .int x1)] := hl
  rw [mf_X4_countOneMore] at hr
  suffices KK : ∀ (H : Heap) (locs : List Loc), va_P D vwCl (stW Y a0 a1 a2 a3 a4 a5 a6 V) H → va_S A s.heap H locs → W p l e ({ frames := 0, cells := 0, slots := 0, locals := 0 } : Room) s m ([.ref a0, .int x1] : List Value).toArray below meth c H locs 0 0 (MQ below (va_Qv (S := Unit) (fun _ => True) (fun _ t => va_P D vwCl (stW Y a0 a1 a2 a3 a4 a5 a6 R) t.heap) A) ([.ref a0, .int x1] : List Value).toArray s 0 0 A) (F0 m 0 ls []) from KK _ _ hP hS
  intro H locs hP hS
  refine lv_iload_n hx hb dX4_countOneMore_0 rfl (lv_at hl 1 rfl) ?_
  refine lv_if_lt (tgt := 23) hx hb dX4_countOneMore_1 (by decide) (fun c_1 => ?_) (fun c_1 => ?_)
  · have hr := hr.trans (if_pos c_1)
    subst hr
    exact W.vret hx hb hrt (fun t ht hW => ⟨⟨(), rfl, trivial, by show va_P D vwCl _ t.heap; rw [ht]; exact hP⟩, hS.F ht⟩) hS.2.2 dX4_countOneMore_23
  · have hr := hr.trans (if_neg c_1)
    refine lv_iload_n hx hb dX4_countOneMore_4 rfl (lv_at hl 1 rfl) ?_
    refine lv_aload_n hx hb dX4_countOneMore_5 rfl (lv_at hl 0 rfl) ?_
    refine va_get (D := D) (ci := 4) (v := .ref a5) (C := RX4) (T := TX4) (N := 11) hx hb hts inX4 hown hK hP 0 rfl rfl 2 (by decide) (hts (.fieldLink RX4 25 "ShiftMaps$State" "counts" "[I") (List.mem_of_getElem? (i := 1) rfl)) (fun _ h9 => h9) rfl dX4_countOneMore_6 ?_
    refine va_alen (D := D) (v := (13 : Int32)) hx hb hK hP 5 2 rfl rfl rfl dX4_countOneMore_9 ?_
    refine lv_icmp_ge (tgt := 23) hx hb dX4_countOneMore_10 (by decide) (fun c_2 => ?_) (fun c_2 => ?_)
    · have hr := hr.trans (if_pos c_2)
      subst hr
      exact W.vret hx hb hrt (fun t ht hW => ⟨⟨(), rfl, trivial, by show va_P D vwCl _ t.heap; rw [ht]; exact hP⟩, hS.F ht⟩) hS.2.2 dX4_countOneMore_23
    · have hr := hr.trans (if_neg c_2)
      refine lv_aload_n hx hb dX4_countOneMore_13 rfl (lv_at hl 0 rfl) ?_
      refine va_get (D := D) (ci := 4) (v := .ref a5) (C := RX4) (T := TX4) (N := 11) hx hb hts inX4 hown hK hP 0 rfl rfl 2 (by decide) (hts (.fieldLink RX4 25 "ShiftMaps$State" "counts" "[I") (List.mem_of_getElem? (i := 1) rfl)) (fun _ h9 => h9) rfl dX4_countOneMore_14 ?_
      refine lv_iload_n hx hb dX4_countOneMore_17 rfl (lv_at hl 1 rfl) ?_
      refine lv_dup2_11 hx hb dX4_countOneMore_18 rfl rfl ?_
      refine va_iald (D := D) hx hb hK hP 5 2 rfl rfl (in_of (y := (13 : Int32)) rfl (by decide) c_1 c_2) dX4_countOneMore_19 ?_
      refine lv_iconst (v := (1 : Int32)) hx hb dX4_countOneMore_20 (by decide) ?_
      refine lv_iadd hx hb dX4_countOneMore_21 ?_
      refine va_iast (D := D) hx hb hK hP hD hS 5 2 rfl rfl (in_of (y := (13 : Int32)) rfl (by decide) c_1 c_2) dX4_countOneMore_22 (fun H locs hP hD hS => ?_)
      refine nmv hr (fun V_3 e_4 hr => ?_)
      have hP : va_P D vwCl (stW Y a0 a1 a2 a3 a4 a5 a6 V_3) H := by rw [e_4]; exact hP
      have hD : va_D A (stW Y a0 a1 a2 a3 a4 a5 a6 V_3) := va_D_adr hD rfl
      subst hr
      exact W.vret hx hb hrt (fun t ht hW => ⟨⟨(), rfl, trivial, by show va_P D vwCl _ t.heap; rw [ht]; exact hP⟩, hS.F ht⟩) hS.2.2 dX4_countOneMore_23

set_option maxHeartbeats 4000000 in
set_option maxRecDepth 100000 in
theorem k_X4_tick (l : Launch) (D : va_G) (Y : Nat → ClassId) (a0 a1 a2 a3 a4 a5 a6 : Nat) (V : St) (R : Int32) (hr : R = mf_X4_tick V) : Met l yX4_tick wsX4_tick ({ frames := 1, cells := 0, slots := 0, locals := 21 } : Room) (va_Pc [.ref a0] (PR D Y (stW Y a0 a1 a2 a3 a4 a5 a6 V))) (vp_Si (fun x => x = R)) 0 0 (fun _ => False) := by
  refine Met.ofW (cc := cX4_tick) (maxL := 1) (ret := (some .int)) (by decide) rfl ?_
  intro p e s m args below meth c s₁ B hml hv
  obtain ⟨rfl, hP, hK, hN, hZ⟩ := hv
  have hx := B.exec
  have hb := B.bytes
  have hrt := B.returns
  have hts := atoms_spec (ws := wsX4_tick) B.pre
  have hown : s.vm.findClass RX4 = some m.cls := findClass_of_methodNamed B.named
  have hlocks := B.notSynchronized
  have hS : va_S (fun _ => False) s.heap s.heap [] := va_S.rf
  have hl := lv_entry ([.ref a0]) (n := 1) (Nat.le_of_ble_eq_true rfl)
  rw [lg_entry_eq]
  generalize (lg_sl ([.ref a0]) ++ List.replicate (1 - (lg_sl ([.ref a0])).length) Slot.unset).toArray = ls at hl ⊢
  have hl : lv_has ls 1 [(0, .ref a0)] := hl
  rw [mf_X4_tick] at hr
  refine lv_aload_n hx hb dX4_tick_0 rfl (lv_at hl 0 rfl) ?_
  refine lv_iconst (v := (0 : Int32)) hx hb dX4_tick_1 (by decide) ?_
  refine nmv hr (fun r_1 e_2 hr => ?_)
  refine roV_i (As := [.int (0 : Int32)]) (rest := []) ⟨hx, hb, hml, hown, hts⟩ (k_X4_counted l D Y a0 a1 a2 a3 a4 a5 a6 V (0 : Int32) r_1 e_2) (cwV 1 hts gX4_tick_X4_counted rfl rfl rfl (by decide +kernel) ⟨Nat.le_of_ble_eq_true rfl, Nat.le_of_ble_eq_true rfl⟩) hP hK hN hZ 0 4 rfl rfl rfl hl.1 rfl (Nat.le_of_ble_eq_true rfl) dX4_tick_2 ⟨Nat.le_refl 0, Nat.le_refl 0⟩ ?_
  subst hr
  exact W.iret hx hb hrt (fun t ht hW => ⟨_, rfl, rfl, ht⟩) (fun q hq => absurd hq List.not_mem_nil) dX4_tick_5

set_option maxHeartbeats 4000000 in
set_option maxRecDepth 100000 in
theorem k_X4_isChanging (l : Launch) (D : va_G) (Y : Nat → ClassId) (a0 a1 a2 a3 a4 a5 a6 : Nat) (V : St) (R : Int32) (hr : R = mf_X4_isChanging V) : Met l yX4_isChanging wsX4_isChanging ({ frames := 0, cells := 0, slots := 0, locals := 0 } : Room) (va_Pc [.ref a0] (PR D Y (stW Y a0 a1 a2 a3 a4 a5 a6 V))) (vp_Si (fun x => x = R)) 0 0 (fun _ => False) := by
  refine Met.ofW (cc := cX4_isChanging) (maxL := 1) (ret := (some .boolean)) (by decide) rfl ?_
  intro p e s m args below meth c s₁ B hml hv
  obtain ⟨rfl, hP, hK, hN, hZ⟩ := hv
  have hx := B.exec
  have hb := B.bytes
  have hrt := B.returns
  have hts := atoms_spec (ws := wsX4_isChanging) B.pre
  have hown : s.vm.findClass RX4 = some m.cls := findClass_of_methodNamed B.named
  have hlocks := B.notSynchronized
  have inX4 : ∀ w ∈ u_ws RX4 TX4 11, w ∈ wsX4_isChanging := uin_at 2 rfl
  have hS : va_S (fun _ => False) s.heap s.heap [] := va_S.rf
  have hl := lv_entry ([.ref a0]) (n := 1) (Nat.le_of_ble_eq_true rfl)
  rw [lg_entry_eq]
  generalize (lg_sl ([.ref a0]) ++ List.replicate (1 - (lg_sl ([.ref a0])).length) Slot.unset).toArray = ls at hl ⊢
  have hl : lv_has ls 1 [(0, .ref a0)] := hl
  rw [mf_X4_isChanging] at hr
  refine lv_aload_n hx hb dX4_isChanging_0 rfl (lv_at hl 0 rfl) ?_
  refine va_get (D := D) (ci := 4) (v := .int (v4_target V)) (C := RX4) (T := TX4) (N := 11) hx hb hts inX4 hown hK hP 0 rfl rfl 5 (by decide) (hts (.fieldLink RX4 39 "ShiftMaps$State" "target" "I") (List.mem_of_getElem? (i := 1) rfl)) (fun _ h9 => h9) rfl dX4_isChanging_1 ?_
  refine lv_if_eq (tgt := 11) hx hb dX4_isChanging_4 (by decide) (fun c_1 => ?_) (fun c_1 => ?_)
  · have hr := hr.trans (if_pos c_1)
    refine lv_iconst (v := (0 : Int32)) hx hb dX4_isChanging_11 (by decide) ?_
    subst hr
    exact W.zret (ty := .boolean) hx hb hrt (by decide) (fun t ht hW => ⟨_, rfl, rfl, ht⟩) (fun q hq => absurd hq List.not_mem_nil) dX4_isChanging_12
  · have hr := hr.trans (if_neg c_1)
    refine lv_iconst (v := (1 : Int32)) hx hb dX4_isChanging_7 (by decide) ?_
    refine lv_goto (tgt := 12) hx hb dX4_isChanging_8 (by decide) ?_
    subst hr
    exact W.zret (ty := .boolean) hx hb hrt (by decide) (fun t ht hW => ⟨_, rfl, rfl, ht⟩) (fun q hq => absurd hq List.not_mem_nil) dX4_isChanging_12

set_option maxHeartbeats 4000000 in
set_option maxRecDepth 100000 in
theorem k_X4_copyFrom (l : Launch) (D : va_G) (Y : Nat → ClassId) (a0 a1 a2 a3 a4 a5 a6 : Nat) (b0 b1 b2 b3 b4 b5 b6 : Nat) (V : St) (U : St) (R : St) (hr : some R = mf_X4_copyFrom V U) : Met l yX4_copyFrom wsX4_copyFrom ({ frames := 2, cells := 0, slots := 0, locals := 81 } : Room) (va_Pc [.ref a0, .ref b0] (PW D Y ((stW Y a0 a1 a2 a3 a4 a5 a6 V) ++ (stW Y b0 b1 b2 b3 b4 b5 b6 U)))) (va_Qv (S := Unit) (fun _ => True) (fun _ t => va_P D vwCl ((stW Y a0 a1 a2 a3 a4 a5 a6 R) ++ (stW Y b0 b1 b2 b3 b4 b5 b6 U)) t.heap) (wA ((stW Y a0 a1 a2 a3 a4 a5 a6 V) ++ (stW Y b0 b1 b2 b3 b4 b5 b6 U)))) 0 0 (wA ((stW Y a0 a1 a2 a3 a4 a5 a6 V) ++ (stW Y b0 b1 b2 b3 b4 b5 b6 U))) := by
  refine Met.ofW (cc := cX4_copyFrom) (maxL := 2) (ret := none) (by decide) rfl ?_
  intro p e s m args below meth c s₁ B hml hv
  obtain ⟨rfl, hP, hK, hN, hZ, hD⟩ := hv
  have hx := B.exec
  have hb := B.bytes
  have hrt := B.returns
  have hts := atoms_spec (ws := wsX4_copyFrom) B.pre
  have hown : s.vm.findClass RX4 = some m.cls := findClass_of_methodNamed B.named
  have hlocks := B.notSynchronized
  have inX4 : ∀ w ∈ u_ws RX4 TX4 11, w ∈ wsX4_copyFrom := uin_at 32 rfl
  generalize hAe : wA ((stW Y a0 a1 a2 a3 a4 a5 a6 V) ++ (stW Y b0 b1 b2 b3 b4 b5 b6 U)) = A at hZ hD ⊢
  have hS : va_S A s.heap s.heap [] := va_S.rf
  have hl := lv_entry ([.ref a0, .ref b0]) (n := 2) (Nat.le_of_ble_eq_true rfl)
  rw [lg_entry_eq]
  generalize (lg_sl ([.ref a0, .ref b0]) ++ List.replicate (2 - (lg_sl ([.ref a0, .ref b0])).length) Slot.unset).toArray = ls at hl ⊢
  have hl : lv_has ls 2 [(0, .ref a0), (1, .ref b0)] := hl
  rw [mf_X4_copyFrom] at hr
  suffices KK : ∀ (H : Heap) (locs : List Loc), va_P D vwCl ((stW Y a0 a1 a2 a3 a4 a5 a6 V) ++ (stW Y b0 b1 b2 b3 b4 b5 b6 U)) H → va_S A s.heap H locs → W p l e ({ frames := 2, cells := 0, slots := 0, locals := 81 } : Room) s m ([.ref a0, .ref b0] : List Value).toArray below meth c H locs 0 0 (MQ below (va_Qv (S := Unit) (fun _ => True) (fun _ t => va_P D vwCl ((stW Y a0 a1 a2 a3 a4 a5 a6 R) ++ (stW Y b0 b1 b2 b3 b4 b5 b6 U)) t.heap) A) ([.ref a0, .ref b0] : List Value).toArray s 0 0 A) (F0 m 0 ls []) from KK _ _ hP hS
  intro H locs hP hS
  refine lv_aload_n hx hb dX4_copyFrom_0 rfl (lv_at hl 0 rfl) ?_
  refine va_get (D := D) (ci := 4) (v := .ref a1) (C := RX4) (T := TX4) (N := 11) hx hb hts inX4 hown hK hP 0 rfl rfl 0 (by decide) (hts (.fieldLink RX4 12 "ShiftMaps$State" "maps" "LShiftMaps$Maps;") (List.mem_of_getElem? (i := 1) rfl)) (fun _ h9 => h9) rfl dX4_copyFrom_1 ?_
  refine lv_aload_n hx hb dX4_copyFrom_4 rfl (lv_at hl 1 rfl) ?_
  refine va_get (D := D) (ci := 4) (v := .ref b1) (C := RX4) (T := TX4) (N := 11) hx hb hts inX4 hown hK hP 7 rfl rfl 0 (by decide) (hts (.fieldLink RX4 12 "ShiftMaps$State" "maps" "LShiftMaps$Maps;") (List.mem_of_getElem? (i := 1) rfl)) (fun _ h9 => h9) rfl dX4_copyFrom_5 ?_
  refine nmv hr (fun r_1 e_2 hr => ?_)
  refine nmv hr (fun V_3 e_4 hr => ?_)
  refine rwV_v (W1 := (mpW Y a1 a2 r_1) ++ (mpW Y b1 b2 (v4_maps U))) (W' := ((stW Y a0 a1 a2 a3 a4 a5 a6 V_3) ++ (stW Y b0 b1 b2 b3 b4 b5 b6 U))) (As := [.ref b1]) (rest := []) ⟨hx, hb, hml, hown, hts⟩ (k_X3_copyFrom l D Y a1 a2 b1 b2 (v4_maps V) (v4_maps U) r_1 e_2) (cwV 1 hts gX4_copyFrom_X3_copyFrom rfl rfl rfl (by decide +kernel) ⟨Nat.le_of_ble_eq_true rfl, Nat.le_of_ble_eq_true rfl⟩) hP hK hN hZ hD hS [1, 2, 8, 9] rfl (by decide) [.inl 0, .inr 0, .inr 1, .inl 3, .inl 4, .inl 5, .inl 6, .inl 7, .inr 2, .inr 3, .inl 10, .inl 11, .inl 12, .inl 13] (jk_ok _ _ (by decide)) (by rw [e_4]; rfl) rfl 1 3 rfl rfl rfl hl.1 rfl (Nat.le_of_ble_eq_true rfl) dX4_copyFrom_8 ⟨Nat.le_refl 0, Nat.le_refl 0⟩ (fun H locs hP hD hS => ?_)
  refine lv_aload_n hx hb dX4_copyFrom_11 rfl (lv_at hl 0 rfl) ?_
  refine va_get (D := D) (ci := 4) (v := .ref a3) (C := RX4) (T := TX4) (N := 11) hx hb hts inX4 hown hK hP 0 rfl rfl 1 (by decide) (hts (.fieldLink RX4 21 "ShiftMaps$State" "log" "LShiftMaps$Log;") (List.mem_of_getElem? (i := 2) rfl)) (fun _ h9 => h9) rfl dX4_copyFrom_12 ?_
  refine lv_aload_n hx hb dX4_copyFrom_15 rfl (lv_at hl 1 rfl) ?_
  refine va_get (D := D) (ci := 4) (v := .ref b3) (C := RX4) (T := TX4) (N := 11) hx hb hts inX4 hown hK hP 7 rfl rfl 1 (by decide) (hts (.fieldLink RX4 21 "ShiftMaps$State" "log" "LShiftMaps$Log;") (List.mem_of_getElem? (i := 2) rfl)) (fun _ h9 => h9) rfl dX4_copyFrom_16 ?_
  refine nmv hr (fun r_5 e_6 hr => ?_)
  refine nmv hr (fun V_7 e_8 hr => ?_)
  refine rwV_v (W1 := (lgW Y a3 a4 r_5) ++ (lgW Y b3 b4 (v4_log U))) (W' := ((stW Y a0 a1 a2 a3 a4 a5 a6 V_7) ++ (stW Y b0 b1 b2 b3 b4 b5 b6 U))) (As := [.ref b3]) (rest := []) ⟨hx, hb, hml, hown, hts⟩ (k_X2_copyFrom l D Y a3 a4 b3 b4 (v4_log V_3) (v4_log U) r_5 e_6) (cwV 1 hts gX4_copyFrom_X2_copyFrom rfl rfl rfl (by decide +kernel) ⟨Nat.le_of_ble_eq_true rfl, Nat.le_of_ble_eq_true rfl⟩) hP hK hN hZ hD hS [3, 4, 10, 11] rfl (by decide) [.inl 0, .inl 1, .inl 2, .inr 0, .inr 1, .inl 5, .inl 6, .inl 7, .inl 8, .inl 9, .inr 2, .inr 3, .inl 12, .inl 13] (jk_ok _ _ (by decide)) (by rw [e_8]; rfl) rfl 3 2 rfl rfl rfl hl.1 rfl (Nat.le_of_ble_eq_true rfl) dX4_copyFrom_19 ⟨Nat.le_refl 0, Nat.le_refl 0⟩ (fun H locs hP hD hS => ?_)
  refine lv_aload_n hx hb dX4_copyFrom_22 rfl (lv_at hl 1 rfl) ?_
  refine va_get (D := D) (ci := 4) (v := .ref b5) (C := RX4) (T := TX4) (N := 11) hx hb hts inX4 hown hK hP 7 rfl rfl 2 (by decide) (hts (.fieldLink RX4 25 "ShiftMaps$State" "counts" "[I") (List.mem_of_getElem? (i := 3) rfl)) (fun _ h9 => h9) rfl dX4_copyFrom_23 ?_
  refine lv_iconst (v := (0 : Int32)) hx hb dX4_copyFrom_26 (by decide) ?_
  refine lv_aload_n hx hb dX4_copyFrom_27 rfl (lv_at hl 0 rfl) ?_
  refine va_get (D := D) (ci := 4) (v := .ref a5) (C := RX4) (T := TX4) (N := 11) hx hb hts inX4 hown hK hP 0 rfl rfl 2 (by decide) (hts (.fieldLink RX4 25 "ShiftMaps$State" "counts" "[I") (List.mem_of_getElem? (i := 3) rfl)) (fun _ h9 => h9) rfl dX4_copyFrom_28 ?_
  refine lv_iconst (v := (0 : Int32)) hx hb dX4_copyFrom_31 (by decide) ?_
  refine lv_aload_n hx hb dX4_copyFrom_32 rfl (lv_at hl 0 rfl) ?_
  refine va_get (D := D) (ci := 4) (v := .ref a5) (C := RX4) (T := TX4) (N := 11) hx hb hts inX4 hown hK hP 0 rfl rfl 2 (by decide) (hts (.fieldLink RX4 25 "ShiftMaps$State" "counts" "[I") (List.mem_of_getElem? (i := 3) rfl)) (fun _ h9 => h9) rfl dX4_copyFrom_33 ?_
  refine va_alen (D := D) (v := (13 : Int32)) hx hb hK hP 5 2 rfl rfl rfl dX4_copyFrom_36 ?_
  refine cp_i (D := D) hx hb (hml.trans hl.1.symm) hown (hts (.methodLink RX4 59 arraycopyName) (List.mem_of_getElem? (i := 4) rfl)) (hts (.native arraycopyName) (List.mem_of_getElem? (i := 5) rfl)) (hts (.static arraycopyName) (List.mem_of_getElem? (i := 6) rfl)) (hts (.initialized "java/lang/System") (List.mem_of_getElem? (i := 7) rfl)) hK hP hD hS 12 5 2 rfl rfl rfl (n := (13 : Int32)) rfl (by decide) (Nat.le_of_ble_eq_true rfl) (Nat.le_of_ble_eq_true rfl) dX4_copyFrom_37 (fun H locs hP hD hS => ?_)
  refine nmv hr (fun V_9 e_10 hr => ?_)
  have hP : va_P D vwCl ((stW Y a0 a1 a2 a3 a4 a5 a6 V_9) ++ (stW Y b0 b1 b2 b3 b4 b5 b6 U)) H := by rw [e_10]; exact hP
  have hD : va_D A ((stW Y a0 a1 a2 a3 a4 a5 a6 V_9) ++ (stW Y b0 b1 b2 b3 b4 b5 b6 U)) := va_D_adr hD rfl
  refine lv_aload_n hx hb dX4_copyFrom_40 rfl (lv_at hl 1 rfl) ?_
  refine va_get (D := D) (ci := 4) (v := .ref b6) (C := RX4) (T := TX4) (N := 11) hx hb hts inX4 hown hK hP 7 rfl rfl 3 (by decide) (hts (.fieldLink RX4 32 "ShiftMaps$State" "settings" "[I") (List.mem_of_getElem? (i := 8) rfl)) (fun _ h9 => h9) rfl dX4_copyFrom_41 ?_
  refine lv_iconst (v := (0 : Int32)) hx hb dX4_copyFrom_44 (by decide) ?_
  refine lv_aload_n hx hb dX4_copyFrom_45 rfl (lv_at hl 0 rfl) ?_
  refine va_get (D := D) (ci := 4) (v := .ref a6) (C := RX4) (T := TX4) (N := 11) hx hb hts inX4 hown hK hP 0 rfl rfl 3 (by decide) (hts (.fieldLink RX4 32 "ShiftMaps$State" "settings" "[I") (List.mem_of_getElem? (i := 8) rfl)) (fun _ h9 => h9) rfl dX4_copyFrom_46 ?_
  refine lv_iconst (v := (0 : Int32)) hx hb dX4_copyFrom_49 (by decide) ?_
  refine lv_aload_n hx hb dX4_copyFrom_50 rfl (lv_at hl 0 rfl) ?_
  refine va_get (D := D) (ci := 4) (v := .ref a6) (C := RX4) (T := TX4) (N := 11) hx hb hts inX4 hown hK hP 0 rfl rfl 3 (by decide) (hts (.fieldLink RX4 32 "ShiftMaps$State" "settings" "[I") (List.mem_of_getElem? (i := 8) rfl)) (fun _ h9 => h9) rfl dX4_copyFrom_51 ?_
  refine va_alen (D := D) (v := (4 : Int32)) hx hb hK hP 6 2 rfl rfl rfl dX4_copyFrom_54 ?_
  refine cp_i (D := D) hx hb (hml.trans hl.1.symm) hown (hts (.methodLink RX4 59 arraycopyName) (List.mem_of_getElem? (i := 4) rfl)) (hts (.native arraycopyName) (List.mem_of_getElem? (i := 5) rfl)) (hts (.static arraycopyName) (List.mem_of_getElem? (i := 6) rfl)) (hts (.initialized "java/lang/System") (List.mem_of_getElem? (i := 7) rfl)) hK hP hD hS 13 6 2 rfl rfl rfl (n := (4 : Int32)) rfl (by decide) (Nat.le_of_ble_eq_true rfl) (Nat.le_of_ble_eq_true rfl) dX4_copyFrom_55 (fun H locs hP hD hS => ?_)
  refine nmv hr (fun V_11 e_12 hr => ?_)
  have hP : va_P D vwCl ((stW Y a0 a1 a2 a3 a4 a5 a6 V_11) ++ (stW Y b0 b1 b2 b3 b4 b5 b6 U)) H := by rw [e_12]; exact hP
  have hD : va_D A ((stW Y a0 a1 a2 a3 a4 a5 a6 V_11) ++ (stW Y b0 b1 b2 b3 b4 b5 b6 U)) := va_D_adr hD rfl
  refine lv_aload_n hx hb dX4_copyFrom_58 rfl (lv_at hl 0 rfl) ?_
  refine lv_aload_n hx hb dX4_copyFrom_59 rfl (lv_at hl 1 rfl) ?_
  refine va_get (D := D) (ci := 4) (v := .int (v4_gear U)) (C := RX4) (T := TX4) (N := 11) hx hb hts inX4 hown hK hP 7 rfl rfl 4 (by decide) (hts (.fieldLink RX4 35 "ShiftMaps$State" "gear" "I") (List.mem_of_getElem? (i := 9) rfl)) (fun _ h9 => h9) rfl dX4_copyFrom_60 ?_
  refine va_put (D := D) (ci := 4) (v := .int (v4_gear U)) (ty := .int) (C := RX4) (T := TX4) (N := 11) hx hb hts inX4 tyX4 tyX4_ok nmX4 hown hK hP hD hS 0 rfl rfl 4 (by decide) (hts (.fieldLink RX4 35 "ShiftMaps$State" "gear" "I") (List.mem_of_getElem? (i := 9) rfl)) (fun _ h9 => h9) rfl (by decide +kernel) rfl rfl (Nat.le_of_ble_eq_true rfl) dX4_copyFrom_63 (fun H locs hP hD hS => ?_)
  refine nmv hr (fun V_15 e_16 hr => ?_)
  have hP : va_P D vwCl ((stW Y a0 a1 a2 a3 a4 a5 a6 V_15) ++ (stW Y b0 b1 b2 b3 b4 b5 b6 U)) H := by rw [e_16]; exact hP
  have hD : va_D A ((stW Y a0 a1 a2 a3 a4 a5 a6 V_15) ++ (stW Y b0 b1 b2 b3 b4 b5 b6 U)) := va_D_adr hD rfl
  refine lv_aload_n hx hb dX4_copyFrom_66 rfl (lv_at hl 0 rfl) ?_
  refine lv_aload_n hx hb dX4_copyFrom_67 rfl (lv_at hl 1 rfl) ?_
  refine va_get (D := D) (ci := 4) (v := .int (v4_target U)) (C := RX4) (T := TX4) (N := 11) hx hb hts inX4 hown hK hP 7 rfl rfl 5 (by decide) (hts (.fieldLink RX4 39 "ShiftMaps$State" "target" "I") (List.mem_of_getElem? (i := 10) rfl)) (fun _ h9 => h9) rfl dX4_copyFrom_68 ?_
  refine va_put (D := D) (ci := 4) (v := .int (v4_target U)) (ty := .int) (C := RX4) (T := TX4) (N := 11) hx hb hts inX4 tyX4 tyX4_ok nmX4 hown hK hP hD hS 0 rfl rfl 5 (by decide) (hts (.fieldLink RX4 39 "ShiftMaps$State" "target" "I") (List.mem_of_getElem? (i := 10) rfl)) (fun _ h9 => h9) rfl (by decide +kernel) rfl rfl (Nat.le_of_ble_eq_true rfl) dX4_copyFrom_71 (fun H locs hP hD hS => ?_)
  refine nmv hr (fun V_19 e_20 hr => ?_)
  have hP : va_P D vwCl ((stW Y a0 a1 a2 a3 a4 a5 a6 V_19) ++ (stW Y b0 b1 b2 b3 b4 b5 b6 U)) H := by rw [e_20]; exact hP
  have hD : va_D A ((stW Y a0 a1 a2 a3 a4 a5 a6 V_19) ++ (stW Y b0 b1 b2 b3 b4 b5 b6 U)) := va_D_adr hD rfl
  refine lv_aload_n hx hb dX4_copyFrom_74 rfl (lv_at hl 0 rfl) ?_
  refine lv_aload_n hx hb dX4_copyFrom_75 rfl (lv_at hl 1 rfl) ?_
  refine va_get (D := D) (ci := 4) (v := .int (v4_done U)) (C := RX4) (T := TX4) (N := 11) hx hb hts inX4 hown hK hP 7 rfl rfl 6 (by decide) (hts (.fieldLink RX4 42 "ShiftMaps$State" "done" "I") (List.mem_of_getElem? (i := 11) rfl)) (fun _ h9 => h9) rfl dX4_copyFrom_76 ?_
  refine va_put (D := D) (ci := 4) (v := .int (v4_done U)) (ty := .int) (C := RX4) (T := TX4) (N := 11) hx hb hts inX4 tyX4 tyX4_ok nmX4 hown hK hP hD hS 0 rfl rfl 6 (by decide) (hts (.fieldLink RX4 42 "ShiftMaps$State" "done" "I") (List.mem_of_getElem? (i := 11) rfl)) (fun _ h9 => h9) rfl (by decide +kernel) rfl rfl (Nat.le_of_ble_eq_true rfl) dX4_copyFrom_79 (fun H locs hP hD hS => ?_)
  refine nmv hr (fun V_23 e_24 hr => ?_)
  have hP : va_P D vwCl ((stW Y a0 a1 a2 a3 a4 a5 a6 V_23) ++ (stW Y b0 b1 b2 b3 b4 b5 b6 U)) H := by rw [e_24]; exact hP
  have hD : va_D A ((stW Y a0 a1 a2 a3 a4 a5 a6 V_23) ++ (stW Y b0 b1 b2 b3 b4 b5 b6 U)) := va_D_adr hD rfl
  refine lv_aload_n hx hb dX4_copyFrom_82 rfl (lv_at hl 0 rfl) ?_
  refine lv_aload_n hx hb dX4_copyFrom_83 rfl (lv_at hl 1 rfl) ?_
  refine va_get (D := D) (ci := 4) (v := .int (v4_held U)) (C := RX4) (T := TX4) (N := 11) hx hb hts inX4 hown hK hP 7 rfl rfl 7 (by decide) (hts (.fieldLink RX4 45 "ShiftMaps$State" "held" "I") (List.mem_of_getElem? (i := 12) rfl)) (fun _ h9 => h9) rfl dX4_copyFrom_84 ?_
  refine va_put (D := D) (ci := 4) (v := .int (v4_held U)) (ty := .int) (C := RX4) (T := TX4) (N := 11) hx hb hts inX4 tyX4 tyX4_ok nmX4 hown hK hP hD hS 0 rfl rfl 7 (by decide) (hts (.fieldLink RX4 45 "ShiftMaps$State" "held" "I") (List.mem_of_getElem? (i := 12) rfl)) (fun _ h9 => h9) rfl (by decide +kernel) rfl rfl (Nat.le_of_ble_eq_true rfl) dX4_copyFrom_87 (fun H locs hP hD hS => ?_)
  refine nmv hr (fun V_27 e_28 hr => ?_)
  have hP : va_P D vwCl ((stW Y a0 a1 a2 a3 a4 a5 a6 V_27) ++ (stW Y b0 b1 b2 b3 b4 b5 b6 U)) H := by rw [e_28]; exact hP
  have hD : va_D A ((stW Y a0 a1 a2 a3 a4 a5 a6 V_27) ++ (stW Y b0 b1 b2 b3 b4 b5 b6 U)) := va_D_adr hD rfl
  refine lv_aload_n hx hb dX4_copyFrom_90 rfl (lv_at hl 0 rfl) ?_
  refine lv_aload_n hx hb dX4_copyFrom_91 rfl (lv_at hl 1 rfl) ?_
  refine va_get (D := D) (ci := 4) (v := .int (v4_handMode U)) (C := RX4) (T := TX4) (N := 11) hx hb hts inX4 hown hK hP 7 rfl rfl 8 (by decide) (hts (.fieldLink RX4 48 "ShiftMaps$State" "handMode" "Z") (List.mem_of_getElem? (i := 13) rfl)) (fun _ h9 => h9) rfl dX4_copyFrom_92 ?_
  refine gdv hr (fun g_29 hr => ?_)
  refine va_put (D := D) (ci := 4) (v := .int (v4_handMode U)) (ty := .boolean) (C := RX4) (T := TX4) (N := 11) hx hb hts inX4 tyX4 tyX4_ok nmX4 hown hK hP hD hS 0 rfl rfl 8 (by decide) (hts (.fieldLink RX4 48 "ShiftMaps$State" "handMode" "Z") (List.mem_of_getElem? (i := 13) rfl)) (fun _ h9 => h9) rfl (by decide +kernel) (nar_z g_29) (fit_z g_29) (Nat.le_of_ble_eq_true rfl) dX4_copyFrom_95 (fun H locs hP hD hS => ?_)
  refine nmv hr (fun V_32 e_33 hr => ?_)
  have hP : va_P D vwCl ((stW Y a0 a1 a2 a3 a4 a5 a6 V_32) ++ (stW Y b0 b1 b2 b3 b4 b5 b6 U)) H := by rw [e_33]; exact hP
  have hD : va_D A ((stW Y a0 a1 a2 a3 a4 a5 a6 V_32) ++ (stW Y b0 b1 b2 b3 b4 b5 b6 U)) := va_D_adr hD rfl
  refine lv_aload_n hx hb dX4_copyFrom_98 rfl (lv_at hl 0 rfl) ?_
  refine lv_aload_n hx hb dX4_copyFrom_99 rfl (lv_at hl 1 rfl) ?_
  refine va_get (D := D) (ci := 4) (v := .float (v4_latestSpeed U)) (C := RX4) (T := TX4) (N := 11) hx hb hts inX4 hown hK hP 7 rfl rfl 9 (by decide) (hts (.fieldLink RX4 52 "ShiftMaps$State" "latestSpeed" "F") (List.mem_of_getElem? (i := 14) rfl)) (fun _ h9 => h9) rfl dX4_copyFrom_100 ?_
  refine va_put (D := D) (ci := 4) (v := .float (v4_latestSpeed U)) (ty := .float) (C := RX4) (T := TX4) (N := 11) hx hb hts inX4 tyX4 tyX4_ok nmX4 hown hK hP hD hS 0 rfl rfl 9 (by decide) (hts (.fieldLink RX4 52 "ShiftMaps$State" "latestSpeed" "F") (List.mem_of_getElem? (i := 14) rfl)) (fun _ h9 => h9) rfl (by decide +kernel) rfl rfl (Nat.le_of_ble_eq_true rfl) dX4_copyFrom_103 (fun H locs hP hD hS => ?_)
  refine nmv hr (fun V_36 e_37 hr => ?_)
  have hP : va_P D vwCl ((stW Y a0 a1 a2 a3 a4 a5 a6 V_36) ++ (stW Y b0 b1 b2 b3 b4 b5 b6 U)) H := by rw [e_37]; exact hP
  have hD : va_D A ((stW Y a0 a1 a2 a3 a4 a5 a6 V_36) ++ (stW Y b0 b1 b2 b3 b4 b5 b6 U)) := va_D_adr hD rfl
  refine lv_aload_n hx hb dX4_copyFrom_106 rfl (lv_at hl 0 rfl) ?_
  refine lv_aload_n hx hb dX4_copyFrom_107 rfl (lv_at hl 1 rfl) ?_
  refine va_get (D := D) (ci := 4) (v := .float (v4_latestPedal U)) (C := RX4) (T := TX4) (N := 11) hx hb hts inX4 hown hK hP 7 rfl rfl 10 (by decide) (hts (.fieldLink RX4 56 "ShiftMaps$State" "latestPedal" "F") (List.mem_of_getElem? (i := 15) rfl)) (fun _ h9 => h9) rfl dX4_copyFrom_108 ?_
  refine va_put (D := D) (ci := 4) (v := .float (v4_latestPedal U)) (ty := .float) (C := RX4) (T := TX4) (N := 11) hx hb hts inX4 tyX4 tyX4_ok nmX4 hown hK hP hD hS 0 rfl rfl 10 (by decide) (hts (.fieldLink RX4 56 "ShiftMaps$State" "latestPedal" "F") (List.mem_of_getElem? (i := 15) rfl)) (fun _ h9 => h9) rfl (by decide +kernel) rfl rfl (Nat.le_of_ble_eq_true rfl) dX4_copyFrom_111 (fun H locs hP hD hS => ?_)
  refine nmv hr (fun V_40 e_41 hr => ?_)
  have hP : va_P D vwCl ((stW Y a0 a1 a2 a3 a4 a5 a6 V_40) ++ (stW Y b0 b1 b2 b3 b4 b5 b6 U)) H := by rw [e_41]; exact hP
  have hD : va_D A ((stW Y a0 a1 a2 a3 a4 a5 a6 V_40) ++ (stW Y b0 b1 b2 b3 b4 b5 b6 U)) := va_D_adr hD rfl
  have hr := Option.some.inj hr
  subst hr
  exact W.vret hx hb hrt (fun t ht hW => ⟨⟨(), rfl, trivial, by show va_P D vwCl _ t.heap; rw [ht]; exact hP⟩, hS.F ht⟩) hS.2.2 dX4_copyFrom_114

set_option maxHeartbeats 4000000 in
set_option maxRecDepth 100000 in
theorem k_X4_isDeep (l : Launch) (D : va_G) (Y : Nat → ClassId) (x0 : UInt32) (R : Int32) (hr : R = mf_X4_isDeep x0) : Met l yX4_isDeep wsX4_isDeep ({ frames := 0, cells := 0, slots := 0, locals := 0 } : Room) (va_Pc [.float x0] (PR D Y [])) (vp_Si (fun x => x = R)) 0 0 (fun _ => False) := by
  refine Met.ofW (cc := cX4_isDeep) (maxL := 1) (ret := (some .boolean)) (by decide) rfl ?_
  intro p e s m args below meth c s₁ B hml hv
  obtain ⟨rfl, hP, hK, hN, hZ⟩ := hv
  have hx := B.exec
  have hb := B.bytes
  have hrt := B.returns
  have hts := atoms_spec (ws := wsX4_isDeep) B.pre
  have hown : s.vm.findClass RX4 = some m.cls := findClass_of_methodNamed B.named
  have hlocks := B.notSynchronized
  have hS : va_S (fun _ => False) s.heap s.heap [] := va_S.rf
  have hl := lv_entry ([.float x0]) (n := 1) (Nat.le_of_ble_eq_true rfl)
  rw [lg_entry_eq]
  generalize (lg_sl ([.float x0]) ++ List.replicate (1 - (lg_sl ([.float x0])).length) Slot.unset).toArray = ls at hl ⊢
  have hl : lv_has ls 1 [(0, .float x0)] := hl
  rw [mf_X4_isDeep] at hr
  refine lv_fload_n hx hb dX4_isDeep_0 rfl (lv_at hl 0 rfl) ?_
  refine lv_ldcf hx hb hown (hts (.constantFloat RX4 124 (1064514355)) (List.mem_of_getElem? (i := 1) rfl)) dX4_isDeep_1 ?_
  refine lv_fcmp hx hb dX4_isDeep_3 ?_
  refine lv_if_lt (tgt := 11) hx hb dX4_isDeep_4 (by decide) (fun c_1 => ?_) (fun c_1 => ?_)
  · have hr := hr.trans (if_pos c_1)
    refine lv_iconst (v := (0 : Int32)) hx hb dX4_isDeep_11 (by decide) ?_
    subst hr
    exact W.zret (ty := .boolean) hx hb hrt (by decide) (fun t ht hW => ⟨_, rfl, rfl, ht⟩) (fun q hq => absurd hq List.not_mem_nil) dX4_isDeep_12
  · have hr := hr.trans (if_neg c_1)
    refine lv_iconst (v := (1 : Int32)) hx hb dX4_isDeep_7 (by decide) ?_
    refine lv_goto (tgt := 12) hx hb dX4_isDeep_8 (by decide) ?_
    subst hr
    exact W.zret (ty := .boolean) hx hb hrt (by decide) (fun t ht hW => ⟨_, rfl, rfl, ht⟩) (fun q hq => absurd hq List.not_mem_nil) dX4_isDeep_12

set_option maxHeartbeats 4000000 in
set_option maxRecDepth 100000 in
theorem k_X4_isClosed (l : Launch) (D : va_G) (Y : Nat → ClassId) (x0 : Int32) (x1 : Int32) (R : Int32) (hr : R = mf_X4_isClosed x0 x1) : Met l yX4_isClosed wsX4_isClosed ({ frames := 0, cells := 0, slots := 0, locals := 0 } : Room) (va_Pc [.int x0, .int x1] (PR D Y [])) (vp_Si (fun x => x = R)) 0 0 (fun _ => False) := by
  refine Met.ofW (cc := cX4_isClosed) (maxL := 3) (ret := (some .boolean)) (by decide) rfl ?_
  intro p e s m args below meth c s₁ B hml hv
  obtain ⟨rfl, hP, hK, hN, hZ⟩ := hv
  have hx := B.exec
  have hb := B.bytes
  have hrt := B.returns
  have hts := atoms_spec (ws := wsX4_isClosed) B.pre
  have hown : s.vm.findClass RX4 = some m.cls := findClass_of_methodNamed B.named
  have hlocks := B.notSynchronized
  obtain ⟨t_hi, hZ_hi, hT_hi⟩ := hZ.2.1
  obtain ⟨t_lo, hZ_lo, hT_lo⟩ := hZ.1
  have hS : va_S (fun _ => False) s.heap s.heap [] := va_S.rf
  have hl := lv_entry ([.int x0, .int x1]) (n := 3) (Nat.le_of_ble_eq_true rfl)
  rw [lg_entry_eq]
  generalize (lg_sl ([.int x0, .int x1]) ++ List.replicate (3 - (lg_sl ([.int x0, .int x1])).length) Slot.unset).toArray = ls at hl ⊢
  have hl : lv_has ls 3 [(0, .int x0), (1, .int x1)] := hl
  have B44 : ∀ (ls : Array Slot), R = mf_X4_isClosed_B44  → lv_has ls 3 [] → W p l e ({ frames := 0, cells := 0, slots := 0, locals := 0 } : Room) s m ([.int x0, .int x1] : List Value).toArray below meth c s.heap [] 0 0 (MQ below (vp_Si (fun x => x = R)) ([.int x0, .int x1] : List Value).toArray s 0 0 (fun _ => False)) (F0 m 44 ls []) := by
    intro ls hr hl
    rw [mf_X4_isClosed_B44] at hr
    refine lv_iconst (v := (1 : Int32)) hx hb dX4_isClosed_44 (by decide) ?_
    refine lv_goto (tgt := 49) hx hb dX4_isClosed_45 (by decide) ?_
    subst hr
    exact W.zret (ty := .boolean) hx hb hrt (by decide) (fun t ht hW => ⟨_, rfl, rfl, ht⟩) (fun q hq => absurd hq List.not_mem_nil) dX4_isClosed_49
  rw [mf_X4_isClosed] at hr
  refine lv_iload_n hx hb dX4_isClosed_0 rfl (lv_at hl 1 rfl) ?_
  refine lv_iconst (v := (1 : Int32)) hx hb dX4_isClosed_1 (by decide) ?_
  refine lv_isub hx hb dX4_isClosed_2 ?_
  refine lv_istore_n (lv' := [(2, .int (x1 - (1 : Int32))), (0, .int x0), (1, .int x1)]) hx hb dX4_isClosed_3 rfl hl (by decide) rfl (fun ls hl => ?_)
  refine lv_iload_n hx hb dX4_isClosed_4 rfl (lv_at hl 0 rfl) ?_
  refine lv_if_lt (tgt := 24) hx hb dX4_isClosed_5 (by decide) (fun c_1 => ?_) (fun c_1 => ?_)
  · have hr := hr.trans (if_pos c_1)
    refine lv_iconst (v := (0 : Int32)) hx hb dX4_isClosed_24 (by decide) ?_
    subst hr
    exact W.zret (ty := .boolean) hx hb hrt (by decide) (fun t ht hW => ⟨_, rfl, rfl, ht⟩) (fun q hq => absurd hq List.not_mem_nil) dX4_isClosed_25
  · have hr := hr.trans (if_neg c_1)
    refine lv_iload_n hx hb dX4_isClosed_8 rfl (lv_at hl 0 rfl) ?_
    refine va_gets hx hb hZ_lo hS hown (hts (.fieldLink RX4 150 "ShiftMaps$State" "LOWER_CLUTCH" "[I") (List.mem_of_getElem? (i := 1) rfl)) (fun _ h9 => h9) dX4_isClosed_9 ?_
    refine va_tlen (v := (5 : Int32)) hx hb hT_lo hS rfl dX4_isClosed_12 ?_
    refine lv_icmp_ge (tgt := 24) hx hb dX4_isClosed_13 (by decide) (fun c_2 => ?_) (fun c_2 => ?_)
    · have hr := hr.trans (if_pos c_2)
      refine lv_iconst (v := (0 : Int32)) hx hb dX4_isClosed_24 (by decide) ?_
      subst hr
      exact W.zret (ty := .boolean) hx hb hrt (by decide) (fun t ht hW => ⟨_, rfl, rfl, ht⟩) (fun q hq => absurd hq List.not_mem_nil) dX4_isClosed_25
    · have hr := hr.trans (if_neg c_2)
      refine lv_iload_n hx hb dX4_isClosed_16 rfl (lv_at hl 0 rfl) ?_
      refine va_gets hx hb hZ_hi hS hown (hts (.fieldLink RX4 153 "ShiftMaps$State" "HIGHER_CLUTCH" "[I") (List.mem_of_getElem? (i := 2) rfl)) (fun _ h9 => h9) dX4_isClosed_17 ?_
      refine va_tlen (v := (5 : Int32)) hx hb hT_hi hS rfl dX4_isClosed_20 ?_
      refine lv_icmp_lt (tgt := 26) hx hb dX4_isClosed_21 (by decide) (fun c_3 => ?_) (fun c_3 => ?_)
      · have hr := hr.trans (if_pos c_3)
        refine lv_iload_n hx hb dX4_isClosed_26 rfl (lv_at hl 1 rfl) ?_
        refine va_gets hx hb hZ_lo hS hown (hts (.fieldLink RX4 150 "ShiftMaps$State" "LOWER_CLUTCH" "[I") (List.mem_of_getElem? (i := 1) rfl)) (fun _ h9 => h9) dX4_isClosed_27 ?_
        refine lv_iload_n hx hb dX4_isClosed_30 rfl (lv_at hl 0 rfl) ?_
        refine va_ti (v := .int (tb_lo (x1 - (1 : Int32)).toNatClampNeg)) hx hb hT_lo hS (in_of2 (y := (5 : Int32)) rfl (by decide) c_1 c_3) rfl dX4_isClosed_31 ?_
        refine lv_icmp_eq (tgt := 44) hx hb dX4_isClosed_32 (by decide) (fun c_4 => ?_) (fun c_4 => ?_)
        · have hr := hr.trans (if_pos c_4)
          exact B44  _ hr (lv_sub hl [] rfl)
        · have hr := hr.trans (if_neg c_4)
          refine lv_iload_n hx hb dX4_isClosed_35 rfl (lv_at hl 1 rfl) ?_
          refine va_gets hx hb hZ_hi hS hown (hts (.fieldLink RX4 153 "ShiftMaps$State" "HIGHER_CLUTCH" "[I") (List.mem_of_getElem? (i := 2) rfl)) (fun _ h9 => h9) dX4_isClosed_36 ?_
          refine lv_iload_n hx hb dX4_isClosed_39 rfl (lv_at hl 0 rfl) ?_
          refine va_ti (v := .int (tb_hi (x1 - (1 : Int32)).toNatClampNeg)) hx hb hT_hi hS (in_of2 (y := (5 : Int32)) rfl (by decide) c_1 c_3) rfl dX4_isClosed_40 ?_
          refine lv_icmp_ne (tgt := 48) hx hb dX4_isClosed_41 (by decide) (fun c_5 => ?_) (fun c_5 => ?_)
          · have hr := hr.trans (if_neg c_5)
            refine lv_iconst (v := (0 : Int32)) hx hb dX4_isClosed_48 (by decide) ?_
            subst hr
            exact W.zret (ty := .boolean) hx hb hrt (by decide) (fun t ht hW => ⟨_, rfl, rfl, ht⟩) (fun q hq => absurd hq List.not_mem_nil) dX4_isClosed_49
          · have hr := hr.trans (if_pos c_5)
            exact B44  _ hr (lv_sub hl [] rfl)
      · have hr := hr.trans (if_neg c_3)
        refine lv_iconst (v := (0 : Int32)) hx hb dX4_isClosed_24 (by decide) ?_
        subst hr
        exact W.zret (ty := .boolean) hx hb hrt (by decide) (fun t ht hW => ⟨_, rfl, rfl, ht⟩) (fun q hq => absurd hq List.not_mem_nil) dX4_isClosed_25

set_option maxHeartbeats 4000000 in
set_option maxRecDepth 100000 in
theorem k_X4_closedOnlyIn (l : Launch) (D : va_G) (Y : Nat → ClassId) (x0 : Int32) (x1 : Int32) (R : Int32) (hr : R = mf_X4_closedOnlyIn x0 x1) : Met l yX4_closedOnlyIn wsX4_closedOnlyIn ({ frames := 1, cells := 0, slots := 0, locals := 22 } : Room) (va_Pc [.int x0, .int x1] (PR D Y [])) (vp_Si (fun x => x = R)) 0 0 (fun _ => False) := by
  refine Met.ofW (cc := cX4_closedOnlyIn) (maxL := 3) (ret := (some .int)) (by decide) rfl ?_
  intro p e s m args below meth c s₁ B hml hv
  obtain ⟨rfl, hP, hK, hN, hZ⟩ := hv
  have hx := B.exec
  have hb := B.bytes
  have hrt := B.returns
  have hts := atoms_spec (ws := wsX4_closedOnlyIn) B.pre
  have hown : s.vm.findClass RX4 = some m.cls := findClass_of_methodNamed B.named
  have hlocks := B.notSynchronized
  have hS : va_S (fun _ => False) s.heap s.heap [] := va_S.rf
  have hl := lv_entry ([.int x0, .int x1]) (n := 3) (Nat.le_of_ble_eq_true rfl)
  rw [lg_entry_eq]
  generalize (lg_sl ([.int x0, .int x1]) ++ List.replicate (3 - (lg_sl ([.int x0, .int x1])).length) Slot.unset).toArray = ls at hl ⊢
  have hl : lv_has ls 3 [(0, .int x0), (1, .int x1)] := hl
  have B2_5 : ∀ (z0 : Int32) (z1 : Int32) (ls : Array Slot), R = mf_X4_closedOnlyIn_B2_5 z0 z1 → lv_has ls 3 [(0, .int z0), (1, .int z1), (2, .int (5 : Int32))] → W p l e ({ frames := 1, cells := 0, slots := 0, locals := 22 } : Room) s m ([.int x0, .int x1] : List Value).toArray below meth c s.heap [] 0 0 (MQ below (vp_Si (fun x => x = R)) ([.int x0, .int x1] : List Value).toArray s 0 0 (fun _ => False)) (F0 m 2 ls []) := by
    intro z0 z1 ls hr hl
    rw [mf_X4_closedOnlyIn_B2_5] at hr
    refine lv_iload_n hx hb dX4_closedOnlyIn_2 rfl (lv_at hl 2 rfl) ?_
    refine lv_iconst (v := (5 : Int32)) hx hb dX4_closedOnlyIn_3 (by decide) ?_
    refine lv_icmp_ge (tgt := 31) hx hb dX4_closedOnlyIn_4 (by decide) (fun _ => ?_) (fun hc => absurd hc (by decide))
    refine lv_bipush (v := (-5 : Int32)) hx hb dX4_closedOnlyIn_31 (by decide) ?_
    subst hr
    exact W.iret hx hb hrt (fun t ht hW => ⟨_, rfl, rfl, ht⟩) (fun q hq => absurd hq List.not_mem_nil) dX4_closedOnlyIn_33
  have B25_4 : ∀ (z0 : Int32) (z1 : Int32) (ls : Array Slot), R = mf_X4_closedOnlyIn_B25_4 z0 z1 → lv_has ls 3 [(0, .int z0), (1, .int z1), (2, .int (4 : Int32))] → W p l e ({ frames := 1, cells := 0, slots := 0, locals := 22 } : Room) s m ([.int x0, .int x1] : List Value).toArray below meth c s.heap [] 0 0 (MQ below (vp_Si (fun x => x = R)) ([.int x0, .int x1] : List Value).toArray s 0 0 (fun _ => False)) (F0 m 25 ls []) := by
    intro z0 z1 ls hr hl
    rw [mf_X4_closedOnlyIn_B25_4] at hr
    refine lv_iinc (v := (5 : Int32)) (lv' := [(2, .int (5 : Int32)), (0, .int z0), (1, .int z1)]) hx hb dX4_closedOnlyIn_25 hl (k := 2) rfl (by decide) (by decide) rfl (fun ls hl => ?_)
    refine lv_goto (tgt := 2) hx hb dX4_closedOnlyIn_28 (by decide) ?_
    exact B2_5 z0 z1 _ hr (lv_sub hl [1, 2, 0] rfl)
  have B2_4 : ∀ (z0 : Int32) (z1 : Int32) (ls : Array Slot), R = mf_X4_closedOnlyIn_B2_4 z0 z1 → lv_has ls 3 [(0, .int z0), (1, .int z1), (2, .int (4 : Int32))] → W p l e ({ frames := 1, cells := 0, slots := 0, locals := 22 } : Room) s m ([.int x0, .int x1] : List Value).toArray below meth c s.heap [] 0 0 (MQ below (vp_Si (fun x => x = R)) ([.int x0, .int x1] : List Value).toArray s 0 0 (fun _ => False)) (F0 m 2 ls []) := by
    intro z0 z1 ls hr hl
    rw [mf_X4_closedOnlyIn_B2_4] at hr
    refine lv_iload_n hx hb dX4_closedOnlyIn_2 rfl (lv_at hl 2 rfl) ?_
    refine lv_iconst (v := (5 : Int32)) hx hb dX4_closedOnlyIn_3 (by decide) ?_
    refine lv_icmp_ge (tgt := 31) hx hb dX4_closedOnlyIn_4 (by decide) (fun hc => absurd hc (by decide)) (fun _ => ?_)
    refine lv_iload_n hx hb dX4_closedOnlyIn_7 rfl (lv_at hl 2 rfl) ?_
    refine lv_iload_n hx hb dX4_closedOnlyIn_8 rfl (lv_at hl 0 rfl) ?_
    refine nmv hr (fun r_13 e_14 hr => ?_)
    refine roS_i (As := [.int (4 : Int32), .int z0]) (rest := []) ⟨hx, hb, hml, hown, hts⟩ (k_X4_isClosed l D Y  (4 : Int32) z0 r_13 e_14) (va_cwS 2 hts gX4_closedOnlyIn_X4_isClosed rfl rfl rfl (by decide +kernel) ⟨Nat.le_of_ble_eq_true rfl, Nat.le_of_ble_eq_true rfl⟩) (hP.sub (ws' := []) [] rfl) hK hN hZ rfl hl.1 rfl (Nat.le_of_ble_eq_true rfl) dX4_closedOnlyIn_9 ⟨Nat.le_refl 0, Nat.le_refl 0⟩ ?_
    refine lv_if_eq (tgt := 25) hx hb dX4_closedOnlyIn_12 (by decide) (fun c_15 => ?_) (fun c_15 => ?_)
    · have hr := hr.trans (if_pos c_15)
      exact B25_4 z0 z1 _ hr (lv_sub hl [0, 1, 2] rfl)
    · have hr := hr.trans (if_neg c_15)
      refine lv_iload_n hx hb dX4_closedOnlyIn_15 rfl (lv_at hl 2 rfl) ?_
      refine lv_iload_n hx hb dX4_closedOnlyIn_16 rfl (lv_at hl 1 rfl) ?_
      refine nmv hr (fun r_16 e_17 hr => ?_)
      refine roS_i (As := [.int (4 : Int32), .int z1]) (rest := []) ⟨hx, hb, hml, hown, hts⟩ (k_X4_isClosed l D Y  (4 : Int32) z1 r_16 e_17) (va_cwS 2 hts gX4_closedOnlyIn_X4_isClosed rfl rfl rfl (by decide +kernel) ⟨Nat.le_of_ble_eq_true rfl, Nat.le_of_ble_eq_true rfl⟩) (hP.sub (ws' := []) [] rfl) hK hN hZ rfl hl.1 rfl (Nat.le_of_ble_eq_true rfl) dX4_closedOnlyIn_17 ⟨Nat.le_refl 0, Nat.le_refl 0⟩ ?_
      refine lv_if_ne (tgt := 25) hx hb dX4_closedOnlyIn_20 (by decide) (fun c_18 => ?_) (fun c_18 => ?_)
      · have hr := hr.trans (if_neg c_18)
        exact B25_4 z0 z1 _ hr (lv_sub hl [0, 1, 2] rfl)
      · have hr := hr.trans (if_pos c_18)
        refine lv_iload_n hx hb dX4_closedOnlyIn_23 rfl (lv_at hl 2 rfl) ?_
        subst hr
        exact W.iret hx hb hrt (fun t ht hW => ⟨_, rfl, rfl, ht⟩) (fun q hq => absurd hq List.not_mem_nil) dX4_closedOnlyIn_24
  have B25_3 : ∀ (z0 : Int32) (z1 : Int32) (ls : Array Slot), R = mf_X4_closedOnlyIn_B25_3 z0 z1 → lv_has ls 3 [(0, .int z0), (1, .int z1), (2, .int (3 : Int32))] → W p l e ({ frames := 1, cells := 0, slots := 0, locals := 22 } : Room) s m ([.int x0, .int x1] : List Value).toArray below meth c s.heap [] 0 0 (MQ below (vp_Si (fun x => x = R)) ([.int x0, .int x1] : List Value).toArray s 0 0 (fun _ => False)) (F0 m 25 ls []) := by
    intro z0 z1 ls hr hl
    rw [mf_X4_closedOnlyIn_B25_3] at hr
    refine lv_iinc (v := (4 : Int32)) (lv' := [(2, .int (4 : Int32)), (0, .int z0), (1, .int z1)]) hx hb dX4_closedOnlyIn_25 hl (k := 2) rfl (by decide) (by decide) rfl (fun ls hl => ?_)
    refine lv_goto (tgt := 2) hx hb dX4_closedOnlyIn_28 (by decide) ?_
    exact B2_4 z0 z1 _ hr (lv_sub hl [1, 2, 0] rfl)
  have B2_3 : ∀ (z0 : Int32) (z1 : Int32) (ls : Array Slot), R = mf_X4_closedOnlyIn_B2_3 z0 z1 → lv_has ls 3 [(0, .int z0), (1, .int z1), (2, .int (3 : Int32))] → W p l e ({ frames := 1, cells := 0, slots := 0, locals := 22 } : Room) s m ([.int x0, .int x1] : List Value).toArray below meth c s.heap [] 0 0 (MQ below (vp_Si (fun x => x = R)) ([.int x0, .int x1] : List Value).toArray s 0 0 (fun _ => False)) (F0 m 2 ls []) := by
    intro z0 z1 ls hr hl
    rw [mf_X4_closedOnlyIn_B2_3] at hr
    refine lv_iload_n hx hb dX4_closedOnlyIn_2 rfl (lv_at hl 2 rfl) ?_
    refine lv_iconst (v := (5 : Int32)) hx hb dX4_closedOnlyIn_3 (by decide) ?_
    refine lv_icmp_ge (tgt := 31) hx hb dX4_closedOnlyIn_4 (by decide) (fun hc => absurd hc (by decide)) (fun _ => ?_)
    refine lv_iload_n hx hb dX4_closedOnlyIn_7 rfl (lv_at hl 2 rfl) ?_
    refine lv_iload_n hx hb dX4_closedOnlyIn_8 rfl (lv_at hl 0 rfl) ?_
    refine nmv hr (fun r_10 e_11 hr => ?_)
    refine roS_i (As := [.int (3 : Int32), .int z0]) (rest := []) ⟨hx, hb, hml, hown, hts⟩ (k_X4_isClosed l D Y  (3 : Int32) z0 r_10 e_11) (va_cwS 2 hts gX4_closedOnlyIn_X4_isClosed rfl rfl rfl (by decide +kernel) ⟨Nat.le_of_ble_eq_true rfl, Nat.le_of_ble_eq_true rfl⟩) (hP.sub (ws' := []) [] rfl) hK hN hZ rfl hl.1 rfl (Nat.le_of_ble_eq_true rfl) dX4_closedOnlyIn_9 ⟨Nat.le_refl 0, Nat.le_refl 0⟩ ?_
    refine lv_if_eq (tgt := 25) hx hb dX4_closedOnlyIn_12 (by decide) (fun c_12 => ?_) (fun c_12 => ?_)
    · have hr := hr.trans (if_pos c_12)
      exact B25_3 z0 z1 _ hr (lv_sub hl [0, 1, 2] rfl)
    · have hr := hr.trans (if_neg c_12)
      refine lv_iload_n hx hb dX4_closedOnlyIn_15 rfl (lv_at hl 2 rfl) ?_
      refine lv_iload_n hx hb dX4_closedOnlyIn_16 rfl (lv_at hl 1 rfl) ?_
      refine nmv hr (fun r_19 e_20 hr => ?_)
      refine roS_i (As := [.int (3 : Int32), .int z1]) (rest := []) ⟨hx, hb, hml, hown, hts⟩ (k_X4_isClosed l D Y  (3 : Int32) z1 r_19 e_20) (va_cwS 2 hts gX4_closedOnlyIn_X4_isClosed rfl rfl rfl (by decide +kernel) ⟨Nat.le_of_ble_eq_true rfl, Nat.le_of_ble_eq_true rfl⟩) (hP.sub (ws' := []) [] rfl) hK hN hZ rfl hl.1 rfl (Nat.le_of_ble_eq_true rfl) dX4_closedOnlyIn_17 ⟨Nat.le_refl 0, Nat.le_refl 0⟩ ?_
      refine lv_if_ne (tgt := 25) hx hb dX4_closedOnlyIn_20 (by decide) (fun c_21 => ?_) (fun c_21 => ?_)
      · have hr := hr.trans (if_neg c_21)
        exact B25_3 z0 z1 _ hr (lv_sub hl [0, 1, 2] rfl)
      · have hr := hr.trans (if_pos c_21)
        refine lv_iload_n hx hb dX4_closedOnlyIn_23 rfl (lv_at hl 2 rfl) ?_
        subst hr
        exact W.iret hx hb hrt (fun t ht hW => ⟨_, rfl, rfl, ht⟩) (fun q hq => absurd hq List.not_mem_nil) dX4_closedOnlyIn_24
  have B25_2 : ∀ (z0 : Int32) (z1 : Int32) (ls : Array Slot), R = mf_X4_closedOnlyIn_B25_2 z0 z1 → lv_has ls 3 [(0, .int z0), (1, .int z1), (2, .int (2 : Int32))] → W p l e ({ frames := 1, cells := 0, slots := 0, locals := 22 } : Room) s m ([.int x0, .int x1] : List Value).toArray below meth c s.heap [] 0 0 (MQ below (vp_Si (fun x => x = R)) ([.int x0, .int x1] : List Value).toArray s 0 0 (fun _ => False)) (F0 m 25 ls []) := by
    intro z0 z1 ls hr hl
    rw [mf_X4_closedOnlyIn_B25_2] at hr
    refine lv_iinc (v := (3 : Int32)) (lv' := [(2, .int (3 : Int32)), (0, .int z0), (1, .int z1)]) hx hb dX4_closedOnlyIn_25 hl (k := 2) rfl (by decide) (by decide) rfl (fun ls hl => ?_)
    refine lv_goto (tgt := 2) hx hb dX4_closedOnlyIn_28 (by decide) ?_
    exact B2_3 z0 z1 _ hr (lv_sub hl [1, 2, 0] rfl)
  have B2_2 : ∀ (z0 : Int32) (z1 : Int32) (ls : Array Slot), R = mf_X4_closedOnlyIn_B2_2 z0 z1 → lv_has ls 3 [(0, .int z0), (1, .int z1), (2, .int (2 : Int32))] → W p l e ({ frames := 1, cells := 0, slots := 0, locals := 22 } : Room) s m ([.int x0, .int x1] : List Value).toArray below meth c s.heap [] 0 0 (MQ below (vp_Si (fun x => x = R)) ([.int x0, .int x1] : List Value).toArray s 0 0 (fun _ => False)) (F0 m 2 ls []) := by
    intro z0 z1 ls hr hl
    rw [mf_X4_closedOnlyIn_B2_2] at hr
    refine lv_iload_n hx hb dX4_closedOnlyIn_2 rfl (lv_at hl 2 rfl) ?_
    refine lv_iconst (v := (5 : Int32)) hx hb dX4_closedOnlyIn_3 (by decide) ?_
    refine lv_icmp_ge (tgt := 31) hx hb dX4_closedOnlyIn_4 (by decide) (fun hc => absurd hc (by decide)) (fun _ => ?_)
    refine lv_iload_n hx hb dX4_closedOnlyIn_7 rfl (lv_at hl 2 rfl) ?_
    refine lv_iload_n hx hb dX4_closedOnlyIn_8 rfl (lv_at hl 0 rfl) ?_
    refine nmv hr (fun r_7 e_8 hr => ?_)
    refine roS_i (As := [.int (2 : Int32), .int z0]) (rest := []) ⟨hx, hb, hml, hown, hts⟩ (k_X4_isClosed l D Y  (2 : Int32) z0 r_7 e_8) (va_cwS 2 hts gX4_closedOnlyIn_X4_isClosed rfl rfl rfl (by decide +kernel) ⟨Nat.le_of_ble_eq_true rfl, Nat.le_of_ble_eq_true rfl⟩) (hP.sub (ws' := []) [] rfl) hK hN hZ rfl hl.1 rfl (Nat.le_of_ble_eq_true rfl) dX4_closedOnlyIn_9 ⟨Nat.le_refl 0, Nat.le_refl 0⟩ ?_
    refine lv_if_eq (tgt := 25) hx hb dX4_closedOnlyIn_12 (by decide) (fun c_9 => ?_) (fun c_9 => ?_)
    · have hr := hr.trans (if_pos c_9)
      exact B25_2 z0 z1 _ hr (lv_sub hl [0, 1, 2] rfl)
    · have hr := hr.trans (if_neg c_9)
      refine lv_iload_n hx hb dX4_closedOnlyIn_15 rfl (lv_at hl 2 rfl) ?_
      refine lv_iload_n hx hb dX4_closedOnlyIn_16 rfl (lv_at hl 1 rfl) ?_
      refine nmv hr (fun r_22 e_23 hr => ?_)
      refine roS_i (As := [.int (2 : Int32), .int z1]) (rest := []) ⟨hx, hb, hml, hown, hts⟩ (k_X4_isClosed l D Y  (2 : Int32) z1 r_22 e_23) (va_cwS 2 hts gX4_closedOnlyIn_X4_isClosed rfl rfl rfl (by decide +kernel) ⟨Nat.le_of_ble_eq_true rfl, Nat.le_of_ble_eq_true rfl⟩) (hP.sub (ws' := []) [] rfl) hK hN hZ rfl hl.1 rfl (Nat.le_of_ble_eq_true rfl) dX4_closedOnlyIn_17 ⟨Nat.le_refl 0, Nat.le_refl 0⟩ ?_
      refine lv_if_ne (tgt := 25) hx hb dX4_closedOnlyIn_20 (by decide) (fun c_24 => ?_) (fun c_24 => ?_)
      · have hr := hr.trans (if_neg c_24)
        exact B25_2 z0 z1 _ hr (lv_sub hl [0, 1, 2] rfl)
      · have hr := hr.trans (if_pos c_24)
        refine lv_iload_n hx hb dX4_closedOnlyIn_23 rfl (lv_at hl 2 rfl) ?_
        subst hr
        exact W.iret hx hb hrt (fun t ht hW => ⟨_, rfl, rfl, ht⟩) (fun q hq => absurd hq List.not_mem_nil) dX4_closedOnlyIn_24
  have B25_1 : ∀ (z0 : Int32) (z1 : Int32) (ls : Array Slot), R = mf_X4_closedOnlyIn_B25_1 z0 z1 → lv_has ls 3 [(0, .int z0), (1, .int z1), (2, .int (1 : Int32))] → W p l e ({ frames := 1, cells := 0, slots := 0, locals := 22 } : Room) s m ([.int x0, .int x1] : List Value).toArray below meth c s.heap [] 0 0 (MQ below (vp_Si (fun x => x = R)) ([.int x0, .int x1] : List Value).toArray s 0 0 (fun _ => False)) (F0 m 25 ls []) := by
    intro z0 z1 ls hr hl
    rw [mf_X4_closedOnlyIn_B25_1] at hr
    refine lv_iinc (v := (2 : Int32)) (lv' := [(2, .int (2 : Int32)), (0, .int z0), (1, .int z1)]) hx hb dX4_closedOnlyIn_25 hl (k := 2) rfl (by decide) (by decide) rfl (fun ls hl => ?_)
    refine lv_goto (tgt := 2) hx hb dX4_closedOnlyIn_28 (by decide) ?_
    exact B2_2 z0 z1 _ hr (lv_sub hl [1, 2, 0] rfl)
  have B2_1 : ∀ (z0 : Int32) (z1 : Int32) (ls : Array Slot), R = mf_X4_closedOnlyIn_B2_1 z0 z1 → lv_has ls 3 [(0, .int z0), (1, .int z1), (2, .int (1 : Int32))] → W p l e ({ frames := 1, cells := 0, slots := 0, locals := 22 } : Room) s m ([.int x0, .int x1] : List Value).toArray below meth c s.heap [] 0 0 (MQ below (vp_Si (fun x => x = R)) ([.int x0, .int x1] : List Value).toArray s 0 0 (fun _ => False)) (F0 m 2 ls []) := by
    intro z0 z1 ls hr hl
    rw [mf_X4_closedOnlyIn_B2_1] at hr
    refine lv_iload_n hx hb dX4_closedOnlyIn_2 rfl (lv_at hl 2 rfl) ?_
    refine lv_iconst (v := (5 : Int32)) hx hb dX4_closedOnlyIn_3 (by decide) ?_
    refine lv_icmp_ge (tgt := 31) hx hb dX4_closedOnlyIn_4 (by decide) (fun hc => absurd hc (by decide)) (fun _ => ?_)
    refine lv_iload_n hx hb dX4_closedOnlyIn_7 rfl (lv_at hl 2 rfl) ?_
    refine lv_iload_n hx hb dX4_closedOnlyIn_8 rfl (lv_at hl 0 rfl) ?_
    refine nmv hr (fun r_4 e_5 hr => ?_)
    refine roS_i (As := [.int (1 : Int32), .int z0]) (rest := []) ⟨hx, hb, hml, hown, hts⟩ (k_X4_isClosed l D Y  (1 : Int32) z0 r_4 e_5) (va_cwS 2 hts gX4_closedOnlyIn_X4_isClosed rfl rfl rfl (by decide +kernel) ⟨Nat.le_of_ble_eq_true rfl, Nat.le_of_ble_eq_true rfl⟩) (hP.sub (ws' := []) [] rfl) hK hN hZ rfl hl.1 rfl (Nat.le_of_ble_eq_true rfl) dX4_closedOnlyIn_9 ⟨Nat.le_refl 0, Nat.le_refl 0⟩ ?_
    refine lv_if_eq (tgt := 25) hx hb dX4_closedOnlyIn_12 (by decide) (fun c_6 => ?_) (fun c_6 => ?_)
    · have hr := hr.trans (if_pos c_6)
      exact B25_1 z0 z1 _ hr (lv_sub hl [0, 1, 2] rfl)
    · have hr := hr.trans (if_neg c_6)
      refine lv_iload_n hx hb dX4_closedOnlyIn_15 rfl (lv_at hl 2 rfl) ?_
      refine lv_iload_n hx hb dX4_closedOnlyIn_16 rfl (lv_at hl 1 rfl) ?_
      refine nmv hr (fun r_25 e_26 hr => ?_)
      refine roS_i (As := [.int (1 : Int32), .int z1]) (rest := []) ⟨hx, hb, hml, hown, hts⟩ (k_X4_isClosed l D Y  (1 : Int32) z1 r_25 e_26) (va_cwS 2 hts gX4_closedOnlyIn_X4_isClosed rfl rfl rfl (by decide +kernel) ⟨Nat.le_of_ble_eq_true rfl, Nat.le_of_ble_eq_true rfl⟩) (hP.sub (ws' := []) [] rfl) hK hN hZ rfl hl.1 rfl (Nat.le_of_ble_eq_true rfl) dX4_closedOnlyIn_17 ⟨Nat.le_refl 0, Nat.le_refl 0⟩ ?_
      refine lv_if_ne (tgt := 25) hx hb dX4_closedOnlyIn_20 (by decide) (fun c_27 => ?_) (fun c_27 => ?_)
      · have hr := hr.trans (if_neg c_27)
        exact B25_1 z0 z1 _ hr (lv_sub hl [0, 1, 2] rfl)
      · have hr := hr.trans (if_pos c_27)
        refine lv_iload_n hx hb dX4_closedOnlyIn_23 rfl (lv_at hl 2 rfl) ?_
        subst hr
        exact W.iret hx hb hrt (fun t ht hW => ⟨_, rfl, rfl, ht⟩) (fun q hq => absurd hq List.not_mem_nil) dX4_closedOnlyIn_24
  have B25_0 : ∀ (z0 : Int32) (z1 : Int32) (ls : Array Slot), R = mf_X4_closedOnlyIn_B25_0 z0 z1 → lv_has ls 3 [(0, .int z0), (1, .int z1), (2, .int (0 : Int32))] → W p l e ({ frames := 1, cells := 0, slots := 0, locals := 22 } : Room) s m ([.int x0, .int x1] : List Value).toArray below meth c s.heap [] 0 0 (MQ below (vp_Si (fun x => x = R)) ([.int x0, .int x1] : List Value).toArray s 0 0 (fun _ => False)) (F0 m 25 ls []) := by
    intro z0 z1 ls hr hl
    rw [mf_X4_closedOnlyIn_B25_0] at hr
    refine lv_iinc (v := (1 : Int32)) (lv' := [(2, .int (1 : Int32)), (0, .int z0), (1, .int z1)]) hx hb dX4_closedOnlyIn_25 hl (k := 2) rfl (by decide) (by decide) rfl (fun ls hl => ?_)
    refine lv_goto (tgt := 2) hx hb dX4_closedOnlyIn_28 (by decide) ?_
    exact B2_1 z0 z1 _ hr (lv_sub hl [1, 2, 0] rfl)
  have B2_0 : ∀ (z0 : Int32) (z1 : Int32) (ls : Array Slot), R = mf_X4_closedOnlyIn_B2_0 z0 z1 → lv_has ls 3 [(0, .int z0), (1, .int z1), (2, .int (0 : Int32))] → W p l e ({ frames := 1, cells := 0, slots := 0, locals := 22 } : Room) s m ([.int x0, .int x1] : List Value).toArray below meth c s.heap [] 0 0 (MQ below (vp_Si (fun x => x = R)) ([.int x0, .int x1] : List Value).toArray s 0 0 (fun _ => False)) (F0 m 2 ls []) := by
    intro z0 z1 ls hr hl
    rw [mf_X4_closedOnlyIn_B2_0] at hr
    refine lv_iload_n hx hb dX4_closedOnlyIn_2 rfl (lv_at hl 2 rfl) ?_
    refine lv_iconst (v := (5 : Int32)) hx hb dX4_closedOnlyIn_3 (by decide) ?_
    refine lv_icmp_ge (tgt := 31) hx hb dX4_closedOnlyIn_4 (by decide) (fun hc => absurd hc (by decide)) (fun _ => ?_)
    refine lv_iload_n hx hb dX4_closedOnlyIn_7 rfl (lv_at hl 2 rfl) ?_
    refine lv_iload_n hx hb dX4_closedOnlyIn_8 rfl (lv_at hl 0 rfl) ?_
    refine nmv hr (fun r_1 e_2 hr => ?_)
    refine roS_i (As := [.int (0 : Int32), .int z0]) (rest := []) ⟨hx, hb, hml, hown, hts⟩ (k_X4_isClosed l D Y  (0 : Int32) z0 r_1 e_2) (va_cwS 2 hts gX4_closedOnlyIn_X4_isClosed rfl rfl rfl (by decide +kernel) ⟨Nat.le_of_ble_eq_true rfl, Nat.le_of_ble_eq_true rfl⟩) (hP.sub (ws' := []) [] rfl) hK hN hZ rfl hl.1 rfl (Nat.le_of_ble_eq_true rfl) dX4_closedOnlyIn_9 ⟨Nat.le_refl 0, Nat.le_refl 0⟩ ?_
    refine lv_if_eq (tgt := 25) hx hb dX4_closedOnlyIn_12 (by decide) (fun c_3 => ?_) (fun c_3 => ?_)
    · have hr := hr.trans (if_pos c_3)
      exact B25_0 z0 z1 _ hr (lv_sub hl [0, 1, 2] rfl)
    · have hr := hr.trans (if_neg c_3)
      refine lv_iload_n hx hb dX4_closedOnlyIn_15 rfl (lv_at hl 2 rfl) ?_
      refine lv_iload_n hx hb dX4_closedOnlyIn_16 rfl (lv_at hl 1 rfl) ?_
      refine nmv hr (fun r_28 e_29 hr => ?_)
      refine roS_i (As := [.int (0 : Int32), .int z1]) (rest := []) ⟨hx, hb, hml, hown, hts⟩ (k_X4_isClosed l D Y  (0 : Int32) z1 r_28 e_29) (va_cwS 2 hts gX4_closedOnlyIn_X4_isClosed rfl rfl rfl (by decide +kernel) ⟨Nat.le_of_ble_eq_true rfl, Nat.le_of_ble_eq_true rfl⟩) (hP.sub (ws' := []) [] rfl) hK hN hZ rfl hl.1 rfl (Nat.le_of_ble_eq_true rfl) dX4_closedOnlyIn_17 ⟨Nat.le_refl 0, Nat.le_refl 0⟩ ?_
      refine lv_if_ne (tgt := 25) hx hb dX4_closedOnlyIn_20 (by decide) (fun c_30 => ?_) (fun c_30 => ?_)
      · have hr := hr.trans (if_neg c_30)
        exact B25_0 z0 z1 _ hr (lv_sub hl [0, 1, 2] rfl)
      · have hr := hr.trans (if_pos c_30)
        refine lv_iload_n hx hb dX4_closedOnlyIn_23 rfl (lv_at hl 2 rfl) ?_
        subst hr
        exact W.iret hx hb hrt (fun t ht hW => ⟨_, rfl, rfl, ht⟩) (fun q hq => absurd hq List.not_mem_nil) dX4_closedOnlyIn_24
  rw [mf_X4_closedOnlyIn] at hr
  refine lv_iconst (v := (0 : Int32)) hx hb dX4_closedOnlyIn_0 (by decide) ?_
  refine lv_istore_n (lv' := [(2, .int (0 : Int32)), (0, .int x0), (1, .int x1)]) hx hb dX4_closedOnlyIn_1 rfl hl (by decide) rfl (fun ls hl => ?_)
  exact B2_0 x0 x1 _ hr (lv_sub hl [1, 2, 0] rfl)

set_option maxHeartbeats 4000000 in
set_option maxRecDepth 100000 in
theorem k_X4_opening (l : Launch) (D : va_G) (Y : Nat → ClassId) (a0 a1 a2 a3 a4 a5 a6 : Nat) (V : St) (R : Int32) (hr : R = mf_X4_opening V) : Met l yX4_opening wsX4_opening ({ frames := 2, cells := 0, slots := 0, locals := 44 } : Room) (va_Pc [.ref a0] (PR D Y (stW Y a0 a1 a2 a3 a4 a5 a6 V))) (vp_Si (fun x => x = R)) 0 0 (fun _ => False) := by
  refine Met.ofW (cc := cX4_opening) (maxL := 1) (ret := (some .int)) (by decide) rfl ?_
  intro p e s m args below meth c s₁ B hml hv
  obtain ⟨rfl, hP, hK, hN, hZ⟩ := hv
  have hx := B.exec
  have hb := B.bytes
  have hrt := B.returns
  have hts := atoms_spec (ws := wsX4_opening) B.pre
  have hown : s.vm.findClass RX4 = some m.cls := findClass_of_methodNamed B.named
  have hlocks := B.notSynchronized
  have inX4 : ∀ w ∈ u_ws RX4 TX4 11, w ∈ wsX4_opening := uin_at 16 rfl
  have hS : va_S (fun _ => False) s.heap s.heap [] := va_S.rf
  have hl := lv_entry ([.ref a0]) (n := 1) (Nat.le_of_ble_eq_true rfl)
  rw [lg_entry_eq]
  generalize (lg_sl ([.ref a0]) ++ List.replicate (1 - (lg_sl ([.ref a0])).length) Slot.unset).toArray = ls at hl ⊢
  have hl : lv_has ls 1 [(0, .ref a0)] := hl
  rw [mf_X4_opening] at hr
  refine lv_aload_n hx hb dX4_opening_0 rfl (lv_at hl 0 rfl) ?_
  refine nmv hr (fun r_1 e_2 hr => ?_)
  refine roV_i (As := []) (rest := []) ⟨hx, hb, hml, hown, hts⟩ (k_X4_isChanging l D Y a0 a1 a2 a3 a4 a5 a6 V r_1 e_2) (cwV 0 hts gX4_opening_X4_isChanging rfl rfl rfl (by decide +kernel) ⟨Nat.le_of_ble_eq_true rfl, Nat.le_of_ble_eq_true rfl⟩) hP hK hN hZ 0 4 rfl rfl rfl hl.1 rfl (Nat.le_of_ble_eq_true rfl) dX4_opening_1 ⟨Nat.le_refl 0, Nat.le_refl 0⟩ ?_
  refine lv_if_eq (tgt := 21) hx hb dX4_opening_4 (by decide) (fun c_3 => ?_) (fun c_3 => ?_)
  · have hr := hr.trans (if_pos c_3)
    refine lv_bipush (v := (-5 : Int32)) hx hb dX4_opening_21 (by decide) ?_
    subst hr
    exact W.iret hx hb hrt (fun t ht hW => ⟨_, rfl, rfl, ht⟩) (fun q hq => absurd hq List.not_mem_nil) dX4_opening_23
  · have hr := hr.trans (if_neg c_3)
    refine lv_aload_n hx hb dX4_opening_7 rfl (lv_at hl 0 rfl) ?_
    refine va_get (D := D) (ci := 4) (v := .int (v4_gear V)) (C := RX4) (T := TX4) (N := 11) hx hb hts inX4 hown hK hP 0 rfl rfl 4 (by decide) (hts (.fieldLink RX4 35 "ShiftMaps$State" "gear" "I") (List.mem_of_getElem? (i := 1) rfl)) (fun _ h9 => h9) rfl dX4_opening_8 ?_
    refine lv_aload_n hx hb dX4_opening_11 rfl (lv_at hl 0 rfl) ?_
    refine va_get (D := D) (ci := 4) (v := .int (v4_target V)) (C := RX4) (T := TX4) (N := 11) hx hb hts inX4 hown hK hP 0 rfl rfl 5 (by decide) (hts (.fieldLink RX4 39 "ShiftMaps$State" "target" "I") (List.mem_of_getElem? (i := 2) rfl)) (fun _ h9 => h9) rfl dX4_opening_12 ?_
    refine nmv hr (fun r_4 e_5 hr => ?_)
    refine roS_i (As := [.int (v4_gear V), .int (v4_target V)]) (rest := []) ⟨hx, hb, hml, hown, hts⟩ (k_X4_closedOnlyIn l D Y  (v4_gear V) (v4_target V) r_4 e_5) (va_cwS 2 hts gX4_opening_X4_closedOnlyIn rfl rfl rfl (by decide +kernel) ⟨Nat.le_of_ble_eq_true rfl, Nat.le_of_ble_eq_true rfl⟩) (hP.sub (ws' := []) [] rfl) hK hN hZ rfl hl.1 rfl (Nat.le_of_ble_eq_true rfl) dX4_opening_15 ⟨Nat.le_refl 0, Nat.le_refl 0⟩ ?_
    refine lv_goto (tgt := 23) hx hb dX4_opening_18 (by decide) ?_
    subst hr
    exact W.iret hx hb hrt (fun t ht hW => ⟨_, rfl, rfl, ht⟩) (fun q hq => absurd hq List.not_mem_nil) dX4_opening_23

set_option maxHeartbeats 4000000 in
set_option maxRecDepth 100000 in
theorem k_X4_closing (l : Launch) (D : va_G) (Y : Nat → ClassId) (a0 a1 a2 a3 a4 a5 a6 : Nat) (V : St) (R : Int32) (hr : R = mf_X4_closing V) : Met l yX4_closing wsX4_closing ({ frames := 2, cells := 0, slots := 0, locals := 44 } : Room) (va_Pc [.ref a0] (PR D Y (stW Y a0 a1 a2 a3 a4 a5 a6 V))) (vp_Si (fun x => x = R)) 0 0 (fun _ => False) := by
  refine Met.ofW (cc := cX4_closing) (maxL := 1) (ret := (some .int)) (by decide) rfl ?_
  intro p e s m args below meth c s₁ B hml hv
  obtain ⟨rfl, hP, hK, hN, hZ⟩ := hv
  have hx := B.exec
  have hb := B.bytes
  have hrt := B.returns
  have hts := atoms_spec (ws := wsX4_closing) B.pre
  have hown : s.vm.findClass RX4 = some m.cls := findClass_of_methodNamed B.named
  have hlocks := B.notSynchronized
  have inX4 : ∀ w ∈ u_ws RX4 TX4 11, w ∈ wsX4_closing := uin_at 16 rfl
  have hS : va_S (fun _ => False) s.heap s.heap [] := va_S.rf
  have hl := lv_entry ([.ref a0]) (n := 1) (Nat.le_of_ble_eq_true rfl)
  rw [lg_entry_eq]
  generalize (lg_sl ([.ref a0]) ++ List.replicate (1 - (lg_sl ([.ref a0])).length) Slot.unset).toArray = ls at hl ⊢
  have hl : lv_has ls 1 [(0, .ref a0)] := hl
  rw [mf_X4_closing] at hr
  refine lv_aload_n hx hb dX4_closing_0 rfl (lv_at hl 0 rfl) ?_
  refine nmv hr (fun r_1 e_2 hr => ?_)
  refine roV_i (As := []) (rest := []) ⟨hx, hb, hml, hown, hts⟩ (k_X4_isChanging l D Y a0 a1 a2 a3 a4 a5 a6 V r_1 e_2) (cwV 0 hts gX4_closing_X4_isChanging rfl rfl rfl (by decide +kernel) ⟨Nat.le_of_ble_eq_true rfl, Nat.le_of_ble_eq_true rfl⟩) hP hK hN hZ 0 4 rfl rfl rfl hl.1 rfl (Nat.le_of_ble_eq_true rfl) dX4_closing_1 ⟨Nat.le_refl 0, Nat.le_refl 0⟩ ?_
  refine lv_if_eq (tgt := 21) hx hb dX4_closing_4 (by decide) (fun c_3 => ?_) (fun c_3 => ?_)
  · have hr := hr.trans (if_pos c_3)
    refine lv_bipush (v := (-5 : Int32)) hx hb dX4_closing_21 (by decide) ?_
    subst hr
    exact W.iret hx hb hrt (fun t ht hW => ⟨_, rfl, rfl, ht⟩) (fun q hq => absurd hq List.not_mem_nil) dX4_closing_23
  · have hr := hr.trans (if_neg c_3)
    refine lv_aload_n hx hb dX4_closing_7 rfl (lv_at hl 0 rfl) ?_
    refine va_get (D := D) (ci := 4) (v := .int (v4_target V)) (C := RX4) (T := TX4) (N := 11) hx hb hts inX4 hown hK hP 0 rfl rfl 5 (by decide) (hts (.fieldLink RX4 39 "ShiftMaps$State" "target" "I") (List.mem_of_getElem? (i := 1) rfl)) (fun _ h9 => h9) rfl dX4_closing_8 ?_
    refine lv_aload_n hx hb dX4_closing_11 rfl (lv_at hl 0 rfl) ?_
    refine va_get (D := D) (ci := 4) (v := .int (v4_gear V)) (C := RX4) (T := TX4) (N := 11) hx hb hts inX4 hown hK hP 0 rfl rfl 4 (by decide) (hts (.fieldLink RX4 35 "ShiftMaps$State" "gear" "I") (List.mem_of_getElem? (i := 2) rfl)) (fun _ h9 => h9) rfl dX4_closing_12 ?_
    refine nmv hr (fun r_4 e_5 hr => ?_)
    refine roS_i (As := [.int (v4_target V), .int (v4_gear V)]) (rest := []) ⟨hx, hb, hml, hown, hts⟩ (k_X4_closedOnlyIn l D Y  (v4_target V) (v4_gear V) r_4 e_5) (va_cwS 2 hts gX4_closing_X4_closedOnlyIn rfl rfl rfl (by decide +kernel) ⟨Nat.le_of_ble_eq_true rfl, Nat.le_of_ble_eq_true rfl⟩) (hP.sub (ws' := []) [] rfl) hK hN hZ rfl hl.1 rfl (Nat.le_of_ble_eq_true rfl) dX4_closing_15 ⟨Nat.le_refl 0, Nat.le_refl 0⟩ ?_
    refine lv_goto (tgt := 23) hx hb dX4_closing_18 (by decide) ?_
    subst hr
    exact W.iret hx hb hrt (fun t ht hW => ⟨_, rfl, rfl, ht⟩) (fun q hq => absurd hq List.not_mem_nil) dX4_closing_23

set_option maxHeartbeats 4000000 in
set_option maxRecDepth 100000 in
theorem k_X4_openingPressure (l : Launch) (D : va_G) (Y : Nat → ClassId) (a0 a1 a2 a3 a4 a5 a6 : Nat) (V : St) (R : UInt32) (hr : some R = mf_X4_openingPressure V) : Met l yX4_openingPressure wsX4_openingPressure ({ frames := 1, cells := 0, slots := 0, locals := 21 } : Room) (va_Pc [.ref a0] (PR D Y (stW Y a0 a1 a2 a3 a4 a5 a6 V))) (vp_Sf (fun x => x = R)) 0 0 (fun _ => False) := by
  refine Met.ofW (cc := cX4_openingPressure) (maxL := 2) (ret := (some .float)) (by decide) rfl ?_
  intro p e s m args below meth c s₁ B hml hv
  obtain ⟨rfl, hP, hK, hN, hZ⟩ := hv
  have hx := B.exec
  have hb := B.bytes
  have hrt := B.returns
  have hts := atoms_spec (ws := wsX4_openingPressure) B.pre
  have hown : s.vm.findClass RX4 = some m.cls := findClass_of_methodNamed B.named
  have hlocks := B.notSynchronized
  have inX4 : ∀ w ∈ u_ws RX4 TX4 11, w ∈ wsX4_openingPressure := uin_at 8 rfl
  have hS : va_S (fun _ => False) s.heap s.heap [] := va_S.rf
  have hl := lv_entry ([.ref a0]) (n := 2) (Nat.le_of_ble_eq_true rfl)
  rw [lg_entry_eq]
  generalize (lg_sl ([.ref a0]) ++ List.replicate (2 - (lg_sl ([.ref a0])).length) Slot.unset).toArray = ls at hl ⊢
  have hl : lv_has ls 2 [(0, .ref a0)] := hl
  rw [mf_X4_openingPressure] at hr
  refine lv_aload_n hx hb dX4_openingPressure_0 rfl (lv_at hl 0 rfl) ?_
  refine lv_iconst (v := (0 : Int32)) hx hb dX4_openingPressure_1 (by decide) ?_
  refine nmv hr (fun r_1 e_2 hr => ?_)
  refine roV_i (As := [.int (0 : Int32)]) (rest := []) ⟨hx, hb, hml, hown, hts⟩ (k_X4_setting l D Y a0 a1 a2 a3 a4 a5 a6 V (0 : Int32) r_1 e_2) (cwV 1 hts gX4_openingPressure_X4_setting rfl rfl rfl (by decide +kernel) ⟨Nat.le_of_ble_eq_true rfl, Nat.le_of_ble_eq_true rfl⟩) hP hK hN hZ 0 4 rfl rfl rfl hl.1 rfl (Nat.le_of_ble_eq_true rfl) dX4_openingPressure_2 ⟨Nat.le_refl 0, Nat.le_refl 0⟩ ?_
  refine lv_istore_n (lv' := [(1, .int r_1), (0, .ref a0)]) hx hb dX4_openingPressure_5 rfl hl (by decide) rfl (fun ls hl => ?_)
  refine lv_iload_n hx hb dX4_openingPressure_6 rfl (lv_at hl 0 rfl) ?_
  refine lv_if_le (tgt := 23) hx hb dX4_openingPressure_7 (by decide) (fun c_3 => ?_) (fun c_3 => ?_)
  · have hr := hr.trans (if_pos c_3)
    refine lv_fconst0 hx hb dX4_openingPressure_23 ?_
    have hr := Option.some.inj hr
    subst hr
    exact W.fret hx hb hrt (fun t ht hW => ⟨_, rfl, rfl, ht⟩) (fun q hq => absurd hq List.not_mem_nil) dX4_openingPressure_24
  · have hr := hr.trans (if_neg c_3)
    refine lv_fconst1 hx hb dX4_openingPressure_10 ?_
    refine lv_aload_n hx hb dX4_openingPressure_11 rfl (lv_at hl 1 rfl) ?_
    refine va_get (D := D) (ci := 4) (v := .int (v4_done V)) (C := RX4) (T := TX4) (N := 11) hx hb hts inX4 hown hK hP 0 rfl rfl 6 (by decide) (hts (.fieldLink RX4 42 "ShiftMaps$State" "done" "I") (List.mem_of_getElem? (i := 1) rfl)) (fun _ h9 => h9) rfl dX4_openingPressure_12 ?_
    refine lv_i2f hx hb dX4_openingPressure_15 ?_
    refine lv_iload_n hx hb dX4_openingPressure_16 rfl (lv_at hl 0 rfl) ?_
    refine lv_i2f hx hb dX4_openingPressure_17 ?_
    refine gdv hr (fun g_4 hr => ?_)
    refine lv_fdiv hx hb dX4_openingPressure_18 g_4 ?_
    refine nmv hr (fun f_5 e_6 hr => ?_)
    rw [← e_6]
    refine gdv hr (fun g_7 hr => ?_)
    refine lv_fsub hx hb dX4_openingPressure_19 g_7 ?_
    refine nmv hr (fun f_8 e_9 hr => ?_)
    rw [← e_9]
    refine lv_goto (tgt := 24) hx hb dX4_openingPressure_20 (by decide) ?_
    have hr := Option.some.inj hr
    subst hr
    exact W.fret hx hb hrt (fun t ht hW => ⟨_, rfl, rfl, ht⟩) (fun q hq => absurd hq List.not_mem_nil) dX4_openingPressure_24

set_option maxHeartbeats 4000000 in
set_option maxRecDepth 100000 in
theorem k_X4_closingPressure (l : Launch) (D : va_G) (Y : Nat → ClassId) (a0 a1 a2 a3 a4 a5 a6 : Nat) (V : St) (R : UInt32) (hr : some R = mf_X4_closingPressure V) : Met l yX4_closingPressure wsX4_closingPressure ({ frames := 1, cells := 0, slots := 0, locals := 21 } : Room) (va_Pc [.ref a0] (PR D Y (stW Y a0 a1 a2 a3 a4 a5 a6 V))) (vp_Sf (fun x => x = R)) 0 0 (fun _ => False) := by
  refine Met.ofW (cc := cX4_closingPressure) (maxL := 3) (ret := (some .float)) (by decide) rfl ?_
  intro p e s m args below meth c s₁ B hml hv
  obtain ⟨rfl, hP, hK, hN, hZ⟩ := hv
  have hx := B.exec
  have hb := B.bytes
  have hrt := B.returns
  have hts := atoms_spec (ws := wsX4_closingPressure) B.pre
  have hown : s.vm.findClass RX4 = some m.cls := findClass_of_methodNamed B.named
  have hlocks := B.notSynchronized
  have inX4 : ∀ w ∈ u_ws RX4 TX4 11, w ∈ wsX4_closingPressure := uin_at 8 rfl
  have hS : va_S (fun _ => False) s.heap s.heap [] := va_S.rf
  have hl := lv_entry ([.ref a0]) (n := 3) (Nat.le_of_ble_eq_true rfl)
  rw [lg_entry_eq]
  generalize (lg_sl ([.ref a0]) ++ List.replicate (3 - (lg_sl ([.ref a0])).length) Slot.unset).toArray = ls at hl ⊢
  have hl : lv_has ls 3 [(0, .ref a0)] := hl
  rw [mf_X4_closingPressure] at hr
  refine lv_aload_n hx hb dX4_closingPressure_0 rfl (lv_at hl 0 rfl) ?_
  refine lv_iconst (v := (1 : Int32)) hx hb dX4_closingPressure_1 (by decide) ?_
  refine nmv hr (fun r_1 e_2 hr => ?_)
  refine roV_i (As := [.int (1 : Int32)]) (rest := []) ⟨hx, hb, hml, hown, hts⟩ (k_X4_setting l D Y a0 a1 a2 a3 a4 a5 a6 V (1 : Int32) r_1 e_2) (cwV 1 hts gX4_closingPressure_X4_setting rfl rfl rfl (by decide +kernel) ⟨Nat.le_of_ble_eq_true rfl, Nat.le_of_ble_eq_true rfl⟩) hP hK hN hZ 0 4 rfl rfl rfl hl.1 rfl (Nat.le_of_ble_eq_true rfl) dX4_closingPressure_2 ⟨Nat.le_refl 0, Nat.le_refl 0⟩ ?_
  refine lv_istore_n (lv' := [(1, .int r_1), (0, .ref a0)]) hx hb dX4_closingPressure_5 rfl hl (by decide) rfl (fun ls hl => ?_)
  refine lv_aload_n hx hb dX4_closingPressure_6 rfl (lv_at hl 1 rfl) ?_
  refine lv_iconst (v := (0 : Int32)) hx hb dX4_closingPressure_7 (by decide) ?_
  refine nmv hr (fun r_3 e_4 hr => ?_)
  refine roV_i (As := [.int (0 : Int32)]) (rest := []) ⟨hx, hb, hml, hown, hts⟩ (k_X4_setting l D Y a0 a1 a2 a3 a4 a5 a6 V (0 : Int32) r_3 e_4) (cwV 1 hts gX4_closingPressure_X4_setting rfl rfl rfl (by decide +kernel) ⟨Nat.le_of_ble_eq_true rfl, Nat.le_of_ble_eq_true rfl⟩) hP hK hN hZ 0 4 rfl rfl rfl hl.1 rfl (Nat.le_of_ble_eq_true rfl) dX4_closingPressure_8 ⟨Nat.le_refl 0, Nat.le_refl 0⟩ ?_
  refine lv_istore_n (lv' := [(2, .int r_3), (1, .int r_1), (0, .ref a0)]) hx hb dX4_closingPressure_11 rfl hl (by decide) rfl (fun ls hl => ?_)
  refine lv_aload_n hx hb dX4_closingPressure_12 rfl (lv_at hl 2 rfl) ?_
  refine va_get (D := D) (ci := 4) (v := .int (v4_done V)) (C := RX4) (T := TX4) (N := 11) hx hb hts inX4 hown hK hP 0 rfl rfl 6 (by decide) (hts (.fieldLink RX4 42 "ShiftMaps$State" "done" "I") (List.mem_of_getElem? (i := 1) rfl)) (fun _ h9 => h9) rfl dX4_closingPressure_13 ?_
  refine lv_iload_n hx hb dX4_closingPressure_16 rfl (lv_at hl 1 rfl) ?_
  refine lv_icmp_le (tgt := 25) hx hb dX4_closingPressure_17 (by decide) (fun c_5 => ?_) (fun c_5 => ?_)
  · have hr := hr.trans (if_pos c_5)
    refine lv_fconst0 hx hb dX4_closingPressure_25 ?_
    have hr := Option.some.inj hr
    subst hr
    exact W.fret hx hb hrt (fun t ht hW => ⟨_, rfl, rfl, ht⟩) (fun q hq => absurd hq List.not_mem_nil) dX4_closingPressure_26
  · have hr := hr.trans (if_neg c_5)
    refine lv_iload_n hx hb dX4_closingPressure_20 rfl (lv_at hl 0 rfl) ?_
    refine lv_iload_n hx hb dX4_closingPressure_21 rfl (lv_at hl 1 rfl) ?_
    refine lv_icmp_gt (tgt := 27) hx hb dX4_closingPressure_22 (by decide) (fun c_6 => ?_) (fun c_6 => ?_)
    · have hr := hr.trans (if_pos c_6)
      refine lv_aload_n hx hb dX4_closingPressure_27 rfl (lv_at hl 2 rfl) ?_
      refine va_get (D := D) (ci := 4) (v := .int (v4_done V)) (C := RX4) (T := TX4) (N := 11) hx hb hts inX4 hown hK hP 0 rfl rfl 6 (by decide) (hts (.fieldLink RX4 42 "ShiftMaps$State" "done" "I") (List.mem_of_getElem? (i := 1) rfl)) (fun _ h9 => h9) rfl dX4_closingPressure_28 ?_
      refine lv_iload_n hx hb dX4_closingPressure_31 rfl (lv_at hl 1 rfl) ?_
      refine lv_isub hx hb dX4_closingPressure_32 ?_
      refine lv_i2f hx hb dX4_closingPressure_33 ?_
      refine lv_iload_n hx hb dX4_closingPressure_34 rfl (lv_at hl 0 rfl) ?_
      refine lv_iload_n hx hb dX4_closingPressure_35 rfl (lv_at hl 1 rfl) ?_
      refine lv_isub hx hb dX4_closingPressure_36 ?_
      refine lv_i2f hx hb dX4_closingPressure_37 ?_
      refine gdv hr (fun g_7 hr => ?_)
      refine lv_fdiv hx hb dX4_closingPressure_38 g_7 ?_
      refine nmv hr (fun f_8 e_9 hr => ?_)
      rw [← e_9]
      have hr := Option.some.inj hr
      subst hr
      exact W.fret hx hb hrt (fun t ht hW => ⟨_, rfl, rfl, ht⟩) (fun q hq => absurd hq List.not_mem_nil) dX4_closingPressure_39
    · have hr := hr.trans (if_neg c_6)
      refine lv_fconst0 hx hb dX4_closingPressure_25 ?_
      have hr := Option.some.inj hr
      subst hr
      exact W.fret hx hb hrt (fun t ht hW => ⟨_, rfl, rfl, ht⟩) (fun q hq => absurd hq List.not_mem_nil) dX4_closingPressure_26

set_option maxHeartbeats 4000000 in
set_option maxRecDepth 100000 in
theorem k_X4_pressureOf (l : Launch) (D : va_G) (Y : Nat → ClassId) (a0 a1 a2 a3 a4 a5 a6 : Nat) (V : St) (x1 : Int32) (R : UInt32) (hr : some R = mf_X4_pressureOf V x1) : Met l yX4_pressureOf wsX4_pressureOf ({ frames := 3, cells := 0, slots := 0, locals := 64 } : Room) (va_Pc [.ref a0, .int x1] (PR D Y (stW Y a0 a1 a2 a3 a4 a5 a6 V))) (vp_Sf (fun x => x = R)) 0 0 (fun _ => False) := by
  refine Met.ofW (cc := cX4_pressureOf) (maxL := 2) (ret := (some .float)) (by decide) rfl ?_
  intro p e s m args below meth c s₁ B hml hv
  obtain ⟨rfl, hP, hK, hN, hZ⟩ := hv
  have hx := B.exec
  have hb := B.bytes
  have hrt := B.returns
  have hts := atoms_spec (ws := wsX4_pressureOf) B.pre
  have hown : s.vm.findClass RX4 = some m.cls := findClass_of_methodNamed B.named
  have hlocks := B.notSynchronized
  have inX4 : ∀ w ∈ u_ws RX4 TX4 11, w ∈ wsX4_pressureOf := uin_at 38 rfl
  have hS : va_S (fun _ => False) s.heap s.heap [] := va_S.rf
  have hl := lv_entry ([.ref a0, .int x1]) (n := 2) (Nat.le_of_ble_eq_true rfl)
  rw [lg_entry_eq]
  generalize (lg_sl ([.ref a0, .int x1]) ++ List.replicate (2 - (lg_sl ([.ref a0, .int x1])).length) Slot.unset).toArray = ls at hl ⊢
  have hl : lv_has ls 2 [(0, .ref a0), (1, .int x1)] := hl
  have B40 : ∀ (z1 : Int32) (ls : Array Slot), some R = mf_X4_pressureOf_B40 V z1 → lv_has ls 2 [(0, .ref a0), (1, .int z1)] → W p l e ({ frames := 3, cells := 0, slots := 0, locals := 64 } : Room) s m ([.ref a0, .int x1] : List Value).toArray below meth c s.heap [] 0 0 (MQ below (vp_Sf (fun x => x = R)) ([.ref a0, .int x1] : List Value).toArray s 0 0 (fun _ => False)) (F0 m 40 ls []) := by
    intro z1 ls hr hl
    rw [mf_X4_pressureOf_B40] at hr
    refine lv_iload_n hx hb dX4_pressureOf_40 rfl (lv_at hl 1 rfl) ?_
    refine lv_aload_n hx hb dX4_pressureOf_41 rfl (lv_at hl 0 rfl) ?_
    refine va_get (D := D) (ci := 4) (v := .int (v4_gear V)) (C := RX4) (T := TX4) (N := 11) hx hb hts inX4 hown hK hP 0 rfl rfl 4 (by decide) (hts (.fieldLink RX4 35 "ShiftMaps$State" "gear" "I") (List.mem_of_getElem? (i := 1) rfl)) (fun _ h9 => h9) rfl dX4_pressureOf_42 ?_
    refine nmv hr (fun r_7 e_8 hr => ?_)
    refine roS_i (As := [.int z1, .int (v4_gear V)]) (rest := []) ⟨hx, hb, hml, hown, hts⟩ (k_X4_isClosed l D Y  z1 (v4_gear V) r_7 e_8) (va_cwS 2 hts gX4_pressureOf_X4_isClosed rfl rfl rfl (by decide +kernel) ⟨Nat.le_of_ble_eq_true rfl, Nat.le_of_ble_eq_true rfl⟩) (hP.sub (ws' := []) [] rfl) hK hN hZ rfl hl.1 rfl (Nat.le_of_ble_eq_true rfl) dX4_pressureOf_45 ⟨Nat.le_refl 0, Nat.le_refl 0⟩ ?_
    refine lv_if_eq (tgt := 55) hx hb dX4_pressureOf_48 (by decide) (fun c_9 => ?_) (fun c_9 => ?_)
    · have hr := hr.trans (if_pos c_9)
      refine lv_fconst0 hx hb dX4_pressureOf_55 ?_
      have hr := Option.some.inj hr
      subst hr
      exact W.fret hx hb hrt (fun t ht hW => ⟨_, rfl, rfl, ht⟩) (fun q hq => absurd hq List.not_mem_nil) dX4_pressureOf_56
    · have hr := hr.trans (if_neg c_9)
      refine lv_fconst1 hx hb dX4_pressureOf_51 ?_
      refine lv_goto (tgt := 56) hx hb dX4_pressureOf_52 (by decide) ?_
      have hr := Option.some.inj hr
      subst hr
      exact W.fret hx hb hrt (fun t ht hW => ⟨_, rfl, rfl, ht⟩) (fun q hq => absurd hq List.not_mem_nil) dX4_pressureOf_56
  have B20 : ∀ (z1 : Int32) (ls : Array Slot), some R = mf_X4_pressureOf_B20 V z1 → lv_has ls 2 [(0, .ref a0), (1, .int z1)] → W p l e ({ frames := 3, cells := 0, slots := 0, locals := 64 } : Room) s m ([.ref a0, .int x1] : List Value).toArray below meth c s.heap [] 0 0 (MQ below (vp_Sf (fun x => x = R)) ([.ref a0, .int x1] : List Value).toArray s 0 0 (fun _ => False)) (F0 m 20 ls []) := by
    intro z1 ls hr hl
    rw [mf_X4_pressureOf_B20] at hr
    refine lv_aload_n hx hb dX4_pressureOf_20 rfl (lv_at hl 0 rfl) ?_
    refine nmv hr (fun r_4 e_5 hr => ?_)
    refine roV_i (As := []) (rest := []) ⟨hx, hb, hml, hown, hts⟩ (k_X4_isChanging l D Y a0 a1 a2 a3 a4 a5 a6 V r_4 e_5) (cwV 0 hts gX4_pressureOf_X4_isChanging rfl rfl rfl (by decide +kernel) ⟨Nat.le_of_ble_eq_true rfl, Nat.le_of_ble_eq_true rfl⟩) hP hK hN hZ 0 4 rfl rfl rfl hl.1 rfl (Nat.le_of_ble_eq_true rfl) dX4_pressureOf_21 ⟨Nat.le_refl 0, Nat.le_refl 0⟩ ?_
    refine lv_if_eq (tgt := 40) hx hb dX4_pressureOf_24 (by decide) (fun c_6 => ?_) (fun c_6 => ?_)
    · have hr := hr.trans (if_pos c_6)
      exact B40 z1 _ hr (lv_sub hl [0, 1] rfl)
    · have hr := hr.trans (if_neg c_6)
      refine lv_iload_n hx hb dX4_pressureOf_27 rfl (lv_at hl 1 rfl) ?_
      refine lv_aload_n hx hb dX4_pressureOf_28 rfl (lv_at hl 0 rfl) ?_
      refine nmv hr (fun r_10 e_11 hr => ?_)
      refine roV_i (As := []) (rest := [.int z1]) ⟨hx, hb, hml, hown, hts⟩ (k_X4_closing l D Y a0 a1 a2 a3 a4 a5 a6 V r_10 e_11) (cwV 0 hts gX4_pressureOf_X4_closing rfl rfl rfl (by decide +kernel) ⟨Nat.le_of_ble_eq_true rfl, Nat.le_of_ble_eq_true rfl⟩) hP hK hN hZ 0 4 rfl rfl rfl hl.1 rfl (Nat.le_of_ble_eq_true rfl) dX4_pressureOf_29 ⟨Nat.le_refl 0, Nat.le_refl 0⟩ ?_
      refine lv_icmp_ne (tgt := 40) hx hb dX4_pressureOf_32 (by decide) (fun c_12 => ?_) (fun c_12 => ?_)
      · have hr := hr.trans (if_neg c_12)
        exact B40 z1 _ hr (lv_sub hl [0, 1] rfl)
      · have hr := hr.trans (if_pos c_12)
        refine lv_aload_n hx hb dX4_pressureOf_35 rfl (lv_at hl 0 rfl) ?_
        refine bdv hr (fun r_13 e_14 hr => ?_)
        refine roV_f (As := []) (rest := []) ⟨hx, hb, hml, hown, hts⟩ (k_X4_closingPressure l D Y a0 a1 a2 a3 a4 a5 a6 V r_13 e_14) (cwV 0 hts gX4_pressureOf_X4_closingPressure rfl rfl rfl (by decide +kernel) ⟨Nat.le_of_ble_eq_true rfl, Nat.le_of_ble_eq_true rfl⟩) hP hK hN hZ 0 4 rfl rfl rfl hl.1 rfl (Nat.le_of_ble_eq_true rfl) dX4_pressureOf_36 ⟨Nat.le_refl 0, Nat.le_refl 0⟩ ?_
        have hr := Option.some.inj hr
        subst hr
        exact W.fret hx hb hrt (fun t ht hW => ⟨_, rfl, rfl, ht⟩) (fun q hq => absurd hq List.not_mem_nil) dX4_pressureOf_39
  rw [mf_X4_pressureOf] at hr
  refine lv_aload_n hx hb dX4_pressureOf_0 rfl (lv_at hl 0 rfl) ?_
  refine nmv hr (fun r_1 e_2 hr => ?_)
  refine roV_i (As := []) (rest := []) ⟨hx, hb, hml, hown, hts⟩ (k_X4_isChanging l D Y a0 a1 a2 a3 a4 a5 a6 V r_1 e_2) (cwV 0 hts gX4_pressureOf_X4_isChanging rfl rfl rfl (by decide +kernel) ⟨Nat.le_of_ble_eq_true rfl, Nat.le_of_ble_eq_true rfl⟩) hP hK hN hZ 0 4 rfl rfl rfl hl.1 rfl (Nat.le_of_ble_eq_true rfl) dX4_pressureOf_1 ⟨Nat.le_refl 0, Nat.le_refl 0⟩ ?_
  refine lv_if_eq (tgt := 20) hx hb dX4_pressureOf_4 (by decide) (fun c_3 => ?_) (fun c_3 => ?_)
  · have hr := hr.trans (if_pos c_3)
    exact B20 x1 _ hr (lv_sub hl [0, 1] rfl)
  · have hr := hr.trans (if_neg c_3)
    refine lv_iload_n hx hb dX4_pressureOf_7 rfl (lv_at hl 1 rfl) ?_
    refine lv_aload_n hx hb dX4_pressureOf_8 rfl (lv_at hl 0 rfl) ?_
    refine nmv hr (fun r_15 e_16 hr => ?_)
    refine roV_i (As := []) (rest := [.int x1]) ⟨hx, hb, hml, hown, hts⟩ (k_X4_opening l D Y a0 a1 a2 a3 a4 a5 a6 V r_15 e_16) (cwV 0 hts gX4_pressureOf_X4_opening rfl rfl rfl (by decide +kernel) ⟨Nat.le_of_ble_eq_true rfl, Nat.le_of_ble_eq_true rfl⟩) hP hK hN hZ 0 4 rfl rfl rfl hl.1 rfl (Nat.le_of_ble_eq_true rfl) dX4_pressureOf_9 ⟨Nat.le_refl 0, Nat.le_refl 0⟩ ?_
    refine lv_icmp_ne (tgt := 20) hx hb dX4_pressureOf_12 (by decide) (fun c_17 => ?_) (fun c_17 => ?_)
    · have hr := hr.trans (if_neg c_17)
      exact B20 x1 _ hr (lv_sub hl [0, 1] rfl)
    · have hr := hr.trans (if_pos c_17)
      refine lv_aload_n hx hb dX4_pressureOf_15 rfl (lv_at hl 0 rfl) ?_
      refine bdv hr (fun r_18 e_19 hr => ?_)
      refine roV_f (As := []) (rest := []) ⟨hx, hb, hml, hown, hts⟩ (k_X4_openingPressure l D Y a0 a1 a2 a3 a4 a5 a6 V r_18 e_19) (cwV 0 hts gX4_pressureOf_X4_openingPressure rfl rfl rfl (by decide +kernel) ⟨Nat.le_of_ble_eq_true rfl, Nat.le_of_ble_eq_true rfl⟩) hP hK hN hZ 0 4 rfl rfl rfl hl.1 rfl (Nat.le_of_ble_eq_true rfl) dX4_pressureOf_16 ⟨Nat.le_refl 0, Nat.le_refl 0⟩ ?_
      have hr := Option.some.inj hr
      subst hr
      exact W.fret hx hb hrt (fun t ht hW => ⟨_, rfl, rfl, ht⟩) (fun q hq => absurd hq List.not_mem_nil) dX4_pressureOf_19

set_option maxHeartbeats 4000000 in
set_option maxRecDepth 100000 in
theorem k_X4_greaterPressure (l : Launch) (D : va_G) (Y : Nat → ClassId) (a0 a1 a2 a3 a4 a5 a6 : Nat) (V : St) (R : UInt32) (hr : some R = mf_X4_greaterPressure V) : Met l yX4_greaterPressure wsX4_greaterPressure ({ frames := 2, cells := 0, slots := 0, locals := 43 } : Room) (va_Pc [.ref a0] (PR D Y (stW Y a0 a1 a2 a3 a4 a5 a6 V))) (vp_Sf (fun x => x = R)) 0 0 (fun _ => False) := by
  refine Met.ofW (cc := cX4_greaterPressure) (maxL := 3) (ret := (some .float)) (by decide) rfl ?_
  intro p e s m args below meth c s₁ B hml hv
  obtain ⟨rfl, hP, hK, hN, hZ⟩ := hv
  have hx := B.exec
  have hb := B.bytes
  have hrt := B.returns
  have hts := atoms_spec (ws := wsX4_greaterPressure) B.pre
  have hown : s.vm.findClass RX4 = some m.cls := findClass_of_methodNamed B.named
  have hlocks := B.notSynchronized
  have hS : va_S (fun _ => False) s.heap s.heap [] := va_S.rf
  have hl := lv_entry ([.ref a0]) (n := 3) (Nat.le_of_ble_eq_true rfl)
  rw [lg_entry_eq]
  generalize (lg_sl ([.ref a0]) ++ List.replicate (3 - (lg_sl ([.ref a0])).length) Slot.unset).toArray = ls at hl ⊢
  have hl : lv_has ls 3 [(0, .ref a0)] := hl
  rw [mf_X4_greaterPressure] at hr
  refine lv_aload_n hx hb dX4_greaterPressure_0 rfl (lv_at hl 0 rfl) ?_
  refine nmv hr (fun r_1 e_2 hr => ?_)
  refine roV_i (As := []) (rest := []) ⟨hx, hb, hml, hown, hts⟩ (k_X4_isChanging l D Y a0 a1 a2 a3 a4 a5 a6 V r_1 e_2) (cwV 0 hts gX4_greaterPressure_X4_isChanging rfl rfl rfl (by decide +kernel) ⟨Nat.le_of_ble_eq_true rfl, Nat.le_of_ble_eq_true rfl⟩) hP hK hN hZ 0 4 rfl rfl rfl hl.1 rfl (Nat.le_of_ble_eq_true rfl) dX4_greaterPressure_1 ⟨Nat.le_refl 0, Nat.le_refl 0⟩ ?_
  refine lv_if_ne (tgt := 9) hx hb dX4_greaterPressure_4 (by decide) (fun c_3 => ?_) (fun c_3 => ?_)
  · have hr := hr.trans (if_neg c_3)
    refine lv_aload_n hx hb dX4_greaterPressure_9 rfl (lv_at hl 0 rfl) ?_
    refine bdv hr (fun r_4 e_5 hr => ?_)
    refine roV_f (As := []) (rest := []) ⟨hx, hb, hml, hown, hts⟩ (k_X4_openingPressure l D Y a0 a1 a2 a3 a4 a5 a6 V r_4 e_5) (cwV 0 hts gX4_greaterPressure_X4_openingPressure rfl rfl rfl (by decide +kernel) ⟨Nat.le_of_ble_eq_true rfl, Nat.le_of_ble_eq_true rfl⟩) hP hK hN hZ 0 4 rfl rfl rfl hl.1 rfl (Nat.le_of_ble_eq_true rfl) dX4_greaterPressure_10 ⟨Nat.le_refl 0, Nat.le_refl 0⟩ ?_
    refine lv_fstore_n (lv' := [(1, .float r_4), (0, .ref a0)]) hx hb dX4_greaterPressure_13 rfl hl (by decide) rfl (fun ls hl => ?_)
    refine lv_aload_n hx hb dX4_greaterPressure_14 rfl (lv_at hl 1 rfl) ?_
    refine bdv hr (fun r_6 e_7 hr => ?_)
    refine roV_f (As := []) (rest := []) ⟨hx, hb, hml, hown, hts⟩ (k_X4_closingPressure l D Y a0 a1 a2 a3 a4 a5 a6 V r_6 e_7) (cwV 0 hts gX4_greaterPressure_X4_closingPressure rfl rfl rfl (by decide +kernel) ⟨Nat.le_of_ble_eq_true rfl, Nat.le_of_ble_eq_true rfl⟩) hP hK hN hZ 0 4 rfl rfl rfl hl.1 rfl (Nat.le_of_ble_eq_true rfl) dX4_greaterPressure_15 ⟨Nat.le_refl 0, Nat.le_refl 0⟩ ?_
    refine lv_fstore_n (lv' := [(2, .float r_6), (1, .float r_4), (0, .ref a0)]) hx hb dX4_greaterPressure_18 rfl hl (by decide) rfl (fun ls hl => ?_)
    refine lv_fload_n hx hb dX4_greaterPressure_19 rfl (lv_at hl 1 rfl) ?_
    refine lv_fload_n hx hb dX4_greaterPressure_20 rfl (lv_at hl 0 rfl) ?_
    refine lv_fcmp hx hb dX4_greaterPressure_21 ?_
    refine lv_if_lt (tgt := 29) hx hb dX4_greaterPressure_22 (by decide) (fun c_8 => ?_) (fun c_8 => ?_)
    · have hr := hr.trans (if_pos c_8)
      refine lv_fload_n hx hb dX4_greaterPressure_29 rfl (lv_at hl 0 rfl) ?_
      have hr := Option.some.inj hr
      subst hr
      exact W.fret hx hb hrt (fun t ht hW => ⟨_, rfl, rfl, ht⟩) (fun q hq => absurd hq List.not_mem_nil) dX4_greaterPressure_30
    · have hr := hr.trans (if_neg c_8)
      refine lv_fload_n hx hb dX4_greaterPressure_25 rfl (lv_at hl 1 rfl) ?_
      refine lv_goto (tgt := 30) hx hb dX4_greaterPressure_26 (by decide) ?_
      have hr := Option.some.inj hr
      subst hr
      exact W.fret hx hb hrt (fun t ht hW => ⟨_, rfl, rfl, ht⟩) (fun q hq => absurd hq List.not_mem_nil) dX4_greaterPressure_30
  · have hr := hr.trans (if_pos c_3)
    refine lv_fconst1 hx hb dX4_greaterPressure_7 ?_
    have hr := Option.some.inj hr
    subst hr
    exact W.fret hx hb hrt (fun t ht hW => ⟨_, rfl, rfl, ht⟩) (fun q hq => absurd hq List.not_mem_nil) dX4_greaterPressure_8

set_option maxHeartbeats 4000000 in
set_option maxRecDepth 100000 in
theorem k_X4_mayShiftTo (l : Launch) (D : va_G) (Y : Nat → ClassId) (a0 a1 a2 a3 a4 a5 a6 : Nat) (V : St) (x1 : Int32) (R : Int32) (hr : R = mf_X4_mayShiftTo V x1) : Met l yX4_mayShiftTo wsX4_mayShiftTo ({ frames := 2, cells := 0, slots := 0, locals := 45 } : Room) (va_Pc [.ref a0, .int x1] (PR D Y (stW Y a0 a1 a2 a3 a4 a5 a6 V))) (vp_Si (fun x => x = R)) 0 0 (fun _ => False) := by
  refine Met.ofW (cc := cX4_mayShiftTo) (maxL := 2) (ret := (some .boolean)) (by decide) rfl ?_
  intro p e s m args below meth c s₁ B hml hv
  obtain ⟨rfl, hP, hK, hN, hZ⟩ := hv
  have hx := B.exec
  have hb := B.bytes
  have hrt := B.returns
  have hts := atoms_spec (ws := wsX4_mayShiftTo) B.pre
  have hown : s.vm.findClass RX4 = some m.cls := findClass_of_methodNamed B.named
  have hlocks := B.notSynchronized
  have inX4 : ∀ w ∈ u_ws RX4 TX4 11, w ∈ wsX4_mayShiftTo := uin_at 20 rfl
  have hS : va_S (fun _ => False) s.heap s.heap [] := va_S.rf
  have hl := lv_entry ([.ref a0, .int x1]) (n := 2) (Nat.le_of_ble_eq_true rfl)
  rw [lg_entry_eq]
  generalize (lg_sl ([.ref a0, .int x1]) ++ List.replicate (2 - (lg_sl ([.ref a0, .int x1])).length) Slot.unset).toArray = ls at hl ⊢
  have hl : lv_has ls 2 [(0, .ref a0), (1, .int x1)] := hl
  rw [mf_X4_mayShiftTo] at hr
  refine lv_aload_n hx hb dX4_mayShiftTo_0 rfl (lv_at hl 0 rfl) ?_
  refine va_get (D := D) (ci := 4) (v := .int (v4_handMode V)) (C := RX4) (T := TX4) (N := 11) hx hb hts inX4 hown hK hP 0 rfl rfl 8 (by decide) (hts (.fieldLink RX4 48 "ShiftMaps$State" "handMode" "Z") (List.mem_of_getElem? (i := 1) rfl)) (fun _ h9 => h9) rfl dX4_mayShiftTo_1 ?_
  refine lv_if_eq (tgt := 43) hx hb dX4_mayShiftTo_4 (by decide) (fun c_1 => ?_) (fun c_1 => ?_)
  · have hr := hr.trans (if_pos c_1)
    refine lv_iconst (v := (0 : Int32)) hx hb dX4_mayShiftTo_43 (by decide) ?_
    subst hr
    exact W.zret (ty := .boolean) hx hb hrt (by decide) (fun t ht hW => ⟨_, rfl, rfl, ht⟩) (fun q hq => absurd hq List.not_mem_nil) dX4_mayShiftTo_44
  · have hr := hr.trans (if_neg c_1)
    refine lv_aload_n hx hb dX4_mayShiftTo_7 rfl (lv_at hl 0 rfl) ?_
    refine nmv hr (fun r_2 e_3 hr => ?_)
    refine roV_i (As := []) (rest := []) ⟨hx, hb, hml, hown, hts⟩ (k_X4_isChanging l D Y a0 a1 a2 a3 a4 a5 a6 V r_2 e_3) (cwV 0 hts gX4_mayShiftTo_X4_isChanging rfl rfl rfl (by decide +kernel) ⟨Nat.le_of_ble_eq_true rfl, Nat.le_of_ble_eq_true rfl⟩) hP hK hN hZ 0 4 rfl rfl rfl hl.1 rfl (Nat.le_of_ble_eq_true rfl) dX4_mayShiftTo_8 ⟨Nat.le_refl 0, Nat.le_refl 0⟩ ?_
    refine lv_if_ne (tgt := 43) hx hb dX4_mayShiftTo_11 (by decide) (fun c_4 => ?_) (fun c_4 => ?_)
    · have hr := hr.trans (if_neg c_4)
      refine lv_iconst (v := (0 : Int32)) hx hb dX4_mayShiftTo_43 (by decide) ?_
      subst hr
      exact W.zret (ty := .boolean) hx hb hrt (by decide) (fun t ht hW => ⟨_, rfl, rfl, ht⟩) (fun q hq => absurd hq List.not_mem_nil) dX4_mayShiftTo_44
    · have hr := hr.trans (if_pos c_4)
      refine lv_iload_n hx hb dX4_mayShiftTo_14 rfl (lv_at hl 1 rfl) ?_
      refine lv_iconst (v := (1 : Int32)) hx hb dX4_mayShiftTo_15 (by decide) ?_
      refine lv_icmp_lt (tgt := 43) hx hb dX4_mayShiftTo_16 (by decide) (fun c_5 => ?_) (fun c_5 => ?_)
      · have hr := hr.trans (if_pos c_5)
        refine lv_iconst (v := (0 : Int32)) hx hb dX4_mayShiftTo_43 (by decide) ?_
        subst hr
        exact W.zret (ty := .boolean) hx hb hrt (by decide) (fun t ht hW => ⟨_, rfl, rfl, ht⟩) (fun q hq => absurd hq List.not_mem_nil) dX4_mayShiftTo_44
      · have hr := hr.trans (if_neg c_5)
        refine lv_iload_n hx hb dX4_mayShiftTo_19 rfl (lv_at hl 1 rfl) ?_
        refine lv_iconst (v := (5 : Int32)) hx hb dX4_mayShiftTo_20 (by decide) ?_
        refine lv_icmp_gt (tgt := 43) hx hb dX4_mayShiftTo_21 (by decide) (fun c_6 => ?_) (fun c_6 => ?_)
        · have hr := hr.trans (if_pos c_6)
          refine lv_iconst (v := (0 : Int32)) hx hb dX4_mayShiftTo_43 (by decide) ?_
          subst hr
          exact W.zret (ty := .boolean) hx hb hrt (by decide) (fun t ht hW => ⟨_, rfl, rfl, ht⟩) (fun q hq => absurd hq List.not_mem_nil) dX4_mayShiftTo_44
        · have hr := hr.trans (if_neg c_6)
          refine lv_aload_n hx hb dX4_mayShiftTo_24 rfl (lv_at hl 0 rfl) ?_
          refine va_get (D := D) (ci := 4) (v := .ref a1) (C := RX4) (T := TX4) (N := 11) hx hb hts inX4 hown hK hP 0 rfl rfl 0 (by decide) (hts (.fieldLink RX4 12 "ShiftMaps$State" "maps" "LShiftMaps$Maps;") (List.mem_of_getElem? (i := 2) rfl)) (fun _ h9 => h9) rfl dX4_mayShiftTo_25 ?_
          refine lv_aload_n hx hb dX4_mayShiftTo_28 rfl (lv_at hl 0 rfl) ?_
          refine va_get (D := D) (ci := 4) (v := .float (v4_latestSpeed V)) (C := RX4) (T := TX4) (N := 11) hx hb hts inX4 hown hK hP 0 rfl rfl 9 (by decide) (hts (.fieldLink RX4 52 "ShiftMaps$State" "latestSpeed" "F") (List.mem_of_getElem? (i := 3) rfl)) (fun _ h9 => h9) rfl dX4_mayShiftTo_29 ?_
          refine lv_iload_n hx hb dX4_mayShiftTo_32 rfl (lv_at hl 1 rfl) ?_
          refine nmv hr (fun r_7 e_8 hr => ?_)
          refine roV_i (As := [.float (v4_latestSpeed V), .int x1]) (rest := []) ⟨hx, hb, hml, hown, hts⟩ (k_X3_exceeds l D Y a1 a2 (v4_maps V) (v4_latestSpeed V) x1 r_7 e_8) (cwV 2 hts gX4_mayShiftTo_X3_exceeds rfl rfl rfl (by decide +kernel) ⟨Nat.le_of_ble_eq_true rfl, Nat.le_of_ble_eq_true rfl⟩) (hP.sub (ws' := (mpW Y a1 a2 (v4_maps V))) [1, 2] rfl) hK hN hZ 0 3 rfl rfl rfl hl.1 rfl (Nat.le_of_ble_eq_true rfl) dX4_mayShiftTo_33 ⟨Nat.le_refl 0, Nat.le_refl 0⟩ ?_
          refine lv_if_ne (tgt := 43) hx hb dX4_mayShiftTo_36 (by decide) (fun c_9 => ?_) (fun c_9 => ?_)
          · have hr := hr.trans (if_neg c_9)
            refine lv_iconst (v := (0 : Int32)) hx hb dX4_mayShiftTo_43 (by decide) ?_
            subst hr
            exact W.zret (ty := .boolean) hx hb hrt (by decide) (fun t ht hW => ⟨_, rfl, rfl, ht⟩) (fun q hq => absurd hq List.not_mem_nil) dX4_mayShiftTo_44
          · have hr := hr.trans (if_pos c_9)
            refine lv_iconst (v := (1 : Int32)) hx hb dX4_mayShiftTo_39 (by decide) ?_
            refine lv_goto (tgt := 44) hx hb dX4_mayShiftTo_40 (by decide) ?_
            subst hr
            exact W.zret (ty := .boolean) hx hb hrt (by decide) (fun t ht hW => ⟨_, rfl, rfl, ht⟩) (fun q hq => absurd hq List.not_mem_nil) dX4_mayShiftTo_44

set_option maxHeartbeats 4000000 in
set_option maxRecDepth 100000 in
theorem k_X4_swings (l : Launch) (D : va_G) (Y : Nat → ClassId) (a0 a1 a2 a3 a4 a5 a6 : Nat) (V : St) (x1 : Int32) (R : Int32) (hr : R = mf_X4_swings V x1) : Met l yX4_swings wsX4_swings ({ frames := 2, cells := 0, slots := 0, locals := 41 } : Room) (va_Pc [.ref a0, .int x1] (PR D Y (stW Y a0 a1 a2 a3 a4 a5 a6 V))) (vp_Si (fun x => x = R)) 0 0 (fun _ => False) := by
  refine Met.ofW (cc := cX4_swings) (maxL := 3) (ret := (some .boolean)) (by decide) rfl ?_
  intro p e s m args below meth c s₁ B hml hv
  obtain ⟨rfl, hP, hK, hN, hZ⟩ := hv
  have hx := B.exec
  have hb := B.bytes
  have hrt := B.returns
  have hts := atoms_spec (ws := wsX4_swings) B.pre
  have hown : s.vm.findClass RX4 = some m.cls := findClass_of_methodNamed B.named
  have hlocks := B.notSynchronized
  have inX4 : ∀ w ∈ u_ws RX4 TX4 11, w ∈ wsX4_swings := uin_at 25 rfl
  have hS : va_S (fun _ => False) s.heap s.heap [] := va_S.rf
  have hl := lv_entry ([.ref a0, .int x1]) (n := 3) (Nat.le_of_ble_eq_true rfl)
  rw [lg_entry_eq]
  generalize (lg_sl ([.ref a0, .int x1]) ++ List.replicate (3 - (lg_sl ([.ref a0, .int x1])).length) Slot.unset).toArray = ls at hl ⊢
  have hl : lv_has ls 3 [(0, .ref a0), (1, .int x1)] := hl
  have B20 : ∀ (z1 : Int32) (y0 : Int32) (ls : Array Slot), R = mf_X4_swings_B20 V z1 y0 → lv_has ls 3 [(0, .ref a0), (1, .int z1)] → W p l e ({ frames := 2, cells := 0, slots := 0, locals := 41 } : Room) s m ([.ref a0, .int x1] : List Value).toArray below meth c s.heap [] 0 0 (MQ below (vp_Si (fun x => x = R)) ([.ref a0, .int x1] : List Value).toArray s 0 0 (fun _ => False)) (F0 m 20 ls [.int y0]) := by
    intro z1 y0 ls hr hl
    rw [mf_X4_swings_B20] at hr
    refine lv_istore_n (lv' := [(2, .int y0), (0, .ref a0), (1, .int z1)]) hx hb dX4_swings_20 rfl hl (by decide) rfl (fun ls hl => ?_)
    refine lv_aload_n hx hb dX4_swings_21 rfl (lv_at hl 1 rfl) ?_
    refine va_get (D := D) (ci := 4) (v := .ref a3) (C := RX4) (T := TX4) (N := 11) hx hb hts inX4 hown hK hP 0 rfl rfl 1 (by decide) (hts (.fieldLink RX4 21 "ShiftMaps$State" "log" "LShiftMaps$Log;") (List.mem_of_getElem? (i := 1) rfl)) (fun _ h9 => h9) rfl dX4_swings_22 ?_
    refine lv_iconst (v := (0 : Int32)) hx hb dX4_swings_25 (by decide) ?_
    refine lv_iconst (v := (3 : Int32)) hx hb dX4_swings_26 (by decide) ?_
    refine nmv hr (fun r_3 e_4 hr => ?_)
    refine roV_i (As := [.int (0 : Int32), .int (3 : Int32)]) (rest := []) ⟨hx, hb, hml, hown, hts⟩ (k_X2_told l D Y a3 a4 (v4_log V) (0 : Int32) (3 : Int32) r_3 e_4) (cwV 2 hts gX4_swings_X2_told rfl rfl rfl (by decide +kernel) ⟨Nat.le_of_ble_eq_true rfl, Nat.le_of_ble_eq_true rfl⟩) (hP.sub (ws' := (lgW Y a3 a4 (v4_log V))) [3, 4] rfl) hK hN hZ 0 2 rfl rfl rfl hl.1 rfl (Nat.le_of_ble_eq_true rfl) dX4_swings_27 ⟨Nat.le_refl 0, Nat.le_refl 0⟩ ?_
    refine lv_iload_n hx hb dX4_swings_30 rfl (lv_at hl 0 rfl) ?_
    refine lv_icmp_ne (tgt := 73) hx hb dX4_swings_31 (by decide) (fun c_5 => ?_) (fun c_5 => ?_)
    · have hr := hr.trans (if_neg c_5)
      refine lv_iconst (v := (0 : Int32)) hx hb dX4_swings_73 (by decide) ?_
      subst hr
      exact W.zret (ty := .boolean) hx hb hrt (by decide) (fun t ht hW => ⟨_, rfl, rfl, ht⟩) (fun q hq => absurd hq List.not_mem_nil) dX4_swings_74
    · have hr := hr.trans (if_pos c_5)
      refine lv_aload_n hx hb dX4_swings_34 rfl (lv_at hl 1 rfl) ?_
      refine va_get (D := D) (ci := 4) (v := .ref a3) (C := RX4) (T := TX4) (N := 11) hx hb hts inX4 hown hK hP 0 rfl rfl 1 (by decide) (hts (.fieldLink RX4 21 "ShiftMaps$State" "log" "LShiftMaps$Log;") (List.mem_of_getElem? (i := 1) rfl)) (fun _ h9 => h9) rfl dX4_swings_35 ?_
      refine lv_iconst (v := (1 : Int32)) hx hb dX4_swings_38 (by decide) ?_
      refine lv_iconst (v := (3 : Int32)) hx hb dX4_swings_39 (by decide) ?_
      refine nmv hr (fun r_6 e_7 hr => ?_)
      refine roV_i (As := [.int (1 : Int32), .int (3 : Int32)]) (rest := []) ⟨hx, hb, hml, hown, hts⟩ (k_X2_told l D Y a3 a4 (v4_log V) (1 : Int32) (3 : Int32) r_6 e_7) (cwV 2 hts gX4_swings_X2_told rfl rfl rfl (by decide +kernel) ⟨Nat.le_of_ble_eq_true rfl, Nat.le_of_ble_eq_true rfl⟩) (hP.sub (ws' := (lgW Y a3 a4 (v4_log V))) [3, 4] rfl) hK hN hZ 0 2 rfl rfl rfl hl.1 rfl (Nat.le_of_ble_eq_true rfl) dX4_swings_40 ⟨Nat.le_refl 0, Nat.le_refl 0⟩ ?_
      refine lv_iload_n hx hb dX4_swings_43 rfl (lv_at hl 2 rfl) ?_
      refine lv_icmp_ne (tgt := 73) hx hb dX4_swings_44 (by decide) (fun c_8 => ?_) (fun c_8 => ?_)
      · have hr := hr.trans (if_neg c_8)
        refine lv_iconst (v := (0 : Int32)) hx hb dX4_swings_73 (by decide) ?_
        subst hr
        exact W.zret (ty := .boolean) hx hb hrt (by decide) (fun t ht hW => ⟨_, rfl, rfl, ht⟩) (fun q hq => absurd hq List.not_mem_nil) dX4_swings_74
      · have hr := hr.trans (if_pos c_8)
        refine lv_aload_n hx hb dX4_swings_47 rfl (lv_at hl 1 rfl) ?_
        refine nmv hr (fun r_9 e_10 hr => ?_)
        refine roV_i (As := []) (rest := []) ⟨hx, hb, hml, hown, hts⟩ (k_X4_tick l D Y a0 a1 a2 a3 a4 a5 a6 V r_9 e_10) (cwV 0 hts gX4_swings_X4_tick rfl rfl rfl (by decide +kernel) ⟨Nat.le_of_ble_eq_true rfl, Nat.le_of_ble_eq_true rfl⟩) hP hK hN hZ 0 4 rfl rfl rfl hl.1 rfl (Nat.le_of_ble_eq_true rfl) dX4_swings_48 ⟨Nat.le_refl 0, Nat.le_refl 0⟩ ?_
        refine lv_aload_n hx hb dX4_swings_51 rfl (lv_at hl 1 rfl) ?_
        refine va_get (D := D) (ci := 4) (v := .ref a3) (C := RX4) (T := TX4) (N := 11) hx hb hts inX4 hown hK hP 0 rfl rfl 1 (by decide) (hts (.fieldLink RX4 21 "ShiftMaps$State" "log" "LShiftMaps$Log;") (List.mem_of_getElem? (i := 1) rfl)) (fun _ h9 => h9) rfl dX4_swings_52 ?_
        refine lv_iconst (v := (1 : Int32)) hx hb dX4_swings_55 (by decide) ?_
        refine lv_iconst (v := (0 : Int32)) hx hb dX4_swings_56 (by decide) ?_
        refine nmv hr (fun r_11 e_12 hr => ?_)
        refine roV_i (As := [.int (1 : Int32), .int (0 : Int32)]) (rest := [.int r_9]) ⟨hx, hb, hml, hown, hts⟩ (k_X2_told l D Y a3 a4 (v4_log V) (1 : Int32) (0 : Int32) r_11 e_12) (cwV 2 hts gX4_swings_X2_told rfl rfl rfl (by decide +kernel) ⟨Nat.le_of_ble_eq_true rfl, Nat.le_of_ble_eq_true rfl⟩) (hP.sub (ws' := (lgW Y a3 a4 (v4_log V))) [3, 4] rfl) hK hN hZ 0 2 rfl rfl rfl hl.1 rfl (Nat.le_of_ble_eq_true rfl) dX4_swings_57 ⟨Nat.le_refl 0, Nat.le_refl 0⟩ ?_
        refine lv_isub hx hb dX4_swings_60 ?_
        refine lv_aload_n hx hb dX4_swings_61 rfl (lv_at hl 1 rfl) ?_
        refine lv_iconst (v := (2 : Int32)) hx hb dX4_swings_62 (by decide) ?_
        refine nmv hr (fun r_13 e_14 hr => ?_)
        refine roV_i (As := [.int (2 : Int32)]) (rest := [.int (r_9 - r_11)]) ⟨hx, hb, hml, hown, hts⟩ (k_X4_setting l D Y a0 a1 a2 a3 a4 a5 a6 V (2 : Int32) r_13 e_14) (cwV 1 hts gX4_swings_X4_setting rfl rfl rfl (by decide +kernel) ⟨Nat.le_of_ble_eq_true rfl, Nat.le_of_ble_eq_true rfl⟩) hP hK hN hZ 0 4 rfl rfl rfl hl.1 rfl (Nat.le_of_ble_eq_true rfl) dX4_swings_63 ⟨Nat.le_refl 0, Nat.le_refl 0⟩ ?_
        refine lv_icmp_gt (tgt := 73) hx hb dX4_swings_66 (by decide) (fun c_15 => ?_) (fun c_15 => ?_)
        · have hr := hr.trans (if_pos c_15)
          refine lv_iconst (v := (0 : Int32)) hx hb dX4_swings_73 (by decide) ?_
          subst hr
          exact W.zret (ty := .boolean) hx hb hrt (by decide) (fun t ht hW => ⟨_, rfl, rfl, ht⟩) (fun q hq => absurd hq List.not_mem_nil) dX4_swings_74
        · have hr := hr.trans (if_neg c_15)
          refine lv_iconst (v := (1 : Int32)) hx hb dX4_swings_69 (by decide) ?_
          refine lv_goto (tgt := 74) hx hb dX4_swings_70 (by decide) ?_
          subst hr
          exact W.zret (ty := .boolean) hx hb hrt (by decide) (fun t ht hW => ⟨_, rfl, rfl, ht⟩) (fun q hq => absurd hq List.not_mem_nil) dX4_swings_74
  have B11 : ∀ (z1 : Int32) (ls : Array Slot), R = mf_X4_swings_B11 V z1 → lv_has ls 3 [(0, .ref a0), (1, .int z1)] → W p l e ({ frames := 2, cells := 0, slots := 0, locals := 41 } : Room) s m ([.ref a0, .int x1] : List Value).toArray below meth c s.heap [] 0 0 (MQ below (vp_Si (fun x => x = R)) ([.ref a0, .int x1] : List Value).toArray s 0 0 (fun _ => False)) (F0 m 11 ls []) := by
    intro z1 ls hr hl
    rw [mf_X4_swings_B11] at hr
    refine lv_iload_n hx hb dX4_swings_11 rfl (lv_at hl 1 rfl) ?_
    refine lv_if_ne (tgt := 19) hx hb dX4_swings_12 (by decide) (fun c_2 => ?_) (fun c_2 => ?_)
    · have hr := hr.trans (if_neg c_2)
      refine lv_iconst (v := (0 : Int32)) hx hb dX4_swings_19 (by decide) ?_
      exact B20 z1 (0 : Int32) _ hr (lv_sub hl [0, 1] rfl)
    · have hr := hr.trans (if_pos c_2)
      refine lv_iconst (v := (1 : Int32)) hx hb dX4_swings_15 (by decide) ?_
      refine lv_goto (tgt := 20) hx hb dX4_swings_16 (by decide) ?_
      exact B20 z1 (1 : Int32) _ hr (lv_sub hl [0, 1] rfl)
  rw [mf_X4_swings] at hr
  refine lv_iload_n hx hb dX4_swings_0 rfl (lv_at hl 1 rfl) ?_
  refine lv_if_eq (tgt := 11) hx hb dX4_swings_1 (by decide) (fun c_1 => ?_) (fun c_1 => ?_)
  · have hr := hr.trans (if_pos c_1)
    exact B11 x1 _ hr (lv_sub hl [0, 1] rfl)
  · have hr := hr.trans (if_neg c_1)
    refine lv_iload_n hx hb dX4_swings_4 rfl (lv_at hl 1 rfl) ?_
    refine lv_iconst (v := (1 : Int32)) hx hb dX4_swings_5 (by decide) ?_
    refine lv_icmp_eq (tgt := 11) hx hb dX4_swings_6 (by decide) (fun c_16 => ?_) (fun c_16 => ?_)
    · have hr := hr.trans (if_pos c_16)
      exact B11 x1 _ hr (lv_sub hl [0, 1] rfl)
    · have hr := hr.trans (if_neg c_16)
      refine lv_iconst (v := (0 : Int32)) hx hb dX4_swings_9 (by decide) ?_
      subst hr
      exact W.zret (ty := .boolean) hx hb hrt (by decide) (fun t ht hW => ⟨_, rfl, rfl, ht⟩) (fun q hq => absurd hq List.not_mem_nil) dX4_swings_10
