set_option maxHeartbeats 4000000 in
set_option maxRecDepth 100000 in
theorem k_X4_goOnWithChange (l : Launch) (D : va_G) (Y : Nat → ClassId) (a0 a1 a2 a3 a4 a5 a6 : Nat) (V : St) (R : St) (hr : R = mf_X4_goOnWithChange V) : Met l yX4_goOnWithChange wsX4_goOnWithChange ({ frames := 1, cells := 0, slots := 0, locals := 21 } : Room) (va_Pc [.ref a0] (PW D Y (stW Y a0 a1 a2 a3 a4 a5 a6 V))) (va_Qv (S := Unit) (fun _ => True) (fun _ t => va_P D vwCl (stW Y a0 a1 a2 a3 a4 a5 a6 R) t.heap) (wA (stW Y a0 a1 a2 a3 a4 a5 a6 V))) 0 0 (wA (stW Y a0 a1 a2 a3 a4 a5 a6 V)) := by
  refine Met.ofW (cc := cX4_goOnWithChange) (maxL := 1) (ret := none) (by decide) rfl ?_
  intro p e s m args below meth c s₁ B hml hv
  obtain ⟨rfl, hP, hK, hN, hZ, hD⟩ := hv
  have hx := B.exec
  have hb := B.bytes
  have hrt := B.returns
  have hts := atoms_spec (ws := wsX4_goOnWithChange) B.pre
  have hown : s.vm.findClass RX4 = some m.cls := findClass_of_methodNamed B.named
  have hlocks := B.notSynchronized
  have inX4 : ∀ w ∈ u_ws RX4 TX4 11, w ∈ wsX4_goOnWithChange := uin_at 14 rfl
  generalize hAe : wA (stW Y a0 a1 a2 a3 a4 a5 a6 V) = A at hZ hD ⊢
  have hS : va_S A s.heap s.heap [] := va_S.rf
  have hl := lv_entry ([.ref a0]) (n := 1) (Nat.le_of_ble_eq_true rfl)
  rw [lg_entry_eq]
  generalize (lg_sl ([.ref a0]) ++ List.replicate (1 - (lg_sl ([.ref a0])).length) Slot.unset).toArray = ls at hl ⊢
  have hl : lv_has ls 1 [(0, .ref a0)] := hl
  rw [mf_X4_goOnWithChange] at hr
  suffices KK : ∀ (H : Heap) (locs : List Loc), va_P D vwCl (stW Y a0 a1 a2 a3 a4 a5 a6 V) H → va_S A s.heap H locs → W p l e ({ frames := 1, cells := 0, slots := 0, locals := 21 } : Room) s m ([.ref a0] : List Value).toArray below meth c H locs 0 0 (MQ below (va_Qv (S := Unit) (fun _ => True) (fun _ t => va_P D vwCl (stW Y a0 a1 a2 a3 a4 a5 a6 R) t.heap) A) ([.ref a0] : List Value).toArray s 0 0 A) (F0 m 0 ls []) from KK _ _ hP hS
  intro H locs hP hS
  refine lv_aload_n hx hb dX4_goOnWithChange_0 rfl (lv_at hl 0 rfl) ?_
  refine nmv hr (fun r_1 e_2 hr => ?_)
  refine roV_i (As := []) (rest := []) ⟨hx, hb, hml, hown, hts⟩ (k_X4_isChanging l D Y a0 a1 a2 a3 a4 a5 a6 V r_1 e_2) (cwV 0 hts gX4_goOnWithChange_X4_isChanging rfl rfl rfl (by decide +kernel) ⟨Nat.le_of_ble_eq_true rfl, Nat.le_of_ble_eq_true rfl⟩) hP hK hN (hZ.at hS).F 0 4 rfl rfl rfl hl.1 rfl (Nat.le_of_ble_eq_true rfl) dX4_goOnWithChange_1 ⟨Nat.le_refl 0, Nat.le_refl 0⟩ ?_
  refine lv_if_ne (tgt := 8) hx hb dX4_goOnWithChange_4 (by decide) (fun c_3 => ?_) (fun c_3 => ?_)
  · have hr := hr.trans (if_neg c_3)
    refine lv_aload_n hx hb dX4_goOnWithChange_8 rfl (lv_at hl 0 rfl) ?_
    refine lv_dup hx hb dX4_goOnWithChange_9 rfl ?_
    refine va_get (D := D) (ci := 4) (v := .int (v4_done V)) (C := RX4) (T := TX4) (N := 11) hx hb hts inX4 hown hK hP 0 rfl rfl 6 (by decide) (hts (.fieldLink RX4 42 "ShiftMaps$State" "done" "I") (List.mem_of_getElem? (i := 1) rfl)) (fun _ h9 => h9) rfl dX4_goOnWithChange_10 ?_
    refine lv_iconst (v := (1 : Int32)) hx hb dX4_goOnWithChange_13 (by decide) ?_
    refine lv_iadd hx hb dX4_goOnWithChange_14 ?_
    refine va_put (D := D) (ci := 4) (v := .int ((v4_done V) + (1 : Int32))) (ty := .int) (C := RX4) (T := TX4) (N := 11) hx hb hts inX4 tyX4 tyX4_ok nmX4 hown hK hP hD hS 0 rfl rfl 6 (by decide) (hts (.fieldLink RX4 42 "ShiftMaps$State" "done" "I") (List.mem_of_getElem? (i := 1) rfl)) (fun _ h9 => h9) rfl (by decide +kernel) rfl rfl (Nat.le_of_ble_eq_true rfl) dX4_goOnWithChange_15 (fun H locs hP hD hS => ?_)
    refine nmv hr (fun V_6 e_7 hr => ?_)
    have hP : va_P D vwCl (stW Y a0 a1 a2 a3 a4 a5 a6 V_6) H := by rw [e_7]; exact hP
    have hD : va_D A (stW Y a0 a1 a2 a3 a4 a5 a6 V_6) := va_D_adr hD rfl
    refine lv_aload_n hx hb dX4_goOnWithChange_18 rfl (lv_at hl 0 rfl) ?_
    refine va_get (D := D) (ci := 4) (v := .int (v4_done V_6)) (C := RX4) (T := TX4) (N := 11) hx hb hts inX4 hown hK hP 0 rfl rfl 6 (by decide) (hts (.fieldLink RX4 42 "ShiftMaps$State" "done" "I") (List.mem_of_getElem? (i := 1) rfl)) (fun _ h9 => h9) rfl dX4_goOnWithChange_19 ?_
    refine lv_aload_n hx hb dX4_goOnWithChange_22 rfl (lv_at hl 0 rfl) ?_
    refine lv_iconst (v := (0 : Int32)) hx hb dX4_goOnWithChange_23 (by decide) ?_
    refine nmv hr (fun r_8 e_9 hr => ?_)
    refine roV_i (As := [.int (0 : Int32)]) (rest := [.int (v4_done V_6)]) ⟨hx, hb, hml, hown, hts⟩ (k_X4_setting l D Y a0 a1 a2 a3 a4 a5 a6 V_6 (0 : Int32) r_8 e_9) (cwV 1 hts gX4_goOnWithChange_X4_setting rfl rfl rfl (by decide +kernel) ⟨Nat.le_of_ble_eq_true rfl, Nat.le_of_ble_eq_true rfl⟩) hP hK hN (hZ.at hS).F 0 4 rfl rfl rfl hl.1 rfl (Nat.le_of_ble_eq_true rfl) dX4_goOnWithChange_24 ⟨Nat.le_refl 0, Nat.le_refl 0⟩ ?_
    refine lv_icmp_lt (tgt := 43) hx hb dX4_goOnWithChange_27 (by decide) (fun c_10 => ?_) (fun c_10 => ?_)
    · have hr := hr.trans (if_pos c_10)
      subst hr
      exact W.vret hx hb hrt (fun t ht hW => ⟨⟨(), rfl, trivial, by show va_P D vwCl _ t.heap; rw [ht]; exact hP⟩, hS.F ht⟩) hS.2.2 dX4_goOnWithChange_43
    · have hr := hr.trans (if_neg c_10)
      refine lv_aload_n hx hb dX4_goOnWithChange_30 rfl (lv_at hl 0 rfl) ?_
      refine lv_aload_n hx hb dX4_goOnWithChange_31 rfl (lv_at hl 0 rfl) ?_
      refine va_get (D := D) (ci := 4) (v := .int (v4_target V_6)) (C := RX4) (T := TX4) (N := 11) hx hb hts inX4 hown hK hP 0 rfl rfl 5 (by decide) (hts (.fieldLink RX4 39 "ShiftMaps$State" "target" "I") (List.mem_of_getElem? (i := 2) rfl)) (fun _ h9 => h9) rfl dX4_goOnWithChange_32 ?_
      refine va_put (D := D) (ci := 4) (v := .int (v4_target V_6)) (ty := .int) (C := RX4) (T := TX4) (N := 11) hx hb hts inX4 tyX4 tyX4_ok nmX4 hown hK hP hD hS 0 rfl rfl 4 (by decide) (hts (.fieldLink RX4 35 "ShiftMaps$State" "gear" "I") (List.mem_of_getElem? (i := 3) rfl)) (fun _ h9 => h9) rfl (by decide +kernel) rfl rfl (Nat.le_of_ble_eq_true rfl) dX4_goOnWithChange_35 (fun H locs hP hD hS => ?_)
      refine nmv hr (fun V_13 e_14 hr => ?_)
      have hP : va_P D vwCl (stW Y a0 a1 a2 a3 a4 a5 a6 V_13) H := by rw [e_14]; exact hP
      have hD : va_D A (stW Y a0 a1 a2 a3 a4 a5 a6 V_13) := va_D_adr hD rfl
      refine lv_aload_n hx hb dX4_goOnWithChange_38 rfl (lv_at hl 0 rfl) ?_
      refine lv_iconst (v := (0 : Int32)) hx hb dX4_goOnWithChange_39 (by decide) ?_
      refine va_put (D := D) (ci := 4) (v := .int (0 : Int32)) (ty := .int) (C := RX4) (T := TX4) (N := 11) hx hb hts inX4 tyX4 tyX4_ok nmX4 hown hK hP hD hS 0 rfl rfl 5 (by decide) (hts (.fieldLink RX4 39 "ShiftMaps$State" "target" "I") (List.mem_of_getElem? (i := 2) rfl)) (fun _ h9 => h9) rfl (by decide +kernel) rfl rfl (Nat.le_of_ble_eq_true rfl) dX4_goOnWithChange_40 (fun H locs hP hD hS => ?_)
      refine nmv hr (fun V_17 e_18 hr => ?_)
      have hP : va_P D vwCl (stW Y a0 a1 a2 a3 a4 a5 a6 V_17) H := by rw [e_18]; exact hP
      have hD : va_D A (stW Y a0 a1 a2 a3 a4 a5 a6 V_17) := va_D_adr hD rfl
      subst hr
      exact W.vret hx hb hrt (fun t ht hW => ⟨⟨(), rfl, trivial, by show va_P D vwCl _ t.heap; rw [ht]; exact hP⟩, hS.F ht⟩) hS.2.2 dX4_goOnWithChange_43
  · have hr := hr.trans (if_pos c_3)
    subst hr
    exact W.vret hx hb hrt (fun t ht hW => ⟨⟨(), rfl, trivial, by show va_P D vwCl _ t.heap; rw [ht]; exact hP⟩, hS.F ht⟩) hS.2.2 dX4_goOnWithChange_7

set_option maxHeartbeats 4000000 in
set_option maxRecDepth 100000 in
theorem k_X4_kickdownGear (l : Launch) (D : va_G) (Y : Nat → ClassId) (a0 a1 a2 a3 a4 a5 a6 : Nat) (V : St) (x1 : UInt32) (R : Int32) (hr : some R = mf_X4_kickdownGear V x1) : Met l yX4_kickdownGear wsX4_kickdownGear ({ frames := 2, cells := 0, slots := 0, locals := 45 } : Room) (va_Pc [.ref a0, .float x1] (PR D Y (stW Y a0 a1 a2 a3 a4 a5 a6 V))) (vp_Si (fun x => x = R)) 0 0 (fun _ => False) := by
  refine Met.ofW (cc := cX4_kickdownGear) (maxL := 3) (ret := (some .int)) (by decide) rfl ?_
  intro p e s m args below meth c s₁ B hml hv
  obtain ⟨rfl, hP, hK, hN, hZ⟩ := hv
  have hx := B.exec
  have hb := B.bytes
  have hrt := B.returns
  have hts := atoms_spec (ws := wsX4_kickdownGear) B.pre
  have hown : s.vm.findClass RX4 = some m.cls := findClass_of_methodNamed B.named
  have hlocks := B.notSynchronized
  have inX4 : ∀ w ∈ u_ws RX4 TX4 11, w ∈ wsX4_kickdownGear := uin_at 17 rfl
  have hS : va_S (fun _ => False) s.heap s.heap [] := va_S.rf
  have hl := lv_entry ([.ref a0, .float x1]) (n := 3) (Nat.le_of_ble_eq_true rfl)
  rw [lg_entry_eq]
  generalize (lg_sl ([.ref a0, .float x1]) ++ List.replicate (3 - (lg_sl ([.ref a0, .float x1])).length) Slot.unset).toArray = ls at hl ⊢
  have hl : lv_has ls 3 [(0, .ref a0), (1, .float x1)] := hl
  have B11 : ∀ (fu : Nat), ∀ (z1 : UInt32) (z2 : Int32) (ls : Array Slot), some R = mf_X4_kickdownGear_B11 fu V z1 z2 → lv_has ls 3 [(0, .ref a0), (1, .float z1), (2, .int z2)] → W p l e ({ frames := 2, cells := 0, slots := 0, locals := 45 } : Room) s m ([.ref a0, .float x1] : List Value).toArray below meth c s.heap [] 0 0 (MQ below (vp_Si (fun x => x = R)) ([.ref a0, .float x1] : List Value).toArray s 0 0 (fun _ => False)) (F0 m 11 ls []) := by
    intro fu
    induction fu with
    | zero =>
      intro z1 z2 ls hr hl
      rw [mf_X4_kickdownGear_B11] at hr
      cases hr
    | succ fu ih =>
      intro z1 z2 ls hr hl
      rw [mf_X4_kickdownGear_B11] at hr
      refine lv_iload_n hx hb dX4_kickdownGear_11 rfl (lv_at hl 2 rfl) ?_
      refine lv_aload_n hx hb dX4_kickdownGear_12 rfl (lv_at hl 0 rfl) ?_
      refine va_get (D := D) (ci := 4) (v := .int (v4_gear V)) (C := RX4) (T := TX4) (N := 11) hx hb hts inX4 hown hK hP 0 rfl rfl 4 (by decide) (hts (.fieldLink RX4 35 "ShiftMaps$State" "gear" "I") (List.mem_of_getElem? (i := 1) rfl)) (fun _ h9 => h9) rfl dX4_kickdownGear_13 ?_
      refine lv_icmp_ge (tgt := 39) hx hb dX4_kickdownGear_16 (by decide) (fun c_3 => ?_) (fun c_3 => ?_)
      · have hr := hr.trans (if_pos c_3)
        refine lv_iconst (v := (0 : Int32)) hx hb dX4_kickdownGear_39 (by decide) ?_
        have hr := Option.some.inj hr
        subst hr
        exact W.iret hx hb hrt (fun t ht hW => ⟨_, rfl, rfl, ht⟩) (fun q hq => absurd hq List.not_mem_nil) dX4_kickdownGear_40
      · have hr := hr.trans (if_neg c_3)
        refine lv_aload_n hx hb dX4_kickdownGear_19 rfl (lv_at hl 0 rfl) ?_
        refine va_get (D := D) (ci := 4) (v := .ref a1) (C := RX4) (T := TX4) (N := 11) hx hb hts inX4 hown hK hP 0 rfl rfl 0 (by decide) (hts (.fieldLink RX4 12 "ShiftMaps$State" "maps" "LShiftMaps$Maps;") (List.mem_of_getElem? (i := 6) rfl)) (fun _ h9 => h9) rfl dX4_kickdownGear_20 ?_
        refine lv_fload_n hx hb dX4_kickdownGear_23 rfl (lv_at hl 1 rfl) ?_
        refine lv_iload_n hx hb dX4_kickdownGear_24 rfl (lv_at hl 2 rfl) ?_
        refine nmv hr (fun r_4 e_5 hr => ?_)
        refine roV_i (As := [.float z1, .int z2]) (rest := []) ⟨hx, hb, hml, hown, hts⟩ (k_X3_exceeds l D Y a1 a2 (v4_maps V) z1 z2 r_4 e_5) (cwV 2 hts gX4_kickdownGear_X3_exceeds rfl rfl rfl (by decide +kernel) ⟨Nat.le_of_ble_eq_true rfl, Nat.le_of_ble_eq_true rfl⟩) (hP.sub (ws' := (mpW Y a1 a2 (v4_maps V))) [1, 2] rfl) hK hN hZ 0 3 rfl rfl rfl hl.1 rfl (Nat.le_of_ble_eq_true rfl) dX4_kickdownGear_25 ⟨Nat.le_refl 0, Nat.le_refl 0⟩ ?_
        refine lv_if_ne (tgt := 33) hx hb dX4_kickdownGear_28 (by decide) (fun c_6 => ?_) (fun c_6 => ?_)
        · have hr := hr.trans (if_neg c_6)
          refine lv_iinc (v := (z2 + (1 : Int32))) (lv' := [(2, .int (z2 + (1 : Int32))), (0, .ref a0), (1, .float z1)]) hx hb dX4_kickdownGear_33 hl (k := 2) rfl rfl (by decide) rfl (fun ls hl => ?_)
          refine lv_goto (tgt := 11) hx hb dX4_kickdownGear_36 (by decide) ?_
          exact ih z1 (z2 + (1 : Int32)) _ hr (lv_sub hl [1, 2, 0] rfl)
        · have hr := hr.trans (if_pos c_6)
          refine lv_iload_n hx hb dX4_kickdownGear_31 rfl (lv_at hl 2 rfl) ?_
          have hr := Option.some.inj hr
          subst hr
          exact W.iret hx hb hrt (fun t ht hW => ⟨_, rfl, rfl, ht⟩) (fun q hq => absurd hq List.not_mem_nil) dX4_kickdownGear_32
  rw [mf_X4_kickdownGear] at hr
  refine lv_aload_n hx hb dX4_kickdownGear_0 rfl (lv_at hl 0 rfl) ?_
  refine va_get (D := D) (ci := 4) (v := .int (v4_gear V)) (C := RX4) (T := TX4) (N := 11) hx hb hts inX4 hown hK hP 0 rfl rfl 4 (by decide) (hts (.fieldLink RX4 35 "ShiftMaps$State" "gear" "I") (List.mem_of_getElem? (i := 1) rfl)) (fun _ h9 => h9) rfl dX4_kickdownGear_1 ?_
  refine lv_iconst (v := (2 : Int32)) hx hb dX4_kickdownGear_4 (by decide) ?_
  refine lv_isub hx hb dX4_kickdownGear_5 ?_
  refine lv_iconst (v := (1 : Int32)) hx hb dX4_kickdownGear_6 (by decide) ?_
  refine va_mmax hx hb (hml.trans hl.1.symm) hown (hts (.methodLink RX4 125 Lib.Math.max.name) (List.mem_of_getElem? (i := 2) rfl)) (hts (.static Lib.Math.max.name) (List.mem_of_getElem? (i := 3) rfl)) (hts (.initialized "java/lang/Math") (List.mem_of_getElem? (i := 4) rfl)) (hts (.code Lib.Math.max.name Lib.Math.max.code 2 (some .int)) (List.mem_of_getElem? (i := 5) rfl)) (Nat.le_of_ble_eq_true rfl) (Nat.le_of_ble_eq_true rfl) (Nat.le_refl 0) (Nat.le_refl 0) dX4_kickdownGear_7 ?_
  refine nmv hr (fun n_1 e_2 hr => ?_)
  rw [← e_2]
  refine lv_istore_n (lv' := [(2, .int n_1), (0, .ref a0), (1, .float x1)]) hx hb dX4_kickdownGear_10 rfl hl (by decide) rfl (fun ls hl => ?_)
  exact B11 6 x1 n_1 _ hr (lv_sub hl [1, 2, 0] rfl)

set_option maxHeartbeats 4000000 in
set_option maxRecDepth 100000 in
theorem k_X4_reasonToChange (l : Launch) (D : va_G) (Y : Nat → ClassId) (a0 a1 a2 a3 a4 a5 a6 : Nat) (V : St) (x1 : UInt32) (x2 : UInt32) (R : Int32) (hr : some R = mf_X4_reasonToChange V x1 x2) : Met l yX4_reasonToChange wsX4_reasonToChange ({ frames := 3, cells := 0, slots := 0, locals := 68 } : Room) (va_Pc [.ref a0, .float x1, .float x2] (PR D Y (stW Y a0 a1 a2 a3 a4 a5 a6 V))) (vp_Si (fun x => x = R)) 0 0 (fun _ => False) := by
  refine Met.ofW (cc := cX4_reasonToChange) (maxL := 3) (ret := (some .int)) (by decide) rfl ?_
  intro p e s m args below meth c s₁ B hml hv
  obtain ⟨rfl, hP, hK, hN, hZ⟩ := hv
  have hx := B.exec
  have hb := B.bytes
  have hrt := B.returns
  have hts := atoms_spec (ws := wsX4_reasonToChange) B.pre
  have hown : s.vm.findClass RX4 = some m.cls := findClass_of_methodNamed B.named
  have hlocks := B.notSynchronized
  have inX4 : ∀ w ∈ u_ws RX4 TX4 11, w ∈ wsX4_reasonToChange := uin_at 38 rfl
  have hS : va_S (fun _ => False) s.heap s.heap [] := va_S.rf
  have hl := lv_entry ([.ref a0, .float x1, .float x2]) (n := 3) (Nat.le_of_ble_eq_true rfl)
  rw [lg_entry_eq]
  generalize (lg_sl ([.ref a0, .float x1, .float x2]) ++ List.replicate (3 - (lg_sl ([.ref a0, .float x1, .float x2])).length) Slot.unset).toArray = ls at hl ⊢
  have hl : lv_has ls 3 [(0, .ref a0), (1, .float x1), (2, .float x2)] := hl
  have B95 : ∀ (z1 : UInt32) (z2 : UInt32) (ls : Array Slot), some R = mf_X4_reasonToChange_B95 V z1 z2 → lv_has ls 3 [(0, .ref a0), (1, .float z1), (2, .float z2)] → W p l e ({ frames := 3, cells := 0, slots := 0, locals := 68 } : Room) s m ([.ref a0, .float x1, .float x2] : List Value).toArray below meth c s.heap [] 0 0 (MQ below (vp_Si (fun x => x = R)) ([.ref a0, .float x1, .float x2] : List Value).toArray s 0 0 (fun _ => False)) (F0 m 95 ls []) := by
    intro z1 z2 ls hr hl
    rw [mf_X4_reasonToChange_B95] at hr
    refine lv_aload_n hx hb dX4_reasonToChange_95 rfl (lv_at hl 0 rfl) ?_
    refine va_get (D := D) (ci := 4) (v := .int (v4_gear V)) (C := RX4) (T := TX4) (N := 11) hx hb hts inX4 hown hK hP 0 rfl rfl 4 (by decide) (hts (.fieldLink RX4 35 "ShiftMaps$State" "gear" "I") (List.mem_of_getElem? (i := 1) rfl)) (fun _ h9 => h9) rfl dX4_reasonToChange_96 ?_
    refine lv_iconst (v := (1 : Int32)) hx hb dX4_reasonToChange_99 (by decide) ?_
    refine lv_icmp_le (tgt := 124) hx hb dX4_reasonToChange_100 (by decide) (fun c_8 => ?_) (fun c_8 => ?_)
    · have hr := hr.trans (if_pos c_8)
      refine lv_iconst (v := (-1 : Int32)) hx hb dX4_reasonToChange_124 (by decide) ?_
      have hr := Option.some.inj hr
      subst hr
      exact W.iret hx hb hrt (fun t ht hW => ⟨_, rfl, rfl, ht⟩) (fun q hq => absurd hq List.not_mem_nil) dX4_reasonToChange_125
    · have hr := hr.trans (if_neg c_8)
      refine lv_fload_n hx hb dX4_reasonToChange_103 rfl (lv_at hl 1 rfl) ?_
      refine lv_aload_n hx hb dX4_reasonToChange_104 rfl (lv_at hl 0 rfl) ?_
      refine va_get (D := D) (ci := 4) (v := .ref a1) (C := RX4) (T := TX4) (N := 11) hx hb hts inX4 hown hK hP 0 rfl rfl 0 (by decide) (hts (.fieldLink RX4 12 "ShiftMaps$State" "maps" "LShiftMaps$Maps;") (List.mem_of_getElem? (i := 2) rfl)) (fun _ h9 => h9) rfl dX4_reasonToChange_105 ?_
      refine lv_aload_n hx hb dX4_reasonToChange_108 rfl (lv_at hl 0 rfl) ?_
      refine va_get (D := D) (ci := 4) (v := .int (v4_gear V)) (C := RX4) (T := TX4) (N := 11) hx hb hts inX4 hown hK hP 0 rfl rfl 4 (by decide) (hts (.fieldLink RX4 35 "ShiftMaps$State" "gear" "I") (List.mem_of_getElem? (i := 1) rfl)) (fun _ h9 => h9) rfl dX4_reasonToChange_109 ?_
      refine lv_iconst (v := (1 : Int32)) hx hb dX4_reasonToChange_112 (by decide) ?_
      refine lv_isub hx hb dX4_reasonToChange_113 ?_
      refine lv_fload_n hx hb dX4_reasonToChange_114 rfl (lv_at hl 2 rfl) ?_
      refine bdv hr (fun r_9 e_10 hr => ?_)
      refine roV_f (As := [.int ((v4_gear V) - (1 : Int32)), .float z2]) (rest := [.float z1]) ⟨hx, hb, hml, hown, hts⟩ (k_X3_downTo l D Y a1 a2 (v4_maps V) ((v4_gear V) - (1 : Int32)) z2 r_9 e_10) (cwV 2 hts gX4_reasonToChange_X3_downTo rfl rfl rfl (by decide +kernel) ⟨Nat.le_of_ble_eq_true rfl, Nat.le_of_ble_eq_true rfl⟩) (hP.sub (ws' := (mpW Y a1 a2 (v4_maps V))) [1, 2] rfl) hK hN hZ 0 3 rfl rfl rfl hl.1 rfl (Nat.le_of_ble_eq_true rfl) dX4_reasonToChange_115 ⟨Nat.le_refl 0, Nat.le_refl 0⟩ ?_
      refine lv_fcmp hx hb dX4_reasonToChange_118 ?_
      refine lv_if_ge (tgt := 124) hx hb dX4_reasonToChange_119 (by decide) (fun c_11 => ?_) (fun c_11 => ?_)
      · have hr := hr.trans (if_pos c_11)
        refine lv_iconst (v := (-1 : Int32)) hx hb dX4_reasonToChange_124 (by decide) ?_
        have hr := Option.some.inj hr
        subst hr
        exact W.iret hx hb hrt (fun t ht hW => ⟨_, rfl, rfl, ht⟩) (fun q hq => absurd hq List.not_mem_nil) dX4_reasonToChange_125
      · have hr := hr.trans (if_neg c_11)
        refine lv_iconst (v := (1 : Int32)) hx hb dX4_reasonToChange_122 (by decide) ?_
        have hr := Option.some.inj hr
        subst hr
        exact W.iret hx hb hrt (fun t ht hW => ⟨_, rfl, rfl, ht⟩) (fun q hq => absurd hq List.not_mem_nil) dX4_reasonToChange_123
  have B52 : ∀ (z1 : UInt32) (z2 : UInt32) (ls : Array Slot), some R = mf_X4_reasonToChange_B52 V z1 z2 → lv_has ls 3 [(0, .ref a0), (1, .float z1), (2, .float z2)] → W p l e ({ frames := 3, cells := 0, slots := 0, locals := 68 } : Room) s m ([.ref a0, .float x1, .float x2] : List Value).toArray below meth c s.heap [] 0 0 (MQ below (vp_Si (fun x => x = R)) ([.ref a0, .float x1, .float x2] : List Value).toArray s 0 0 (fun _ => False)) (F0 m 52 ls []) := by
    intro z1 z2 ls hr hl
    rw [mf_X4_reasonToChange_B52] at hr
    refine lv_aload_n hx hb dX4_reasonToChange_52 rfl (lv_at hl 0 rfl) ?_
    refine va_get (D := D) (ci := 4) (v := .int (v4_handMode V)) (C := RX4) (T := TX4) (N := 11) hx hb hts inX4 hown hK hP 0 rfl rfl 8 (by decide) (hts (.fieldLink RX4 48 "ShiftMaps$State" "handMode" "Z") (List.mem_of_getElem? (i := 4) rfl)) (fun _ h9 => h9) rfl dX4_reasonToChange_53 ?_
    refine lv_if_ne (tgt := 66) hx hb dX4_reasonToChange_56 (by decide) (fun c_5 => ?_) (fun c_5 => ?_)
    · have hr := hr.trans (if_neg c_5)
      refine lv_iconst (v := (-1 : Int32)) hx hb dX4_reasonToChange_66 (by decide) ?_
      have hr := Option.some.inj hr
      subst hr
      exact W.iret hx hb hrt (fun t ht hW => ⟨_, rfl, rfl, ht⟩) (fun q hq => absurd hq List.not_mem_nil) dX4_reasonToChange_67
    · have hr := hr.trans (if_pos c_5)
      refine lv_aload_n hx hb dX4_reasonToChange_59 rfl (lv_at hl 0 rfl) ?_
      refine va_get (D := D) (ci := 4) (v := .int (v4_held V)) (C := RX4) (T := TX4) (N := 11) hx hb hts inX4 hown hK hP 0 rfl rfl 7 (by decide) (hts (.fieldLink RX4 45 "ShiftMaps$State" "held" "I") (List.mem_of_getElem? (i := 5) rfl)) (fun _ h9 => h9) rfl dX4_reasonToChange_60 ?_
      refine lv_if_le (tgt := 68) hx hb dX4_reasonToChange_63 (by decide) (fun c_6 => ?_) (fun c_6 => ?_)
      · have hr := hr.trans (if_pos c_6)
        refine lv_aload_n hx hb dX4_reasonToChange_68 rfl (lv_at hl 0 rfl) ?_
        refine va_get (D := D) (ci := 4) (v := .int (v4_gear V)) (C := RX4) (T := TX4) (N := 11) hx hb hts inX4 hown hK hP 0 rfl rfl 4 (by decide) (hts (.fieldLink RX4 35 "ShiftMaps$State" "gear" "I") (List.mem_of_getElem? (i := 1) rfl)) (fun _ h9 => h9) rfl dX4_reasonToChange_69 ?_
        refine lv_iconst (v := (5 : Int32)) hx hb dX4_reasonToChange_72 (by decide) ?_
        refine lv_icmp_ge (tgt := 95) hx hb dX4_reasonToChange_73 (by decide) (fun c_7 => ?_) (fun c_7 => ?_)
        · have hr := hr.trans (if_pos c_7)
          exact B95 z1 z2 _ hr (lv_sub hl [0, 1, 2] rfl)
        · have hr := hr.trans (if_neg c_7)
          refine lv_fload_n hx hb dX4_reasonToChange_76 rfl (lv_at hl 1 rfl) ?_
          refine lv_aload_n hx hb dX4_reasonToChange_77 rfl (lv_at hl 0 rfl) ?_
          refine va_get (D := D) (ci := 4) (v := .ref a1) (C := RX4) (T := TX4) (N := 11) hx hb hts inX4 hown hK hP 0 rfl rfl 0 (by decide) (hts (.fieldLink RX4 12 "ShiftMaps$State" "maps" "LShiftMaps$Maps;") (List.mem_of_getElem? (i := 2) rfl)) (fun _ h9 => h9) rfl dX4_reasonToChange_78 ?_
          refine lv_aload_n hx hb dX4_reasonToChange_81 rfl (lv_at hl 0 rfl) ?_
          refine va_get (D := D) (ci := 4) (v := .int (v4_gear V)) (C := RX4) (T := TX4) (N := 11) hx hb hts inX4 hown hK hP 0 rfl rfl 4 (by decide) (hts (.fieldLink RX4 35 "ShiftMaps$State" "gear" "I") (List.mem_of_getElem? (i := 1) rfl)) (fun _ h9 => h9) rfl dX4_reasonToChange_82 ?_
          refine lv_fload_n hx hb dX4_reasonToChange_85 rfl (lv_at hl 2 rfl) ?_
          refine bdv hr (fun r_12 e_13 hr => ?_)
          refine roV_f (As := [.int (v4_gear V), .float z2]) (rest := [.float z1]) ⟨hx, hb, hml, hown, hts⟩ (k_X3_upFrom l D Y a1 a2 (v4_maps V) (v4_gear V) z2 r_12 e_13) (cwV 2 hts gX4_reasonToChange_X3_upFrom rfl rfl rfl (by decide +kernel) ⟨Nat.le_of_ble_eq_true rfl, Nat.le_of_ble_eq_true rfl⟩) (hP.sub (ws' := (mpW Y a1 a2 (v4_maps V))) [1, 2] rfl) hK hN hZ 0 3 rfl rfl rfl hl.1 rfl (Nat.le_of_ble_eq_true rfl) dX4_reasonToChange_86 ⟨Nat.le_refl 0, Nat.le_refl 0⟩ ?_
          refine lv_fcmp hx hb dX4_reasonToChange_89 ?_
          refine lv_if_le (tgt := 95) hx hb dX4_reasonToChange_90 (by decide) (fun c_14 => ?_) (fun c_14 => ?_)
          · have hr := hr.trans (if_pos c_14)
            exact B95 z1 z2 _ hr (lv_sub hl [0, 1, 2] rfl)
          · have hr := hr.trans (if_neg c_14)
            refine lv_iconst (v := (0 : Int32)) hx hb dX4_reasonToChange_93 (by decide) ?_
            have hr := Option.some.inj hr
            subst hr
            exact W.iret hx hb hrt (fun t ht hW => ⟨_, rfl, rfl, ht⟩) (fun q hq => absurd hq List.not_mem_nil) dX4_reasonToChange_94
      · have hr := hr.trans (if_neg c_6)
        refine lv_iconst (v := (-1 : Int32)) hx hb dX4_reasonToChange_66 (by decide) ?_
        have hr := Option.some.inj hr
        subst hr
        exact W.iret hx hb hrt (fun t ht hW => ⟨_, rfl, rfl, ht⟩) (fun q hq => absurd hq List.not_mem_nil) dX4_reasonToChange_67
  have B25 : ∀ (z1 : UInt32) (z2 : UInt32) (ls : Array Slot), some R = mf_X4_reasonToChange_B25 V z1 z2 → lv_has ls 3 [(0, .ref a0), (1, .float z1), (2, .float z2)] → W p l e ({ frames := 3, cells := 0, slots := 0, locals := 68 } : Room) s m ([.ref a0, .float x1, .float x2] : List Value).toArray below meth c s.heap [] 0 0 (MQ below (vp_Si (fun x => x = R)) ([.ref a0, .float x1, .float x2] : List Value).toArray s 0 0 (fun _ => False)) (F0 m 25 ls []) := by
    intro z1 z2 ls hr hl
    rw [mf_X4_reasonToChange_B25] at hr
    refine lv_fload_n hx hb dX4_reasonToChange_25 rfl (lv_at hl 2 rfl) ?_
    refine nmv hr (fun r_2 e_3 hr => ?_)
    refine roS_i (As := [.float z2]) (rest := []) ⟨hx, hb, hml, hown, hts⟩ (k_X4_isDeep l D Y  z2 r_2 e_3) (va_cwS 1 hts gX4_reasonToChange_X4_isDeep rfl rfl rfl (by decide +kernel) ⟨Nat.le_of_ble_eq_true rfl, Nat.le_of_ble_eq_true rfl⟩) (hP.sub (ws' := []) [] rfl) hK hN hZ rfl hl.1 rfl (Nat.le_of_ble_eq_true rfl) dX4_reasonToChange_26 ⟨Nat.le_refl 0, Nat.le_refl 0⟩ ?_
    refine lv_if_eq (tgt := 52) hx hb dX4_reasonToChange_29 (by decide) (fun c_4 => ?_) (fun c_4 => ?_)
    · have hr := hr.trans (if_pos c_4)
      exact B52 z1 z2 _ hr (lv_sub hl [0, 1, 2] rfl)
    · have hr := hr.trans (if_neg c_4)
      refine lv_aload_n hx hb dX4_reasonToChange_32 rfl (lv_at hl 0 rfl) ?_
      refine va_get (D := D) (ci := 4) (v := .float (v4_latestPedal V)) (C := RX4) (T := TX4) (N := 11) hx hb hts inX4 hown hK hP 0 rfl rfl 10 (by decide) (hts (.fieldLink RX4 56 "ShiftMaps$State" "latestPedal" "F") (List.mem_of_getElem? (i := 3) rfl)) (fun _ h9 => h9) rfl dX4_reasonToChange_33 ?_
      refine nmv hr (fun r_15 e_16 hr => ?_)
      refine roS_i (As := [.float (v4_latestPedal V)]) (rest := []) ⟨hx, hb, hml, hown, hts⟩ (k_X4_isDeep l D Y  (v4_latestPedal V) r_15 e_16) (va_cwS 1 hts gX4_reasonToChange_X4_isDeep rfl rfl rfl (by decide +kernel) ⟨Nat.le_of_ble_eq_true rfl, Nat.le_of_ble_eq_true rfl⟩) (hP.sub (ws' := []) [] rfl) hK hN hZ rfl hl.1 rfl (Nat.le_of_ble_eq_true rfl) dX4_reasonToChange_36 ⟨Nat.le_refl 0, Nat.le_refl 0⟩ ?_
      refine lv_if_ne (tgt := 52) hx hb dX4_reasonToChange_39 (by decide) (fun c_17 => ?_) (fun c_17 => ?_)
      · have hr := hr.trans (if_neg c_17)
        exact B52 z1 z2 _ hr (lv_sub hl [0, 1, 2] rfl)
      · have hr := hr.trans (if_pos c_17)
        refine lv_aload_n hx hb dX4_reasonToChange_42 rfl (lv_at hl 0 rfl) ?_
        refine lv_fload_n hx hb dX4_reasonToChange_43 rfl (lv_at hl 1 rfl) ?_
        refine bdv hr (fun r_18 e_19 hr => ?_)
        refine roV_i (As := [.float z1]) (rest := []) ⟨hx, hb, hml, hown, hts⟩ (k_X4_kickdownGear l D Y a0 a1 a2 a3 a4 a5 a6 V z1 r_18 e_19) (cwV 1 hts gX4_reasonToChange_X4_kickdownGear rfl rfl rfl (by decide +kernel) ⟨Nat.le_of_ble_eq_true rfl, Nat.le_of_ble_eq_true rfl⟩) hP hK hN hZ 0 4 rfl rfl rfl hl.1 rfl (Nat.le_of_ble_eq_true rfl) dX4_reasonToChange_44 ⟨Nat.le_refl 0, Nat.le_refl 0⟩ ?_
        refine lv_if_eq (tgt := 52) hx hb dX4_reasonToChange_47 (by decide) (fun c_20 => ?_) (fun c_20 => ?_)
        · have hr := hr.trans (if_pos c_20)
          exact B52 z1 z2 _ hr (lv_sub hl [0, 1, 2] rfl)
        · have hr := hr.trans (if_neg c_20)
          refine lv_iconst (v := (2 : Int32)) hx hb dX4_reasonToChange_50 (by decide) ?_
          have hr := Option.some.inj hr
          subst hr
          exact W.iret hx hb hrt (fun t ht hW => ⟨_, rfl, rfl, ht⟩) (fun q hq => absurd hq List.not_mem_nil) dX4_reasonToChange_51
  rw [mf_X4_reasonToChange] at hr
  refine lv_aload_n hx hb dX4_reasonToChange_0 rfl (lv_at hl 0 rfl) ?_
  refine va_get (D := D) (ci := 4) (v := .int (v4_gear V)) (C := RX4) (T := TX4) (N := 11) hx hb hts inX4 hown hK hP 0 rfl rfl 4 (by decide) (hts (.fieldLink RX4 35 "ShiftMaps$State" "gear" "I") (List.mem_of_getElem? (i := 1) rfl)) (fun _ h9 => h9) rfl dX4_reasonToChange_1 ?_
  refine lv_iconst (v := (5 : Int32)) hx hb dX4_reasonToChange_4 (by decide) ?_
  refine lv_icmp_ge (tgt := 25) hx hb dX4_reasonToChange_5 (by decide) (fun c_1 => ?_) (fun c_1 => ?_)
  · have hr := hr.trans (if_pos c_1)
    exact B25 x1 x2 _ hr (lv_sub hl [0, 1, 2] rfl)
  · have hr := hr.trans (if_neg c_1)
    refine lv_aload_n hx hb dX4_reasonToChange_8 rfl (lv_at hl 0 rfl) ?_
    refine va_get (D := D) (ci := 4) (v := .ref a1) (C := RX4) (T := TX4) (N := 11) hx hb hts inX4 hown hK hP 0 rfl rfl 0 (by decide) (hts (.fieldLink RX4 12 "ShiftMaps$State" "maps" "LShiftMaps$Maps;") (List.mem_of_getElem? (i := 2) rfl)) (fun _ h9 => h9) rfl dX4_reasonToChange_9 ?_
    refine lv_fload_n hx hb dX4_reasonToChange_12 rfl (lv_at hl 1 rfl) ?_
    refine lv_aload_n hx hb dX4_reasonToChange_13 rfl (lv_at hl 0 rfl) ?_
    refine va_get (D := D) (ci := 4) (v := .int (v4_gear V)) (C := RX4) (T := TX4) (N := 11) hx hb hts inX4 hown hK hP 0 rfl rfl 4 (by decide) (hts (.fieldLink RX4 35 "ShiftMaps$State" "gear" "I") (List.mem_of_getElem? (i := 1) rfl)) (fun _ h9 => h9) rfl dX4_reasonToChange_14 ?_
    refine nmv hr (fun r_21 e_22 hr => ?_)
    refine roV_i (As := [.float x1, .int (v4_gear V)]) (rest := []) ⟨hx, hb, hml, hown, hts⟩ (k_X3_exceeds l D Y a1 a2 (v4_maps V) x1 (v4_gear V) r_21 e_22) (cwV 2 hts gX4_reasonToChange_X3_exceeds rfl rfl rfl (by decide +kernel) ⟨Nat.le_of_ble_eq_true rfl, Nat.le_of_ble_eq_true rfl⟩) (hP.sub (ws' := (mpW Y a1 a2 (v4_maps V))) [1, 2] rfl) hK hN hZ 0 3 rfl rfl rfl hl.1 rfl (Nat.le_of_ble_eq_true rfl) dX4_reasonToChange_17 ⟨Nat.le_refl 0, Nat.le_refl 0⟩ ?_
    refine lv_if_eq (tgt := 25) hx hb dX4_reasonToChange_20 (by decide) (fun c_23 => ?_) (fun c_23 => ?_)
    · have hr := hr.trans (if_pos c_23)
      exact B25 x1 x2 _ hr (lv_sub hl [0, 1, 2] rfl)
    · have hr := hr.trans (if_neg c_23)
      refine lv_iconst (v := (4 : Int32)) hx hb dX4_reasonToChange_23 (by decide) ?_
      have hr := Option.some.inj hr
      subst hr
      exact W.iret hx hb hrt (fun t ht hW => ⟨_, rfl, rfl, ht⟩) (fun q hq => absurd hq List.not_mem_nil) dX4_reasonToChange_24

set_option maxHeartbeats 4000000 in
set_option maxRecDepth 100000 in
theorem k_X4_gearChosenBy (l : Launch) (D : va_G) (Y : Nat → ClassId) (a0 a1 a2 a3 a4 a5 a6 : Nat) (V : St) (x1 : Int32) (x2 : UInt32) (R : Int32) (hr : some R = mf_X4_gearChosenBy V x1 x2) : Met l yX4_gearChosenBy wsX4_gearChosenBy ({ frames := 3, cells := 0, slots := 0, locals := 67 } : Room) (va_Pc [.ref a0, .int x1, .float x2] (PR D Y (stW Y a0 a1 a2 a3 a4 a5 a6 V))) (vp_Si (fun x => x = R)) 0 0 (fun _ => False) := by
  refine Met.ofW (cc := cX4_gearChosenBy) (maxL := 3) (ret := (some .int)) (by decide) rfl ?_
  intro p e s m args below meth c s₁ B hml hv
  obtain ⟨rfl, hP, hK, hN, hZ⟩ := hv
  have hx := B.exec
  have hb := B.bytes
  have hrt := B.returns
  have hts := atoms_spec (ws := wsX4_gearChosenBy) B.pre
  have hown : s.vm.findClass RX4 = some m.cls := findClass_of_methodNamed B.named
  have hlocks := B.notSynchronized
  have inX4 : ∀ w ∈ u_ws RX4 TX4 11, w ∈ wsX4_gearChosenBy := uin_at 22 rfl
  have hS : va_S (fun _ => False) s.heap s.heap [] := va_S.rf
  have hl := lv_entry ([.ref a0, .int x1, .float x2]) (n := 3) (Nat.le_of_ble_eq_true rfl)
  rw [lg_entry_eq]
  generalize (lg_sl ([.ref a0, .int x1, .float x2]) ++ List.replicate (3 - (lg_sl ([.ref a0, .int x1, .float x2])).length) Slot.unset).toArray = ls at hl ⊢
  have hl : lv_has ls 3 [(0, .ref a0), (1, .int x1), (2, .float x2)] := hl
  rw [mf_X4_gearChosenBy] at hr
  refine lv_iload_n hx hb dX4_gearChosenBy_0 rfl (lv_at hl 1 rfl) ?_
  by_cases c_1 : x1 = (1 : Int32)
  · have hr := hr.trans (if_pos c_1)
    refine lv_lookup (off := 33) (tgt := 34) hx hb dX4_gearChosenBy_1 (by decide) (by rw [c_1]; rfl) (by decide) ?_
    refine lv_aload_n hx hb dX4_gearChosenBy_34 rfl (lv_at hl 0 rfl) ?_
    refine va_get (D := D) (ci := 4) (v := .int (v4_gear V)) (C := RX4) (T := TX4) (N := 11) hx hb hts inX4 hown hK hP 0 rfl rfl 4 (by decide) (hts (.fieldLink RX4 35 "ShiftMaps$State" "gear" "I") (List.mem_of_getElem? (i := 1) rfl)) (fun _ h9 => h9) rfl dX4_gearChosenBy_35 ?_
    refine lv_iconst (v := (1 : Int32)) hx hb dX4_gearChosenBy_38 (by decide) ?_
    refine lv_isub hx hb dX4_gearChosenBy_39 ?_
    have hr := Option.some.inj hr
    subst hr
    exact W.iret hx hb hrt (fun t ht hW => ⟨_, rfl, rfl, ht⟩) (fun q hq => absurd hq List.not_mem_nil) dX4_gearChosenBy_40
  · have hr := hr.trans (if_neg c_1)
    by_cases c_2 : x1 = (2 : Int32)
    · have hr := hr.trans (if_pos c_2)
      refine lv_lookup (off := 27) (tgt := 28) hx hb dX4_gearChosenBy_1 (by decide) (by rw [c_2]; rfl) (by decide) ?_
      refine lv_aload_n hx hb dX4_gearChosenBy_28 rfl (lv_at hl 0 rfl) ?_
      refine lv_fload_n hx hb dX4_gearChosenBy_29 rfl (lv_at hl 2 rfl) ?_
      refine bdv hr (fun r_3 e_4 hr => ?_)
      refine roV_i (As := [.float x2]) (rest := []) ⟨hx, hb, hml, hown, hts⟩ (k_X4_kickdownGear l D Y a0 a1 a2 a3 a4 a5 a6 V x2 r_3 e_4) (cwV 1 hts gX4_gearChosenBy_X4_kickdownGear rfl rfl rfl (by decide +kernel) ⟨Nat.le_of_ble_eq_true rfl, Nat.le_of_ble_eq_true rfl⟩) hP hK hN hZ 0 4 rfl rfl rfl hl.1 rfl (Nat.le_of_ble_eq_true rfl) dX4_gearChosenBy_30 ⟨Nat.le_refl 0, Nat.le_refl 0⟩ ?_
      have hr := Option.some.inj hr
      subst hr
      exact W.iret hx hb hrt (fun t ht hW => ⟨_, rfl, rfl, ht⟩) (fun q hq => absurd hq List.not_mem_nil) dX4_gearChosenBy_33
    · have hr := hr.trans (if_neg c_2)
      refine lv_lookup (off := 40) (tgt := 41) hx hb dX4_gearChosenBy_1 (by decide) ((lv_osw (k := (1 : Int32)) c_1 rfl).trans ((lv_osw (k := (2 : Int32)) c_2 rfl).trans rfl)) (by decide) ?_
      refine lv_aload_n hx hb dX4_gearChosenBy_41 rfl (lv_at hl 0 rfl) ?_
      refine va_get (D := D) (ci := 4) (v := .int (v4_gear V)) (C := RX4) (T := TX4) (N := 11) hx hb hts inX4 hown hK hP 0 rfl rfl 4 (by decide) (hts (.fieldLink RX4 35 "ShiftMaps$State" "gear" "I") (List.mem_of_getElem? (i := 1) rfl)) (fun _ h9 => h9) rfl dX4_gearChosenBy_42 ?_
      refine lv_iconst (v := (1 : Int32)) hx hb dX4_gearChosenBy_45 (by decide) ?_
      refine lv_iadd hx hb dX4_gearChosenBy_46 ?_
      have hr := Option.some.inj hr
      subst hr
      exact W.iret hx hb hrt (fun t ht hW => ⟨_, rfl, rfl, ht⟩) (fun q hq => absurd hq List.not_mem_nil) dX4_gearChosenBy_47

set_option maxHeartbeats 4000000 in
set_option maxRecDepth 100000 in
theorem k_X4_countTick (l : Launch) (D : va_G) (Y : Nat → ClassId) (a0 a1 a2 a3 a4 a5 a6 : Nat) (V : St) (R : St) (hr : R = mf_X4_countTick V) : Met l yX4_countTick wsX4_countTick ({ frames := 1, cells := 0, slots := 0, locals := 21 } : Room) (va_Pc [.ref a0] (PW D Y (stW Y a0 a1 a2 a3 a4 a5 a6 V))) (va_Qv (S := Unit) (fun _ => True) (fun _ t => va_P D vwCl (stW Y a0 a1 a2 a3 a4 a5 a6 R) t.heap) (wA (stW Y a0 a1 a2 a3 a4 a5 a6 V))) 0 0 (wA (stW Y a0 a1 a2 a3 a4 a5 a6 V)) := by
  refine Met.ofW (cc := cX4_countTick) (maxL := 1) (ret := none) (by decide) rfl ?_
  intro p e s m args below meth c s₁ B hml hv
  obtain ⟨rfl, hP, hK, hN, hZ, hD⟩ := hv
  have hx := B.exec
  have hb := B.bytes
  have hrt := B.returns
  have hts := atoms_spec (ws := wsX4_countTick) B.pre
  have hown : s.vm.findClass RX4 = some m.cls := findClass_of_methodNamed B.named
  have hlocks := B.notSynchronized
  have inX4 : ∀ w ∈ u_ws RX4 TX4 11, w ∈ wsX4_countTick := uin_at 13 rfl
  generalize hAe : wA (stW Y a0 a1 a2 a3 a4 a5 a6 V) = A at hZ hD ⊢
  have hS : va_S A s.heap s.heap [] := va_S.rf
  have hl := lv_entry ([.ref a0]) (n := 1) (Nat.le_of_ble_eq_true rfl)
  rw [lg_entry_eq]
  generalize (lg_sl ([.ref a0]) ++ List.replicate (1 - (lg_sl ([.ref a0])).length) Slot.unset).toArray = ls at hl ⊢
  have hl : lv_has ls 1 [(0, .ref a0)] := hl
  rw [mf_X4_countTick] at hr
  suffices KK : ∀ (H : Heap) (locs : List Loc), va_P D vwCl (stW Y a0 a1 a2 a3 a4 a5 a6 V) H → va_S A s.heap H locs → W p l e ({ frames := 1, cells := 0, slots := 0, locals := 21 } : Room) s m ([.ref a0] : List Value).toArray below meth c H locs 0 0 (MQ below (va_Qv (S := Unit) (fun _ => True) (fun _ t => va_P D vwCl (stW Y a0 a1 a2 a3 a4 a5 a6 R) t.heap) A) ([.ref a0] : List Value).toArray s 0 0 A) (F0 m 0 ls []) from KK _ _ hP hS
  intro H locs hP hS
  refine lv_aload_n hx hb dX4_countTick_0 rfl (lv_at hl 0 rfl) ?_
  refine lv_iconst (v := (0 : Int32)) hx hb dX4_countTick_1 (by decide) ?_
  refine nmv hr (fun r_1 e_2 hr => ?_)
  refine rwV_vw (As := [.int (0 : Int32)]) (rest := []) ⟨hx, hb, hml, hown, hts⟩ (k_X4_countOneMore l D Y a0 a1 a2 a3 a4 a5 a6 V (0 : Int32) r_1 e_2) (cwV 1 hts gX4_countTick_X4_countOneMore rfl rfl rfl (by decide +kernel) ⟨Nat.le_of_ble_eq_true rfl, Nat.le_of_ble_eq_true rfl⟩) hP hK hN hZ hD hS rfl 0 4 rfl rfl rfl hl.1 rfl (Nat.le_of_ble_eq_true rfl) dX4_countTick_2 ⟨Nat.le_refl 0, Nat.le_refl 0⟩ (fun H locs hP hD hS => ?_)
  refine lv_aload_n hx hb dX4_countTick_5 rfl (lv_at hl 0 rfl) ?_
  refine lv_bipush (v := (7 : Int32)) hx hb dX4_countTick_6 (by decide) ?_
  refine lv_aload_n hx hb dX4_countTick_8 rfl (lv_at hl 0 rfl) ?_
  refine va_get (D := D) (ci := 4) (v := .int (v4_gear r_1)) (C := RX4) (T := TX4) (N := 11) hx hb hts inX4 hown hK hP 0 rfl rfl 4 (by decide) (hts (.fieldLink RX4 35 "ShiftMaps$State" "gear" "I") (List.mem_of_getElem? (i := 1) rfl)) (fun _ h9 => h9) rfl dX4_countTick_9 ?_
  refine lv_iadd hx hb dX4_countTick_12 ?_
  refine lv_iconst (v := (1 : Int32)) hx hb dX4_countTick_13 (by decide) ?_
  refine lv_isub hx hb dX4_countTick_14 ?_
  refine nmv hr (fun r_3 e_4 hr => ?_)
  refine rwV_vw (As := [.int (((7 : Int32) + (v4_gear r_1)) - (1 : Int32))]) (rest := []) ⟨hx, hb, hml, hown, hts⟩ (k_X4_countOneMore l D Y a0 a1 a2 a3 a4 a5 a6 r_1 (((7 : Int32) + (v4_gear r_1)) - (1 : Int32)) r_3 e_4) (cwV 1 hts gX4_countTick_X4_countOneMore rfl rfl rfl (by decide +kernel) ⟨Nat.le_of_ble_eq_true rfl, Nat.le_of_ble_eq_true rfl⟩) hP hK hN hZ hD hS rfl 0 4 rfl rfl rfl hl.1 rfl (Nat.le_of_ble_eq_true rfl) dX4_countTick_15 ⟨Nat.le_refl 0, Nat.le_refl 0⟩ (fun H locs hP hD hS => ?_)
  refine lv_aload_n hx hb dX4_countTick_18 rfl (lv_at hl 0 rfl) ?_
  refine nmv hr (fun r_5 e_6 hr => ?_)
  refine roV_i (As := []) (rest := []) ⟨hx, hb, hml, hown, hts⟩ (k_X4_isChanging l D Y a0 a1 a2 a3 a4 a5 a6 r_3 r_5 e_6) (cwV 0 hts gX4_countTick_X4_isChanging rfl rfl rfl (by decide +kernel) ⟨Nat.le_of_ble_eq_true rfl, Nat.le_of_ble_eq_true rfl⟩) hP hK hN (hZ.at hS).F 0 4 rfl rfl rfl hl.1 rfl (Nat.le_of_ble_eq_true rfl) dX4_countTick_19 ⟨Nat.le_refl 0, Nat.le_refl 0⟩ ?_
  refine lv_if_eq (tgt := 31) hx hb dX4_countTick_22 (by decide) (fun c_7 => ?_) (fun c_7 => ?_)
  · have hr := hr.trans (if_pos c_7)
    subst hr
    exact W.vret hx hb hrt (fun t ht hW => ⟨⟨(), rfl, trivial, by show va_P D vwCl _ t.heap; rw [ht]; exact hP⟩, hS.F ht⟩) hS.2.2 dX4_countTick_31
  · have hr := hr.trans (if_neg c_7)
    refine lv_aload_n hx hb dX4_countTick_25 rfl (lv_at hl 0 rfl) ?_
    refine lv_bipush (v := (12 : Int32)) hx hb dX4_countTick_26 (by decide) ?_
    refine nmv hr (fun r_8 e_9 hr => ?_)
    refine rwV_vw (As := [.int (12 : Int32)]) (rest := []) ⟨hx, hb, hml, hown, hts⟩ (k_X4_countOneMore l D Y a0 a1 a2 a3 a4 a5 a6 r_3 (12 : Int32) r_8 e_9) (cwV 1 hts gX4_countTick_X4_countOneMore rfl rfl rfl (by decide +kernel) ⟨Nat.le_of_ble_eq_true rfl, Nat.le_of_ble_eq_true rfl⟩) hP hK hN hZ hD hS rfl 0 4 rfl rfl rfl hl.1 rfl (Nat.le_of_ble_eq_true rfl) dX4_countTick_28 ⟨Nat.le_refl 0, Nat.le_refl 0⟩ (fun H locs hP hD hS => ?_)
    subst hr
    exact W.vret hx hb hrt (fun t ht hW => ⟨⟨(), rfl, trivial, by show va_P D vwCl _ t.heap; rw [ht]; exact hP⟩, hS.F ht⟩) hS.2.2 dX4_countTick_31

set_option maxHeartbeats 4000000 in
set_option maxRecDepth 100000 in
theorem k_X4_begin (l : Launch) (D : va_G) (Y : Nat → ClassId) (a0 a1 a2 a3 a4 a5 a6 : Nat) (V : St) (x1 : Int32) (x2 : Int32) (R : St) (hr : some R = mf_X4_begin V x1 x2) : Met l yX4_begin wsX4_begin ({ frames := 3, cells := 0, slots := 0, locals := 63 } : Room) (va_Pc [.ref a0, .int x1, .int x2] (PW D Y (stW Y a0 a1 a2 a3 a4 a5 a6 V))) (va_Qv (S := Unit) (fun _ => True) (fun _ t => va_P D vwCl (stW Y a0 a1 a2 a3 a4 a5 a6 R) t.heap) (wA (stW Y a0 a1 a2 a3 a4 a5 a6 V))) 0 0 (wA (stW Y a0 a1 a2 a3 a4 a5 a6 V)) := by
  refine Met.ofW (cc := cX4_begin) (maxL := 4) (ret := none) (by decide) rfl ?_
  intro p e s m args below meth c s₁ B hml hv
  obtain ⟨rfl, hP, hK, hN, hZ, hD⟩ := hv
  have hx := B.exec
  have hb := B.bytes
  have hrt := B.returns
  have hts := atoms_spec (ws := wsX4_begin) B.pre
  have hown : s.vm.findClass RX4 = some m.cls := findClass_of_methodNamed B.named
  have hlocks := B.notSynchronized
  have inX4 : ∀ w ∈ u_ws RX4 TX4 11, w ∈ wsX4_begin := uin_at 45 rfl
  generalize hAe : wA (stW Y a0 a1 a2 a3 a4 a5 a6 V) = A at hZ hD ⊢
  have hS : va_S A s.heap s.heap [] := va_S.rf
  have hl := lv_entry ([.ref a0, .int x1, .int x2]) (n := 4) (Nat.le_of_ble_eq_true rfl)
  rw [lg_entry_eq]
  generalize (lg_sl ([.ref a0, .int x1, .int x2]) ++ List.replicate (4 - (lg_sl ([.ref a0, .int x1, .int x2])).length) Slot.unset).toArray = ls at hl ⊢
  have hl : lv_has ls 4 [(0, .ref a0), (1, .int x1), (2, .int x2)] := hl
  rw [mf_X4_begin] at hr
  suffices KK : ∀ (H : Heap) (locs : List Loc), va_P D vwCl (stW Y a0 a1 a2 a3 a4 a5 a6 V) H → va_S A s.heap H locs → W p l e ({ frames := 3, cells := 0, slots := 0, locals := 63 } : Room) s m ([.ref a0, .int x1, .int x2] : List Value).toArray below meth c H locs 0 0 (MQ below (va_Qv (S := Unit) (fun _ => True) (fun _ t => va_P D vwCl (stW Y a0 a1 a2 a3 a4 a5 a6 R) t.heap) A) ([.ref a0, .int x1, .int x2] : List Value).toArray s 0 0 A) (F0 m 0 ls []) from KK _ _ hP hS
  intro H locs hP hS
  refine lv_aload_n hx hb dX4_begin_0 rfl (lv_at hl 0 rfl) ?_
  refine lv_iload_n hx hb dX4_begin_1 rfl (lv_at hl 1 rfl) ?_
  refine nmv hr (fun r_1 e_2 hr => ?_)
  refine roV_i (As := [.int x1]) (rest := []) ⟨hx, hb, hml, hown, hts⟩ (k_X4_swings l D Y a0 a1 a2 a3 a4 a5 a6 V x1 r_1 e_2) (cwV 1 hts gX4_begin_X4_swings rfl rfl rfl (by decide +kernel) ⟨Nat.le_of_ble_eq_true rfl, Nat.le_of_ble_eq_true rfl⟩) hP hK hN (hZ.at hS).F 0 4 rfl rfl rfl hl.1 rfl (Nat.le_of_ble_eq_true rfl) dX4_begin_2 ⟨Nat.le_refl 0, Nat.le_refl 0⟩ ?_
  refine lv_istore_n (lv' := [(3, .int r_1), (0, .ref a0), (1, .int x1), (2, .int x2)]) hx hb dX4_begin_5 rfl hl (by decide) rfl (fun ls hl => ?_)
  refine lv_aload_n hx hb dX4_begin_6 rfl (lv_at hl 1 rfl) ?_
  refine va_get (D := D) (ci := 4) (v := .ref a3) (C := RX4) (T := TX4) (N := 11) hx hb hts inX4 hown hK hP 0 rfl rfl 1 (by decide) (hts (.fieldLink RX4 21 "ShiftMaps$State" "log" "LShiftMaps$Log;") (List.mem_of_getElem? (i := 1) rfl)) (fun _ h9 => h9) rfl dX4_begin_7 ?_
  refine lv_aload_n hx hb dX4_begin_10 rfl (lv_at hl 1 rfl) ?_
  refine nmv hr (fun r_3 e_4 hr => ?_)
  refine roV_i (As := []) (rest := [.ref a3]) ⟨hx, hb, hml, hown, hts⟩ (k_X4_tick l D Y a0 a1 a2 a3 a4 a5 a6 V r_3 e_4) (cwV 0 hts gX4_begin_X4_tick rfl rfl rfl (by decide +kernel) ⟨Nat.le_of_ble_eq_true rfl, Nat.le_of_ble_eq_true rfl⟩) hP hK hN (hZ.at hS).F 0 4 rfl rfl rfl hl.1 rfl (Nat.le_of_ble_eq_true rfl) dX4_begin_11 ⟨Nat.le_refl 0, Nat.le_refl 0⟩ ?_
  refine lv_aload_n hx hb dX4_begin_14 rfl (lv_at hl 1 rfl) ?_
  refine va_get (D := D) (ci := 4) (v := .int (v4_gear V)) (C := RX4) (T := TX4) (N := 11) hx hb hts inX4 hown hK hP 0 rfl rfl 4 (by decide) (hts (.fieldLink RX4 35 "ShiftMaps$State" "gear" "I") (List.mem_of_getElem? (i := 2) rfl)) (fun _ h9 => h9) rfl dX4_begin_15 ?_
  refine lv_iload_n hx hb dX4_begin_18 rfl (lv_at hl 3 rfl) ?_
  refine lv_iload_n hx hb dX4_begin_19 rfl (lv_at hl 2 rfl) ?_
  refine lv_iload_n hx hb dX4_begin_20 rfl (lv_at hl 0 rfl) ?_
  refine bdv hr (fun r_5 e_6 hr => ?_)
  refine nmv hr (fun V_7 e_8 hr => ?_)
  refine rwV_v (W1 := (lgW Y a3 a4 r_5)) (W' := (stW Y a0 a1 a2 a3 a4 a5 a6 V_7)) (As := [.int r_3, .int (v4_gear V), .int x2, .int x1, .int r_1]) (rest := []) ⟨hx, hb, hml, hown, hts⟩ (k_X2_add l D Y a3 a4 (v4_log V) r_3 (v4_gear V) x2 x1 r_1 r_5 e_6) (cwV 5 hts gX4_begin_X2_add rfl rfl rfl (by decide +kernel) ⟨Nat.le_of_ble_eq_true rfl, Nat.le_of_ble_eq_true rfl⟩) hP hK hN hZ hD hS [3, 4] rfl (by decide) [.inl 0, .inl 1, .inl 2, .inr 0, .inr 1, .inl 5, .inl 6] (jk_ok _ _ (by decide)) (by rw [e_8]; rfl) rfl 3 2 rfl rfl rfl hl.1 rfl (Nat.le_of_ble_eq_true rfl) dX4_begin_21 ⟨Nat.le_refl 0, Nat.le_refl 0⟩ (fun H locs hP hD hS => ?_)
  refine lv_aload_n hx hb dX4_begin_24 rfl (lv_at hl 1 rfl) ?_
  refine lv_iload_n hx hb dX4_begin_25 rfl (lv_at hl 3 rfl) ?_
  refine va_put (D := D) (ci := 4) (v := .int x2) (ty := .int) (C := RX4) (T := TX4) (N := 11) hx hb hts inX4 tyX4 tyX4_ok nmX4 hown hK hP hD hS 0 rfl rfl 5 (by decide) (hts (.fieldLink RX4 39 "ShiftMaps$State" "target" "I") (List.mem_of_getElem? (i := 3) rfl)) (fun _ h9 => h9) rfl (by decide +kernel) rfl rfl (Nat.le_of_ble_eq_true rfl) dX4_begin_26 (fun H locs hP hD hS => ?_)
  refine nmv hr (fun V_11 e_12 hr => ?_)
  have hP : va_P D vwCl (stW Y a0 a1 a2 a3 a4 a5 a6 V_11) H := by rw [e_12]; exact hP
  have hD : va_D A (stW Y a0 a1 a2 a3 a4 a5 a6 V_11) := va_D_adr hD rfl
  refine lv_aload_n hx hb dX4_begin_29 rfl (lv_at hl 1 rfl) ?_
  refine lv_iconst (v := (0 : Int32)) hx hb dX4_begin_30 (by decide) ?_
  refine va_put (D := D) (ci := 4) (v := .int (0 : Int32)) (ty := .int) (C := RX4) (T := TX4) (N := 11) hx hb hts inX4 tyX4 tyX4_ok nmX4 hown hK hP hD hS 0 rfl rfl 6 (by decide) (hts (.fieldLink RX4 42 "ShiftMaps$State" "done" "I") (List.mem_of_getElem? (i := 4) rfl)) (fun _ h9 => h9) rfl (by decide +kernel) rfl rfl (Nat.le_of_ble_eq_true rfl) dX4_begin_31 (fun H locs hP hD hS => ?_)
  refine nmv hr (fun V_15 e_16 hr => ?_)
  have hP : va_P D vwCl (stW Y a0 a1 a2 a3 a4 a5 a6 V_15) H := by rw [e_16]; exact hP
  have hD : va_D A (stW Y a0 a1 a2 a3 a4 a5 a6 V_15) := va_D_adr hD rfl
  refine lv_aload_n hx hb dX4_begin_34 rfl (lv_at hl 1 rfl) ?_
  refine lv_iconst (v := (1 : Int32)) hx hb dX4_begin_35 (by decide) ?_
  refine lv_iload_n hx hb dX4_begin_36 rfl (lv_at hl 2 rfl) ?_
  refine lv_iadd hx hb dX4_begin_37 ?_
  refine nmv hr (fun r_17 e_18 hr => ?_)
  refine rwV_vw (As := [.int ((1 : Int32) + x1)]) (rest := []) ⟨hx, hb, hml, hown, hts⟩ (k_X4_countOneMore l D Y a0 a1 a2 a3 a4 a5 a6 V_15 ((1 : Int32) + x1) r_17 e_18) (cwV 1 hts gX4_begin_X4_countOneMore rfl rfl rfl (by decide +kernel) ⟨Nat.le_of_ble_eq_true rfl, Nat.le_of_ble_eq_true rfl⟩) hP hK hN hZ hD hS rfl 0 4 rfl rfl rfl hl.1 rfl (Nat.le_of_ble_eq_true rfl) dX4_begin_38 ⟨Nat.le_refl 0, Nat.le_refl 0⟩ (fun H locs hP hD hS => ?_)
  refine lv_iload_n hx hb dX4_begin_41 rfl (lv_at hl 0 rfl) ?_
  refine lv_if_eq (tgt := 60) hx hb dX4_begin_42 (by decide) (fun c_19 => ?_) (fun c_19 => ?_)
  · have hr := hr.trans (if_pos c_19)
    have hr := Option.some.inj hr
    subst hr
    exact W.vret hx hb hrt (fun t ht hW => ⟨⟨(), rfl, trivial, by show va_P D vwCl _ t.heap; rw [ht]; exact hP⟩, hS.F ht⟩) hS.2.2 dX4_begin_60
  · have hr := hr.trans (if_neg c_19)
    refine lv_aload_n hx hb dX4_begin_45 rfl (lv_at hl 1 rfl) ?_
    refine lv_aload_n hx hb dX4_begin_46 rfl (lv_at hl 1 rfl) ?_
    refine lv_iconst (v := (3 : Int32)) hx hb dX4_begin_47 (by decide) ?_
    refine nmv hr (fun r_20 e_21 hr => ?_)
    refine roV_i (As := [.int (3 : Int32)]) (rest := [.ref a0]) ⟨hx, hb, hml, hown, hts⟩ (k_X4_setting l D Y a0 a1 a2 a3 a4 a5 a6 r_17 (3 : Int32) r_20 e_21) (cwV 1 hts gX4_begin_X4_setting rfl rfl rfl (by decide +kernel) ⟨Nat.le_of_ble_eq_true rfl, Nat.le_of_ble_eq_true rfl⟩) hP hK hN (hZ.at hS).F 0 4 rfl rfl rfl hl.1 rfl (Nat.le_of_ble_eq_true rfl) dX4_begin_48 ⟨Nat.le_refl 0, Nat.le_refl 0⟩ ?_
    refine va_put (D := D) (ci := 4) (v := .int r_20) (ty := .int) (C := RX4) (T := TX4) (N := 11) hx hb hts inX4 tyX4 tyX4_ok nmX4 hown hK hP hD hS 0 rfl rfl 7 (by decide) (hts (.fieldLink RX4 45 "ShiftMaps$State" "held" "I") (List.mem_of_getElem? (i := 5) rfl)) (fun _ h9 => h9) rfl (by decide +kernel) rfl rfl (Nat.le_of_ble_eq_true rfl) dX4_begin_51 (fun H locs hP hD hS => ?_)
    refine nmv hr (fun V_24 e_25 hr => ?_)
    have hP : va_P D vwCl (stW Y a0 a1 a2 a3 a4 a5 a6 V_24) H := by rw [e_25]; exact hP
    have hD : va_D A (stW Y a0 a1 a2 a3 a4 a5 a6 V_24) := va_D_adr hD rfl
    refine lv_aload_n hx hb dX4_begin_54 rfl (lv_at hl 1 rfl) ?_
    refine lv_bipush (v := (6 : Int32)) hx hb dX4_begin_55 (by decide) ?_
    refine nmv hr (fun r_26 e_27 hr => ?_)
    refine rwV_vw (As := [.int (6 : Int32)]) (rest := []) ⟨hx, hb, hml, hown, hts⟩ (k_X4_countOneMore l D Y a0 a1 a2 a3 a4 a5 a6 V_24 (6 : Int32) r_26 e_27) (cwV 1 hts gX4_begin_X4_countOneMore rfl rfl rfl (by decide +kernel) ⟨Nat.le_of_ble_eq_true rfl, Nat.le_of_ble_eq_true rfl⟩) hP hK hN hZ hD hS rfl 0 4 rfl rfl rfl hl.1 rfl (Nat.le_of_ble_eq_true rfl) dX4_begin_57 ⟨Nat.le_refl 0, Nat.le_refl 0⟩ (fun H locs hP hD hS => ?_)
    have hr := Option.some.inj hr
    subst hr
    exact W.vret hx hb hrt (fun t ht hW => ⟨⟨(), rfl, trivial, by show va_P D vwCl _ t.heap; rw [ht]; exact hP⟩, hS.F ht⟩) hS.2.2 dX4_begin_60

set_option maxHeartbeats 4000000 in
set_option maxRecDepth 100000 in
theorem k_X4_passTick (l : Launch) (D : va_G) (Y : Nat → ClassId) (a0 a1 a2 a3 a4 a5 a6 : Nat) (V : St) (x1 : UInt32) (x2 : UInt32) (R : Int32 × St) (hr : some R = mf_X4_passTick V x1 x2) : Met l yX4_passTick wsX4_passTick ({ frames := 4, cells := 0, slots := 0, locals := 90 } : Room) (va_Pc [.ref a0, .float x1, .float x2] (PW D Y (stW Y a0 a1 a2 a3 a4 a5 a6 V))) (va_Qi (S := Unit) (fun r _ => r = R.1) (fun _ t => va_P D vwCl (stW Y a0 a1 a2 a3 a4 a5 a6 R.2) t.heap) (wA (stW Y a0 a1 a2 a3 a4 a5 a6 V))) 0 0 (wA (stW Y a0 a1 a2 a3 a4 a5 a6 V)) := by
  refine Met.ofW (cc := cX4_passTick) (maxL := 4) (ret := (some .boolean)) (by decide) rfl ?_
  intro p e s m args below meth c s₁ B hml hv
  obtain ⟨rfl, hP, hK, hN, hZ, hD⟩ := hv
  have hx := B.exec
  have hb := B.bytes
  have hrt := B.returns
  have hts := atoms_spec (ws := wsX4_passTick) B.pre
  have hown : s.vm.findClass RX4 = some m.cls := findClass_of_methodNamed B.named
  have hlocks := B.notSynchronized
  have inX4 : ∀ w ∈ u_ws RX4 TX4 11, w ∈ wsX4_passTick := uin_at 103 rfl
  generalize hAe : wA (stW Y a0 a1 a2 a3 a4 a5 a6 V) = A at hZ hD ⊢
  have hS : va_S A s.heap s.heap [] := va_S.rf
  have hl := lv_entry ([.ref a0, .float x1, .float x2]) (n := 4) (Nat.le_of_ble_eq_true rfl)
  rw [lg_entry_eq]
  generalize (lg_sl ([.ref a0, .float x1, .float x2]) ++ List.replicate (4 - (lg_sl ([.ref a0, .float x1, .float x2])).length) Slot.unset).toArray = ls at hl ⊢
  have hl : lv_has ls 4 [(0, .ref a0), (1, .float x1), (2, .float x2)] := hl
  have B55 : ∀ (W0 : St) (z1 : UInt32) (z2 : UInt32) (z3 : Int32) (H : Heap) (locs : List Loc) (ls : Array Slot), some R = mf_X4_passTick_B55 W0 z1 z2 z3 → va_P D vwCl (stW Y a0 a1 a2 a3 a4 a5 a6 W0) H → va_D A (stW Y a0 a1 a2 a3 a4 a5 a6 W0) → va_S A s.heap H locs → lv_has ls 4 [(0, .ref a0), (1, .float z1), (2, .float z2), (3, .int z3)] → W p l e ({ frames := 4, cells := 0, slots := 0, locals := 90 } : Room) s m ([.ref a0, .float x1, .float x2] : List Value).toArray below meth c H locs 0 0 (MQ below (va_Qi (S := Unit) (fun r _ => r = R.1) (fun _ t => va_P D vwCl (stW Y a0 a1 a2 a3 a4 a5 a6 R.2) t.heap) A) ([.ref a0, .float x1, .float x2] : List Value).toArray s 0 0 A) (F0 m 55 ls []) := by
    intro W0 z1 z2 z3 H locs ls hr hP hD hS hl
    rw [mf_X4_passTick_B55] at hr
    refine lv_aload_n hx hb dX4_passTick_55 rfl (lv_at hl 0 rfl) ?_
    refine lv_fload_n hx hb dX4_passTick_56 rfl (lv_at hl 1 rfl) ?_
    refine va_put (D := D) (ci := 4) (v := .float z1) (ty := .float) (C := RX4) (T := TX4) (N := 11) hx hb hts inX4 tyX4 tyX4_ok nmX4 hown hK hP hD hS 0 rfl rfl 9 (by decide) (hts (.fieldLink RX4 52 "ShiftMaps$State" "latestSpeed" "F") (List.mem_of_getElem? (i := 2) rfl)) (fun _ h9 => h9) rfl (by decide +kernel) rfl rfl (Nat.le_of_ble_eq_true rfl) dX4_passTick_57 (fun H locs hP hD hS => ?_)
    refine nmv hr (fun V_12 e_13 hr => ?_)
    have hP : va_P D vwCl (stW Y a0 a1 a2 a3 a4 a5 a6 V_12) H := by rw [e_13]; exact hP
    have hD : va_D A (stW Y a0 a1 a2 a3 a4 a5 a6 V_12) := va_D_adr hD rfl
    refine lv_aload_n hx hb dX4_passTick_60 rfl (lv_at hl 0 rfl) ?_
    refine lv_fload_n hx hb dX4_passTick_61 rfl (lv_at hl 2 rfl) ?_
    refine va_put (D := D) (ci := 4) (v := .float z2) (ty := .float) (C := RX4) (T := TX4) (N := 11) hx hb hts inX4 tyX4 tyX4_ok nmX4 hown hK hP hD hS 0 rfl rfl 10 (by decide) (hts (.fieldLink RX4 56 "ShiftMaps$State" "latestPedal" "F") (List.mem_of_getElem? (i := 3) rfl)) (fun _ h9 => h9) rfl (by decide +kernel) rfl rfl (Nat.le_of_ble_eq_true rfl) dX4_passTick_62 (fun H locs hP hD hS => ?_)
    refine nmv hr (fun V_16 e_17 hr => ?_)
    have hP : va_P D vwCl (stW Y a0 a1 a2 a3 a4 a5 a6 V_16) H := by rw [e_17]; exact hP
    have hD : va_D A (stW Y a0 a1 a2 a3 a4 a5 a6 V_16) := va_D_adr hD rfl
    refine lv_aload_n hx hb dX4_passTick_65 rfl (lv_at hl 0 rfl) ?_
    refine nmv hr (fun r_18 e_19 hr => ?_)
    refine rwV_vw (As := []) (rest := []) ⟨hx, hb, hml, hown, hts⟩ (k_X4_countTick l D Y a0 a1 a2 a3 a4 a5 a6 V_16 r_18 e_19) (cwV 0 hts gX4_passTick_X4_countTick rfl rfl rfl (by decide +kernel) ⟨Nat.le_of_ble_eq_true rfl, Nat.le_of_ble_eq_true rfl⟩) hP hK hN hZ hD hS rfl 0 4 rfl rfl rfl hl.1 rfl (Nat.le_of_ble_eq_true rfl) dX4_passTick_66 ⟨Nat.le_refl 0, Nat.le_refl 0⟩ (fun H locs hP hD hS => ?_)
    refine lv_iload_n hx hb dX4_passTick_69 rfl (lv_at hl 3 rfl) ?_
    refine lv_iconst (v := (-1 : Int32)) hx hb dX4_passTick_70 (by decide) ?_
    refine lv_icmp_eq (tgt := 78) hx hb dX4_passTick_71 (by decide) (fun c_20 => ?_) (fun c_20 => ?_)
    · have hr := hr.trans (if_pos c_20)
      refine lv_iconst (v := (0 : Int32)) hx hb dX4_passTick_78 (by decide) ?_
      have hr := Option.some.inj hr
      subst hr
      exact W.zret (ty := .boolean) hx hb hrt (by decide) (fun t ht hW => ⟨⟨_, (), rfl, rfl, by show va_P D vwCl _ t.heap; rw [ht]; exact hP⟩, hS.F ht⟩) hS.2.2 dX4_passTick_79
    · have hr := hr.trans (if_neg c_20)
      refine lv_iconst (v := (1 : Int32)) hx hb dX4_passTick_74 (by decide) ?_
      refine lv_goto (tgt := 79) hx hb dX4_passTick_75 (by decide) ?_
      have hr := Option.some.inj hr
      subst hr
      exact W.zret (ty := .boolean) hx hb hrt (by decide) (fun t ht hW => ⟨⟨_, (), rfl, rfl, by show va_P D vwCl _ t.heap; rw [ht]; exact hP⟩, hS.F ht⟩) hS.2.2 dX4_passTick_79
  have B39 : ∀ (W0 : St) (z1 : UInt32) (z2 : UInt32) (z3 : Int32) (H : Heap) (locs : List Loc) (ls : Array Slot), some R = mf_X4_passTick_B39 W0 z1 z2 z3 → va_P D vwCl (stW Y a0 a1 a2 a3 a4 a5 a6 W0) H → va_D A (stW Y a0 a1 a2 a3 a4 a5 a6 W0) → va_S A s.heap H locs → lv_has ls 4 [(0, .ref a0), (1, .float z1), (2, .float z2), (3, .int z3)] → W p l e ({ frames := 4, cells := 0, slots := 0, locals := 90 } : Room) s m ([.ref a0, .float x1, .float x2] : List Value).toArray below meth c H locs 0 0 (MQ below (va_Qi (S := Unit) (fun r _ => r = R.1) (fun _ t => va_P D vwCl (stW Y a0 a1 a2 a3 a4 a5 a6 R.2) t.heap) A) ([.ref a0, .float x1, .float x2] : List Value).toArray s 0 0 A) (F0 m 39 ls []) := by
    intro W0 z1 z2 z3 H locs ls hr hP hD hS hl
    rw [mf_X4_passTick_B39] at hr
    refine lv_iload_n hx hb dX4_passTick_39 rfl (lv_at hl 3 rfl) ?_
    refine lv_iconst (v := (-1 : Int32)) hx hb dX4_passTick_40 (by decide) ?_
    refine lv_icmp_eq (tgt := 55) hx hb dX4_passTick_41 (by decide) (fun c_9 => ?_) (fun c_9 => ?_)
    · have hr := hr.trans (if_pos c_9)
      exact B55 W0 z1 z2 z3 _ _ _ hr hP hD hS (lv_sub hl [0, 1, 2, 3] rfl)
    · have hr := hr.trans (if_neg c_9)
      refine lv_aload_n hx hb dX4_passTick_44 rfl (lv_at hl 0 rfl) ?_
      refine lv_iload_n hx hb dX4_passTick_45 rfl (lv_at hl 3 rfl) ?_
      refine lv_aload_n hx hb dX4_passTick_46 rfl (lv_at hl 0 rfl) ?_
      refine lv_iload_n hx hb dX4_passTick_47 rfl (lv_at hl 3 rfl) ?_
      refine lv_fload_n hx hb dX4_passTick_48 rfl (lv_at hl 1 rfl) ?_
      refine bdv hr (fun r_21 e_22 hr => ?_)
      refine roV_i (As := [.int z3, .float z1]) (rest := [.int z3, .ref a0]) ⟨hx, hb, hml, hown, hts⟩ (k_X4_gearChosenBy l D Y a0 a1 a2 a3 a4 a5 a6 W0 z3 z1 r_21 e_22) (cwV 2 hts gX4_passTick_X4_gearChosenBy rfl rfl rfl (by decide +kernel) ⟨Nat.le_of_ble_eq_true rfl, Nat.le_of_ble_eq_true rfl⟩) hP hK hN (hZ.at hS).F 0 4 rfl rfl rfl hl.1 rfl (Nat.le_of_ble_eq_true rfl) dX4_passTick_49 ⟨Nat.le_refl 0, Nat.le_refl 0⟩ ?_
      refine bdv hr (fun r_23 e_24 hr => ?_)
      refine rwV_vw (As := [.int z3, .int r_21]) (rest := []) ⟨hx, hb, hml, hown, hts⟩ (k_X4_begin l D Y a0 a1 a2 a3 a4 a5 a6 W0 z3 r_21 r_23 e_24) (cwV 2 hts gX4_passTick_X4_begin rfl rfl rfl (by decide +kernel) ⟨Nat.le_of_ble_eq_true rfl, Nat.le_of_ble_eq_true rfl⟩) hP hK hN hZ hD hS rfl 0 4 rfl rfl rfl hl.1 rfl (Nat.le_of_ble_eq_true rfl) dX4_passTick_52 ⟨Nat.le_refl 0, Nat.le_refl 0⟩ (fun H locs hP hD hS => ?_)
      exact B55 r_23 z1 z2 z3 _ _ _ hr hP hD hS (lv_sub hl [0, 1, 2, 3] rfl)
  have B21 : ∀ (W0 : St) (z1 : UInt32) (z2 : UInt32) (y0 : Int32) (H : Heap) (locs : List Loc) (ls : Array Slot), some R = mf_X4_passTick_B21 W0 z1 z2 y0 → va_P D vwCl (stW Y a0 a1 a2 a3 a4 a5 a6 W0) H → va_D A (stW Y a0 a1 a2 a3 a4 a5 a6 W0) → va_S A s.heap H locs → lv_has ls 4 [(0, .ref a0), (1, .float z1), (2, .float z2)] → W p l e ({ frames := 4, cells := 0, slots := 0, locals := 90 } : Room) s m ([.ref a0, .float x1, .float x2] : List Value).toArray below meth c H locs 0 0 (MQ below (va_Qi (S := Unit) (fun r _ => r = R.1) (fun _ t => va_P D vwCl (stW Y a0 a1 a2 a3 a4 a5 a6 R.2) t.heap) A) ([.ref a0, .float x1, .float x2] : List Value).toArray s 0 0 A) (F0 m 21 ls [.int y0]) := by
    intro W0 z1 z2 y0 H locs ls hr hP hD hS hl
    rw [mf_X4_passTick_B21] at hr
    refine lv_istore_n (lv' := [(3, .int y0), (0, .ref a0), (1, .float z1), (2, .float z2)]) hx hb dX4_passTick_21 rfl hl (by decide) rfl (fun ls hl => ?_)
    refine lv_aload_n hx hb dX4_passTick_22 rfl (lv_at hl 1 rfl) ?_
    refine va_get (D := D) (ci := 4) (v := .int (v4_held W0)) (C := RX4) (T := TX4) (N := 11) hx hb hts inX4 hown hK hP 0 rfl rfl 7 (by decide) (hts (.fieldLink RX4 45 "ShiftMaps$State" "held" "I") (List.mem_of_getElem? (i := 1) rfl)) (fun _ h9 => h9) rfl dX4_passTick_23 ?_
    refine lv_if_le (tgt := 39) hx hb dX4_passTick_26 (by decide) (fun c_8 => ?_) (fun c_8 => ?_)
    · have hr := hr.trans (if_pos c_8)
      exact B39 W0 z1 z2 y0 _ _ _ hr hP hD hS (lv_sub hl [1, 2, 3, 0] rfl)
    · have hr := hr.trans (if_neg c_8)
      refine lv_aload_n hx hb dX4_passTick_29 rfl (lv_at hl 1 rfl) ?_
      refine lv_dup hx hb dX4_passTick_30 rfl ?_
      refine va_get (D := D) (ci := 4) (v := .int (v4_held W0)) (C := RX4) (T := TX4) (N := 11) hx hb hts inX4 hown hK hP 0 rfl rfl 7 (by decide) (hts (.fieldLink RX4 45 "ShiftMaps$State" "held" "I") (List.mem_of_getElem? (i := 1) rfl)) (fun _ h9 => h9) rfl dX4_passTick_31 ?_
      refine lv_iconst (v := (1 : Int32)) hx hb dX4_passTick_34 (by decide) ?_
      refine lv_isub hx hb dX4_passTick_35 ?_
      refine va_put (D := D) (ci := 4) (v := .int ((v4_held W0) - (1 : Int32))) (ty := .int) (C := RX4) (T := TX4) (N := 11) hx hb hts inX4 tyX4 tyX4_ok nmX4 hown hK hP hD hS 0 rfl rfl 7 (by decide) (hts (.fieldLink RX4 45 "ShiftMaps$State" "held" "I") (List.mem_of_getElem? (i := 1) rfl)) (fun _ h9 => h9) rfl (by decide +kernel) rfl rfl (Nat.le_of_ble_eq_true rfl) dX4_passTick_36 (fun H locs hP hD hS => ?_)
      refine nmv hr (fun V_27 e_28 hr => ?_)
      have hP : va_P D vwCl (stW Y a0 a1 a2 a3 a4 a5 a6 V_27) H := by rw [e_28]; exact hP
      have hD : va_D A (stW Y a0 a1 a2 a3 a4 a5 a6 V_27) := va_D_adr hD rfl
      exact B39 V_27 z1 z2 y0 _ _ _ hr hP hD hS (lv_sub hl [1, 2, 3, 0] rfl)
  rw [mf_X4_passTick] at hr
  suffices KK : ∀ (H : Heap) (locs : List Loc), va_P D vwCl (stW Y a0 a1 a2 a3 a4 a5 a6 V) H → va_S A s.heap H locs → W p l e ({ frames := 4, cells := 0, slots := 0, locals := 90 } : Room) s m ([.ref a0, .float x1, .float x2] : List Value).toArray below meth c H locs 0 0 (MQ below (va_Qi (S := Unit) (fun r _ => r = R.1) (fun _ t => va_P D vwCl (stW Y a0 a1 a2 a3 a4 a5 a6 R.2) t.heap) A) ([.ref a0, .float x1, .float x2] : List Value).toArray s 0 0 A) (F0 m 0 ls []) from KK _ _ hP hS
  intro H locs hP hS
  refine lv_aload_n hx hb dX4_passTick_0 rfl (lv_at hl 0 rfl) ?_
  refine nmv hr (fun r_1 e_2 hr => ?_)
  refine rwV_vw (As := []) (rest := []) ⟨hx, hb, hml, hown, hts⟩ (k_X4_goOnWithChange l D Y a0 a1 a2 a3 a4 a5 a6 V r_1 e_2) (cwV 0 hts gX4_passTick_X4_goOnWithChange rfl rfl rfl (by decide +kernel) ⟨Nat.le_of_ble_eq_true rfl, Nat.le_of_ble_eq_true rfl⟩) hP hK hN hZ hD hS rfl 0 4 rfl rfl rfl hl.1 rfl (Nat.le_of_ble_eq_true rfl) dX4_passTick_1 ⟨Nat.le_refl 0, Nat.le_refl 0⟩ (fun H locs hP hD hS => ?_)
  refine lv_aload_n hx hb dX4_passTick_4 rfl (lv_at hl 0 rfl) ?_
  refine nmv hr (fun r_3 e_4 hr => ?_)
  refine roV_i (As := []) (rest := []) ⟨hx, hb, hml, hown, hts⟩ (k_X4_isChanging l D Y a0 a1 a2 a3 a4 a5 a6 r_1 r_3 e_4) (cwV 0 hts gX4_passTick_X4_isChanging rfl rfl rfl (by decide +kernel) ⟨Nat.le_of_ble_eq_true rfl, Nat.le_of_ble_eq_true rfl⟩) hP hK hN (hZ.at hS).F 0 4 rfl rfl rfl hl.1 rfl (Nat.le_of_ble_eq_true rfl) dX4_passTick_5 ⟨Nat.le_refl 0, Nat.le_refl 0⟩ ?_
  refine lv_if_eq (tgt := 15) hx hb dX4_passTick_8 (by decide) (fun c_5 => ?_) (fun c_5 => ?_)
  · have hr := hr.trans (if_pos c_5)
    refine lv_aload_n hx hb dX4_passTick_15 rfl (lv_at hl 0 rfl) ?_
    refine lv_fload_n hx hb dX4_passTick_16 rfl (lv_at hl 1 rfl) ?_
    refine lv_fload_n hx hb dX4_passTick_17 rfl (lv_at hl 2 rfl) ?_
    refine bdv hr (fun r_6 e_7 hr => ?_)
    refine roV_i (As := [.float x1, .float x2]) (rest := []) ⟨hx, hb, hml, hown, hts⟩ (k_X4_reasonToChange l D Y a0 a1 a2 a3 a4 a5 a6 r_1 x1 x2 r_6 e_7) (cwV 2 hts gX4_passTick_X4_reasonToChange rfl rfl rfl (by decide +kernel) ⟨Nat.le_of_ble_eq_true rfl, Nat.le_of_ble_eq_true rfl⟩) hP hK hN (hZ.at hS).F 0 4 rfl rfl rfl hl.1 rfl (Nat.le_of_ble_eq_true rfl) dX4_passTick_18 ⟨Nat.le_refl 0, Nat.le_refl 0⟩ ?_
    exact B21 r_1 x1 x2 r_6 _ _ _ hr hP hD hS (lv_sub hl [0, 1, 2] rfl)
  · have hr := hr.trans (if_neg c_5)
    refine lv_iconst (v := (-1 : Int32)) hx hb dX4_passTick_11 (by decide) ?_
    refine lv_goto (tgt := 21) hx hb dX4_passTick_12 (by decide) ?_
    exact B21 r_1 x1 x2 (-1 : Int32) _ _ _ hr hP hD hS (lv_sub hl [0, 1, 2] rfl)

set_option maxHeartbeats 4000000 in
set_option maxRecDepth 100000 in
theorem k_X4_passTicks (l : Launch) (D : va_G) (Y : Nat → ClassId) (a0 a1 a2 a3 a4 a5 a6 : Nat) (V : St) (x1 : UInt32) (x2 : UInt32) (x3 : Int32) (R : Int32 × St) (hr : some R = mf_X4_passTicks V x1 x2 x3) : Met l yX4_passTicks wsX4_passTicks ({ frames := 5, cells := 0, slots := 0, locals := 113 } : Room) (va_Pc [.ref a0, .float x1, .float x2, .int x3] (PW D Y (stW Y a0 a1 a2 a3 a4 a5 a6 V))) (va_Qi (S := Unit) (fun r _ => r = R.1) (fun _ t => va_P D vwCl (stW Y a0 a1 a2 a3 a4 a5 a6 R.2) t.heap) (wA (stW Y a0 a1 a2 a3 a4 a5 a6 V))) 0 0 (wA (stW Y a0 a1 a2 a3 a4 a5 a6 V)) := by
  refine Met.ofW (cc := cX4_passTicks) (maxL := 6) (ret := (some .int)) (by decide) rfl ?_
  intro p e s m args below meth c s₁ B hml hv
  obtain ⟨rfl, hP, hK, hN, hZ, hD⟩ := hv
  have hx := B.exec
  have hb := B.bytes
  have hrt := B.returns
  have hts := atoms_spec (ws := wsX4_passTicks) B.pre
  have hown : s.vm.findClass RX4 = some m.cls := findClass_of_methodNamed B.named
  have hlocks := B.notSynchronized
  generalize hAe : wA (stW Y a0 a1 a2 a3 a4 a5 a6 V) = A at hZ hD ⊢
  have hS : va_S A s.heap s.heap [] := va_S.rf
  have hl := lv_entry ([.ref a0, .float x1, .float x2, .int x3]) (n := 6) (Nat.le_of_ble_eq_true rfl)
  rw [lg_entry_eq]
  generalize (lg_sl ([.ref a0, .float x1, .float x2, .int x3]) ++ List.replicate (6 - (lg_sl ([.ref a0, .float x1, .float x2, .int x3])).length) Slot.unset).toArray = ls at hl ⊢
  have hl : lv_has ls 6 [(0, .ref a0), (1, .float x1), (2, .float x2), (3, .int x3)] := hl
  have B24 : ∀ (rc : St → UInt32 → UInt32 → Int32 → Int32 → Int32 → Option (Int32 × St)) (hrc : ∀ (W0 : St) (z1 : UInt32) (z2 : UInt32) (z3 : Int32) (z4 : Int32) (z5 : Int32) (H : Heap) (locs : List Loc) (ls : Array Slot), some R = rc W0 z1 z2 z3 z4 z5 → va_P D vwCl (stW Y a0 a1 a2 a3 a4 a5 a6 W0) H → va_D A (stW Y a0 a1 a2 a3 a4 a5 a6 W0) → va_S A s.heap H locs → lv_has ls 6 [(0, .ref a0), (1, .float z1), (2, .float z2), (3, .int z3), (4, .int z4), (5, .int z5)] → W p l e ({ frames := 5, cells := 0, slots := 0, locals := 113 } : Room) s m ([.ref a0, .float x1, .float x2, .int x3] : List Value).toArray below meth c H locs 0 0 (MQ below (va_Qi (S := Unit) (fun r _ => r = R.1) (fun _ t => va_P D vwCl (stW Y a0 a1 a2 a3 a4 a5 a6 R.2) t.heap) A) ([.ref a0, .float x1, .float x2, .int x3] : List Value).toArray s 0 0 A) (F0 m 6 ls [])), ∀ (W0 : St) (z1 : UInt32) (z2 : UInt32) (z3 : Int32) (z4 : Int32) (z5 : Int32) (H : Heap) (locs : List Loc) (ls : Array Slot), some R = mf_X4_passTicks_B24 rc W0 z1 z2 z3 z4 z5 → va_P D vwCl (stW Y a0 a1 a2 a3 a4 a5 a6 W0) H → va_D A (stW Y a0 a1 a2 a3 a4 a5 a6 W0) → va_S A s.heap H locs → lv_has ls 6 [(0, .ref a0), (1, .float z1), (2, .float z2), (3, .int z3), (4, .int z4), (5, .int z5)] → W p l e ({ frames := 5, cells := 0, slots := 0, locals := 113 } : Room) s m ([.ref a0, .float x1, .float x2, .int x3] : List Value).toArray below meth c H locs 0 0 (MQ below (va_Qi (S := Unit) (fun r _ => r = R.1) (fun _ t => va_P D vwCl (stW Y a0 a1 a2 a3 a4 a5 a6 R.2) t.heap) A) ([.ref a0, .float x1, .float x2, .int x3] : List Value).toArray s 0 0 A) (F0 m 24 ls []) := by
    intro rc hrc W0 z1 z2 z3 z4 z5 H locs ls hr hP hD hS hl
    rw [mf_X4_passTicks_B24] at hr
    refine lv_iinc (v := (z5 + (1 : Int32))) (lv' := [(5, .int (z5 + (1 : Int32))), (0, .ref a0), (1, .float z1), (2, .float z2), (3, .int z3), (4, .int z4)]) hx hb dX4_passTicks_24 hl (k := 5) rfl rfl (by decide) rfl (fun ls hl => ?_)
    refine lv_goto (tgt := 6) hx hb dX4_passTicks_27 (by decide) ?_
    exact hrc W0 z1 z2 z3 z4 (z5 + (1 : Int32)) _ _ _ hr hP hD hS (lv_sub hl [1, 2, 3, 4, 5, 0] rfl)
  have B6 : ∀ (fu : Nat), ∀ (W0 : St) (z1 : UInt32) (z2 : UInt32) (z3 : Int32) (z4 : Int32) (z5 : Int32) (H : Heap) (locs : List Loc) (ls : Array Slot), some R = mf_X4_passTicks_B6 fu W0 z1 z2 z3 z4 z5 → va_P D vwCl (stW Y a0 a1 a2 a3 a4 a5 a6 W0) H → va_D A (stW Y a0 a1 a2 a3 a4 a5 a6 W0) → va_S A s.heap H locs → lv_has ls 6 [(0, .ref a0), (1, .float z1), (2, .float z2), (3, .int z3), (4, .int z4), (5, .int z5)] → W p l e ({ frames := 5, cells := 0, slots := 0, locals := 113 } : Room) s m ([.ref a0, .float x1, .float x2, .int x3] : List Value).toArray below meth c H locs 0 0 (MQ below (va_Qi (S := Unit) (fun r _ => r = R.1) (fun _ t => va_P D vwCl (stW Y a0 a1 a2 a3 a4 a5 a6 R.2) t.heap) A) ([.ref a0, .float x1, .float x2, .int x3] : List Value).toArray s 0 0 A) (F0 m 6 ls []) := by
    intro fu
    induction fu with
    | zero =>
      intro W0 z1 z2 z3 z4 z5 H locs ls hr hP hD hS hl
      rw [mf_X4_passTicks_B6] at hr
      cases hr
    | succ fu ih =>
      intro W0 z1 z2 z3 z4 z5 H locs ls hr hP hD hS hl
      rw [mf_X4_passTicks_B6] at hr
      refine lv_iload hx hb dX4_passTicks_6 (lv_at hl 5 rfl) ?_
      refine lv_iload_n hx hb dX4_passTicks_8 rfl (lv_at hl 3 rfl) ?_
      refine lv_icmp_ge (tgt := 30) hx hb dX4_passTicks_9 (by decide) (fun c_1 => ?_) (fun c_1 => ?_)
      · have hr := hr.trans (if_pos c_1)
        refine lv_iload hx hb dX4_passTicks_30 (lv_at hl 4 rfl) ?_
        have hr := Option.some.inj hr
        subst hr
        exact W.iret hx hb hrt (fun t ht hW => ⟨⟨_, (), rfl, rfl, by show va_P D vwCl _ t.heap; rw [ht]; exact hP⟩, hS.F ht⟩) hS.2.2 dX4_passTicks_32
      · have hr := hr.trans (if_neg c_1)
        refine lv_aload_n hx hb dX4_passTicks_12 rfl (lv_at hl 0 rfl) ?_
        refine lv_fload_n hx hb dX4_passTicks_13 rfl (lv_at hl 1 rfl) ?_
        refine lv_fload_n hx hb dX4_passTicks_14 rfl (lv_at hl 2 rfl) ?_
        refine bdv hr (fun r_2 e_3 hr => ?_)
        refine rwV_iw (As := [.float z1, .float z2]) (rest := []) ⟨hx, hb, hml, hown, hts⟩ (k_X4_passTick l D Y a0 a1 a2 a3 a4 a5 a6 W0 z1 z2 r_2 e_3) (cwV 2 hts gX4_passTicks_X4_passTick rfl rfl rfl (by decide +kernel) ⟨Nat.le_of_ble_eq_true rfl, Nat.le_of_ble_eq_true rfl⟩) hP hK hN hZ hD hS rfl 0 4 rfl rfl rfl hl.1 rfl (Nat.le_of_ble_eq_true rfl) dX4_passTicks_15 ⟨Nat.le_refl 0, Nat.le_refl 0⟩ (fun H locs hP hD hS => ?_)
        refine lv_if_eq (tgt := 24) hx hb dX4_passTicks_18 (by decide) (fun c_4 => ?_) (fun c_4 => ?_)
        · have hr := hr.trans (if_pos c_4)
          exact B24 _ ih r_2.2 z1 z2 z3 z4 z5 _ _ _ hr hP hD hS (lv_sub hl [0, 1, 2, 3, 4, 5] rfl)
        · have hr := hr.trans (if_neg c_4)
          refine lv_iinc (v := (z4 + (1 : Int32))) (lv' := [(4, .int (z4 + (1 : Int32))), (0, .ref a0), (1, .float z1), (2, .float z2), (3, .int z3), (5, .int z5)]) hx hb dX4_passTicks_21 hl (k := 4) rfl rfl (by decide) rfl (fun ls hl => ?_)
          exact B24 _ ih r_2.2 z1 z2 z3 (z4 + (1 : Int32)) z5 _ _ _ hr hP hD hS (lv_sub hl [1, 2, 3, 4, 0, 5] rfl)
  rw [mf_X4_passTicks] at hr
  suffices KK : ∀ (H : Heap) (locs : List Loc), va_P D vwCl (stW Y a0 a1 a2 a3 a4 a5 a6 V) H → va_S A s.heap H locs → W p l e ({ frames := 5, cells := 0, slots := 0, locals := 113 } : Room) s m ([.ref a0, .float x1, .float x2, .int x3] : List Value).toArray below meth c H locs 0 0 (MQ below (va_Qi (S := Unit) (fun r _ => r = R.1) (fun _ t => va_P D vwCl (stW Y a0 a1 a2 a3 a4 a5 a6 R.2) t.heap) A) ([.ref a0, .float x1, .float x2, .int x3] : List Value).toArray s 0 0 A) (F0 m 0 ls []) from KK _ _ hP hS
  intro H locs hP hS
  refine lv_iconst (v := (0 : Int32)) hx hb dX4_passTicks_0 (by decide) ?_
  refine lv_istore (lv' := [(4, .int (0 : Int32)), (0, .ref a0), (1, .float x1), (2, .float x2), (3, .int x3)]) hx hb dX4_passTicks_1 hl (by decide) rfl (fun ls hl => ?_)
  refine lv_iconst (v := (0 : Int32)) hx hb dX4_passTicks_3 (by decide) ?_
  refine lv_istore (lv' := [(5, .int (0 : Int32)), (4, .int (0 : Int32)), (0, .ref a0), (1, .float x1), (2, .float x2), (3, .int x3)]) hx hb dX4_passTicks_4 hl (by decide) rfl (fun ls hl => ?_)
  exact B6 200 V x1 x2 x3 (0 : Int32) (0 : Int32) _ _ _ hr hP hD hS (lv_sub hl [2, 3, 4, 5, 1, 0] rfl)
