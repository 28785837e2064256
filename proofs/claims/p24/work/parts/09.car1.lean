set_option maxHeartbeats 4000000 in
set_option maxRecDepth 100000 in
theorem k_X5_isSpeed (l : Launch) (D : va_G) (Y : Nat → ClassId) (x0 : Int32) (R : Int32) (hr : R = mf_X5_isSpeed x0) : Met l yX5_isSpeed wsX5_isSpeed ({ frames := 0, cells := 0, slots := 0, locals := 0 } : Room) (va_Pc [.int x0] (PR D Y [])) (vp_Si (fun x => x = R)) 0 0 (fun _ => False) := by
  refine Met.ofW (cc := cX5_isSpeed) (maxL := 1) (ret := (some .boolean)) (by decide) rfl ?_
  intro p e s m args below meth c s₁ B hml hv
  obtain ⟨rfl, hP, hK, hN, hZ⟩ := hv
  have hx := B.exec
  have hb := B.bytes
  have hrt := B.returns
  have hts := atoms_spec (ws := wsX5_isSpeed) B.pre
  have hown : s.vm.findClass RX5 = some m.cls := findClass_of_methodNamed B.named
  have hlocks := B.notSynchronized
  have hS : va_S (fun _ => False) s.heap s.heap [] := va_S.rf
  have hl := lv_entry ([.int x0]) (n := 1) (Nat.le_of_ble_eq_true rfl)
  rw [lg_entry_eq]
  generalize (lg_sl ([.int x0]) ++ List.replicate (1 - (lg_sl ([.int x0])).length) Slot.unset).toArray = ls at hl ⊢
  have hl : lv_has ls 1 [(0, .int x0)] := hl
  rw [mf_X5_isSpeed] at hr
  refine lv_iload_n hx hb dX5_isSpeed_0 rfl (lv_at hl 0 rfl) ?_
  refine lv_if_lt (tgt := 14) hx hb dX5_isSpeed_1 (by decide) (fun c_1 => ?_) (fun c_1 => ?_)
  · have hr := hr.trans (if_pos c_1)
    refine lv_iconst (v := (0 : Int32)) hx hb dX5_isSpeed_14 (by decide) ?_
    subst hr
    exact W.zret (ty := .boolean) hx hb hrt (by decide) (fun t ht hW => ⟨_, rfl, rfl, ht⟩) (fun q hq => absurd hq List.not_mem_nil) dX5_isSpeed_15
  · have hr := hr.trans (if_neg c_1)
    refine lv_iload_n hx hb dX5_isSpeed_4 rfl (lv_at hl 0 rfl) ?_
    refine lv_ldc hx hb hown (hts (.constant RX5 198 (1133903872)) (List.mem_of_getElem? (i := 1) rfl)) dX5_isSpeed_5 ?_
    refine lv_icmp_gt (tgt := 14) hx hb dX5_isSpeed_7 (by decide) (fun c_2 => ?_) (fun c_2 => ?_)
    · have hr := hr.trans (if_pos c_2)
      refine lv_iconst (v := (0 : Int32)) hx hb dX5_isSpeed_14 (by decide) ?_
      subst hr
      exact W.zret (ty := .boolean) hx hb hrt (by decide) (fun t ht hW => ⟨_, rfl, rfl, ht⟩) (fun q hq => absurd hq List.not_mem_nil) dX5_isSpeed_15
    · have hr := hr.trans (if_neg c_2)
      refine lv_iconst (v := (1 : Int32)) hx hb dX5_isSpeed_10 (by decide) ?_
      refine lv_goto (tgt := 15) hx hb dX5_isSpeed_11 (by decide) ?_
      subst hr
      exact W.zret (ty := .boolean) hx hb hrt (by decide) (fun t ht hW => ⟨_, rfl, rfl, ht⟩) (fun q hq => absurd hq List.not_mem_nil) dX5_isSpeed_15

set_option maxHeartbeats 4000000 in
set_option maxRecDepth 100000 in
theorem k_X5_isPedal (l : Launch) (D : va_G) (Y : Nat → ClassId) (x0 : Int32) (R : Int32) (hr : R = mf_X5_isPedal x0) : Met l yX5_isPedal wsX5_isPedal ({ frames := 0, cells := 0, slots := 0, locals := 0 } : Room) (va_Pc [.int x0] (PR D Y [])) (vp_Si (fun x => x = R)) 0 0 (fun _ => False) := by
  refine Met.ofW (cc := cX5_isPedal) (maxL := 1) (ret := (some .boolean)) (by decide) rfl ?_
  intro p e s m args below meth c s₁ B hml hv
  obtain ⟨rfl, hP, hK, hN, hZ⟩ := hv
  have hx := B.exec
  have hb := B.bytes
  have hrt := B.returns
  have hts := atoms_spec (ws := wsX5_isPedal) B.pre
  have hown : s.vm.findClass RX5 = some m.cls := findClass_of_methodNamed B.named
  have hlocks := B.notSynchronized
  have hS : va_S (fun _ => False) s.heap s.heap [] := va_S.rf
  have hl := lv_entry ([.int x0]) (n := 1) (Nat.le_of_ble_eq_true rfl)
  rw [lg_entry_eq]
  generalize (lg_sl ([.int x0]) ++ List.replicate (1 - (lg_sl ([.int x0])).length) Slot.unset).toArray = ls at hl ⊢
  have hl : lv_has ls 1 [(0, .int x0)] := hl
  rw [mf_X5_isPedal] at hr
  refine lv_iload_n hx hb dX5_isPedal_0 rfl (lv_at hl 0 rfl) ?_
  refine lv_if_lt (tgt := 14) hx hb dX5_isPedal_1 (by decide) (fun c_1 => ?_) (fun c_1 => ?_)
  · have hr := hr.trans (if_pos c_1)
    refine lv_iconst (v := (0 : Int32)) hx hb dX5_isPedal_14 (by decide) ?_
    subst hr
    exact W.zret (ty := .boolean) hx hb hrt (by decide) (fun t ht hW => ⟨_, rfl, rfl, ht⟩) (fun q hq => absurd hq List.not_mem_nil) dX5_isPedal_15
  · have hr := hr.trans (if_neg c_1)
    refine lv_iload_n hx hb dX5_isPedal_4 rfl (lv_at hl 0 rfl) ?_
    refine lv_ldc hx hb hown (hts (.constant RX5 199 (1065353216)) (List.mem_of_getElem? (i := 1) rfl)) dX5_isPedal_5 ?_
    refine lv_icmp_gt (tgt := 14) hx hb dX5_isPedal_7 (by decide) (fun c_2 => ?_) (fun c_2 => ?_)
    · have hr := hr.trans (if_pos c_2)
      refine lv_iconst (v := (0 : Int32)) hx hb dX5_isPedal_14 (by decide) ?_
      subst hr
      exact W.zret (ty := .boolean) hx hb hrt (by decide) (fun t ht hW => ⟨_, rfl, rfl, ht⟩) (fun q hq => absurd hq List.not_mem_nil) dX5_isPedal_15
    · have hr := hr.trans (if_neg c_2)
      refine lv_iconst (v := (1 : Int32)) hx hb dX5_isPedal_10 (by decide) ?_
      refine lv_goto (tgt := 15) hx hb dX5_isPedal_11 (by decide) ?_
      subst hr
      exact W.zret (ty := .boolean) hx hb hrt (by decide) (fun t ht hW => ⟨_, rfl, rfl, ht⟩) (fun q hq => absurd hq List.not_mem_nil) dX5_isPedal_15

set_option maxHeartbeats 4000000 in
set_option maxRecDepth 100000 in
theorem k_X5_floatOf (l : Launch) (D : va_G) (Y : Nat → ClassId) (x0 : Int32) (R : UInt32) (hr : some R = mf_X5_floatOf x0) : Met l yX5_floatOf wsX5_floatOf ({ frames := 0, cells := 0, slots := 0, locals := 0 } : Room) (va_Pc [.int x0] (PR D Y [])) (vp_Sf (fun x => x = R)) 0 0 (fun _ => False) := by
  refine Met.ofW (cc := cX5_floatOf) (maxL := 5) (ret := (some .float)) (by decide) rfl ?_
  intro p e s m args below meth c s₁ B hml hv
  obtain ⟨rfl, hP, hK, hN, hZ⟩ := hv
  have hx := B.exec
  have hb := B.bytes
  have hrt := B.returns
  have hts := atoms_spec (ws := wsX5_floatOf) B.pre
  have hown : s.vm.findClass RX5 = some m.cls := findClass_of_methodNamed B.named
  have hlocks := B.notSynchronized
  have hS : va_S (fun _ => False) s.heap s.heap [] := va_S.rf
  have hl := lv_entry ([.int x0]) (n := 5) (Nat.le_of_ble_eq_true rfl)
  rw [lg_entry_eq]
  generalize (lg_sl ([.int x0]) ++ List.replicate (5 - (lg_sl ([.int x0])).length) Slot.unset).toArray = ls at hl ⊢
  have hl : lv_has ls 5 [(0, .int x0)] := hl
  have B30 : ∀ (fu : Nat), ∀ (z3 : UInt32) (z4 : Int32) (ls : Array Slot), some R = mf_X5_floatOf_B30 fu z3 z4 → lv_has ls 5 [(3, .float z3), (4, .int z4)] → W p l e ({ frames := 0, cells := 0, slots := 0, locals := 0 } : Room) s m ([.int x0] : List Value).toArray below meth c s.heap [] 0 0 (MQ below (vp_Sf (fun x => x = R)) ([.int x0] : List Value).toArray s 0 0 (fun _ => False)) (F0 m 30 ls []) := by
    intro fu
    induction fu with
    | zero =>
      intro z3 z4 ls hr hl
      rw [mf_X5_floatOf_B30] at hr
      cases hr
    | succ fu ih =>
      intro z3 z4 ls hr hl
      rw [mf_X5_floatOf_B30] at hr
      refine lv_iload hx hb dX5_floatOf_30 (lv_at hl 1 rfl) ?_
      refine lv_sipush (v := (150 : Int32)) hx hb dX5_floatOf_32 (by decide) ?_
      refine lv_icmp_ge (tgt := 49) hx hb dX5_floatOf_35 (by decide) (fun c_2 => ?_) (fun c_2 => ?_)
      · have hr := hr.trans (if_pos c_2)
        refine lv_fload_n hx hb dX5_floatOf_49 rfl (lv_at hl 0 rfl) ?_
        have hr := Option.some.inj hr
        subst hr
        exact W.fret hx hb hrt (fun t ht hW => ⟨_, rfl, rfl, ht⟩) (fun q hq => absurd hq List.not_mem_nil) dX5_floatOf_50
      · have hr := hr.trans (if_neg c_2)
        refine lv_fload_n hx hb dX5_floatOf_38 rfl (lv_at hl 0 rfl) ?_
        refine lv_ldcf hx hb hown (hts (.constantFloat RX5 202 (1056964608)) (List.mem_of_getElem? (i := 3) rfl)) dX5_floatOf_39 ?_
        refine gdv hr (fun g_3 hr => ?_)
        refine lv_fmul hx hb dX5_floatOf_41 g_3 ?_
        refine nmv hr (fun f_4 e_5 hr => ?_)
        rw [← e_5]
        refine lv_fstore_n (lv' := [(3, .float f_4), (4, .int z4)]) hx hb dX5_floatOf_42 rfl hl (by decide) rfl (fun ls hl => ?_)
        refine lv_iinc (v := (z4 + (1 : Int32))) (lv' := [(4, .int (z4 + (1 : Int32))), (3, .float f_4)]) hx hb dX5_floatOf_43 hl (k := 1) rfl rfl (by decide) rfl (fun ls hl => ?_)
        refine lv_goto (tgt := 30) hx hb dX5_floatOf_46 (by decide) ?_
        exact ih f_4 (z4 + (1 : Int32)) _ hr (lv_sub hl [1, 0] rfl)
  have B24 : ∀ (z1 : Int32) (z2 : Int32) (ls : Array Slot), some R = mf_X5_floatOf_B24 z1 z2 → lv_has ls 5 [(1, .int z1), (2, .int z2)] → W p l e ({ frames := 0, cells := 0, slots := 0, locals := 0 } : Room) s m ([.int x0] : List Value).toArray below meth c s.heap [] 0 0 (MQ below (vp_Sf (fun x => x = R)) ([.int x0] : List Value).toArray s 0 0 (fun _ => False)) (F0 m 24 ls []) := by
    intro z1 z2 ls hr hl
    rw [mf_X5_floatOf_B24] at hr
    refine lv_iload_n hx hb dX5_floatOf_24 rfl (lv_at hl 1 rfl) ?_
    refine lv_i2f hx hb dX5_floatOf_25 ?_
    refine lv_fstore_n (lv' := [(3, .float (FP.i2f z2)), (1, .int z1), (2, .int z2)]) hx hb dX5_floatOf_26 rfl hl (by decide) rfl (fun ls hl => ?_)
    refine lv_iload_n hx hb dX5_floatOf_27 rfl (lv_at hl 1 rfl) ?_
    refine lv_istore (lv' := [(4, .int z1), (3, .float (FP.i2f z2)), (1, .int z1), (2, .int z2)]) hx hb dX5_floatOf_28 hl (by decide) rfl (fun ls hl => ?_)
    exact B30 200 (FP.i2f z2) z1 _ hr (lv_sub hl [1, 0] rfl)
  rw [mf_X5_floatOf] at hr
  refine lv_iload_n hx hb dX5_floatOf_0 rfl (lv_at hl 0 rfl) ?_
  refine lv_bipush (v := (23 : Int32)) hx hb dX5_floatOf_1 (by decide) ?_
  refine lv_ishr hx hb dX5_floatOf_3 ?_
  refine lv_istore_n (lv' := [(1, .int (x0 >>> ((23 : Int32) &&& 31))), (0, .int x0)]) hx hb dX5_floatOf_4 rfl hl (by decide) rfl (fun ls hl => ?_)
  refine lv_iload_n hx hb dX5_floatOf_5 rfl (lv_at hl 1 rfl) ?_
  refine lv_ldc hx hb hown (hts (.constant RX5 200 (8388607)) (List.mem_of_getElem? (i := 1) rfl)) dX5_floatOf_6 ?_
  refine lv_iand hx hb dX5_floatOf_8 ?_
  refine lv_istore_n (lv' := [(2, .int (x0 &&& (8388607 : Int32))), (1, .int (x0 >>> ((23 : Int32) &&& 31))), (0, .int x0)]) hx hb dX5_floatOf_9 rfl hl (by decide) rfl (fun ls hl => ?_)
  refine lv_iload_n hx hb dX5_floatOf_10 rfl (lv_at hl 1 rfl) ?_
  refine lv_if_le (tgt := 22) hx hb dX5_floatOf_11 (by decide) (fun c_1 => ?_) (fun c_1 => ?_)
  · have hr := hr.trans (if_pos c_1)
    refine lv_iconst (v := (1 : Int32)) hx hb dX5_floatOf_22 (by decide) ?_
    refine lv_istore_n (lv' := [(1, .int (1 : Int32)), (2, .int (x0 &&& (8388607 : Int32))), (0, .int x0)]) hx hb dX5_floatOf_23 rfl hl (by decide) rfl (fun ls hl => ?_)
    exact B24 (1 : Int32) (x0 &&& (8388607 : Int32)) _ hr (lv_sub hl [0, 1] rfl)
  · have hr := hr.trans (if_neg c_1)
    refine lv_iload_n hx hb dX5_floatOf_14 rfl (lv_at hl 0 rfl) ?_
    refine lv_ldc hx hb hown (hts (.constant RX5 201 (8388608)) (List.mem_of_getElem? (i := 2) rfl)) dX5_floatOf_15 ?_
    refine lv_iadd hx hb dX5_floatOf_17 ?_
    refine lv_istore_n (lv' := [(2, .int ((x0 &&& (8388607 : Int32)) + (8388608 : Int32))), (1, .int (x0 >>> ((23 : Int32) &&& 31))), (0, .int x0)]) hx hb dX5_floatOf_18 rfl hl (by decide) rfl (fun ls hl => ?_)
    refine lv_goto (tgt := 24) hx hb dX5_floatOf_19 (by decide) ?_
    exact B24 (x0 >>> ((23 : Int32) &&& 31)) ((x0 &&& (8388607 : Int32)) + (8388608 : Int32)) _ hr (lv_sub hl [1, 0] rfl)

set_option maxHeartbeats 4000000 in
set_option maxRecDepth 100000 in
theorem k_X5_notANumber (l : Launch) (D : va_G) (Y : Nat → ClassId) (R : UInt32) (hr : R = mf_X5_notANumber) : Met l yX5_notANumber wsX5_notANumber ({ frames := 0, cells := 0, slots := 0, locals := 0 } : Room) (va_Pc [] (PR D Y [])) (vp_Sf (fun x => x = R)) 0 0 (fun _ => False) := by
  refine Met.ofW (cc := cX5_notANumber) (maxL := 0) (ret := (some .float)) (by decide) rfl ?_
  intro p e s m args below meth c s₁ B hml hv
  obtain ⟨rfl, hP, hK, hN, hZ⟩ := hv
  have hx := B.exec
  have hb := B.bytes
  have hrt := B.returns
  have hts := atoms_spec (ws := wsX5_notANumber) B.pre
  have hown : s.vm.findClass RX5 = some m.cls := findClass_of_methodNamed B.named
  have hlocks := B.notSynchronized
  have hS : va_S (fun _ => False) s.heap s.heap [] := va_S.rf
  have hl := lv_entry ([]) (n := 0) (Nat.le_of_ble_eq_true rfl)
  rw [lg_entry_eq]
  generalize (lg_sl ([]) ++ List.replicate (0 - (lg_sl ([])).length) Slot.unset).toArray = ls at hl ⊢
  have hl : lv_has ls 0 [] := hl
  rw [mf_X5_notANumber] at hr
  refine lv_ldcf hx hb hown (hts (.constantFloat RX5 203 (2143289344)) (List.mem_of_getElem? (i := 1) rfl)) dX5_notANumber_0 ?_
  subst hr
  exact W.fret hx hb hrt (fun t ht hW => ⟨_, rfl, rfl, ht⟩) (fun q hq => absurd hq List.not_mem_nil) dX5_notANumber_2

set_option maxHeartbeats 4000000 in
set_option maxRecDepth 100000 in
theorem k_X5_car (l : Launch) (D : va_G) (Y : Nat → ClassId) (ad : Nat → Nat) (V : CarV) (x1 : Int32) (R : Int32) (hr : R = mf_X5_car V x1) : Met l yX5_car wsX5_car ({ frames := 3, cells := 0, slots := 0, locals := 64 } : Room) (va_Pc [.ref (ad 0), .int x1] (PR D Y (carW Y ad V))) (vp_Si (fun x => x = R)) 0 0 (fun _ => False) := by
  refine Met.ofW (cc := cX5_car) (maxL := 2) (ret := (some .int)) (by decide) rfl ?_
  intro p e s m args below meth c s₁ B hml hv
  obtain ⟨rfl, hP, hK, hN, hZ⟩ := hv
  have hx := B.exec
  have hb := B.bytes
  have hrt := B.returns
  have hts := atoms_spec (ws := wsX5_car) B.pre
  have hown : s.vm.findClass RX5 = some m.cls := findClass_of_methodNamed B.named
  have hlocks := B.notSynchronized
  have inX4 : ∀ w ∈ u_ws RX4 TX4 11, w ∈ wsX5_car := uin_at 32 rfl
  have inX5 : ∀ w ∈ u_ws RX5 TX5 6, w ∈ wsX5_car := uin_at 26 rfl
  have hS : va_S (fun _ => False) s.heap s.heap [] := va_S.rf
  have hl := lv_entry ([.ref (ad 0), .int x1]) (n := 2) (Nat.le_of_ble_eq_true rfl)
  rw [lg_entry_eq]
  generalize (lg_sl ([.ref (ad 0), .int x1]) ++ List.replicate (2 - (lg_sl ([.ref (ad 0), .int x1])).length) Slot.unset).toArray = ls at hl ⊢
  have hl : lv_has ls 2 [(0, .ref (ad 0)), (1, .int x1)] := hl
  rw [mf_X5_car] at hr
  refine lv_iload_n hx hb dX5_car_0 rfl (lv_at hl 1 rfl) ?_
  by_cases c_1 : x1 = (0 : Int32)
  · have hr := hr.trans (if_pos c_1)
    refine lv_tableIn (off := 43) (tgt := 44) hx hb dX5_car_1 (by rw [c_1]; decide) (by rw [c_1]; decide) (by rw [c_1]; rfl) (by decide) ?_
    refine lv_aload_n hx hb dX5_car_44 rfl (lv_at hl 0 rfl) ?_
    refine va_get (D := D) (ci := 5) (v := .ref (ad 1)) (C := RX5) (T := TX5) (N := 6) hx hb hts inX5 hown hK hP 0 rfl rfl 0 (by decide) (hts (.fieldLink RX5 10 "ShiftMaps" "now" "LShiftMaps$State;") (List.mem_of_getElem? (i := 1) rfl)) (fun _ h9 => h9) rfl dX5_car_45 ?_
    refine va_getN (D := D) (ci := 4) (v := .int (v4_gear (v5_now V))) (C := RX4) (T := TX4) (N := 11) hx hb hts inX4 hown hK hP 1 rfl rfl 4 (by decide) (va_Nw.use rfl (NZ.n88 hN)) (fun _ h9 => h9) rfl dX5_car_48 ?_
    subst hr
    exact W.iret hx hb hrt (fun t ht hW => ⟨_, rfl, rfl, ht⟩) (fun q hq => absurd hq List.not_mem_nil) dX5_car_51
  · have hr := hr.trans (if_neg c_1)
    by_cases c_2 : x1 = (1 : Int32)
    · have hr := hr.trans (if_pos c_2)
      refine lv_tableIn (off := 51) (tgt := 52) hx hb dX5_car_1 (by rw [c_2]; decide) (by rw [c_2]; decide) (by rw [c_2]; rfl) (by decide) ?_
      refine lv_aload_n hx hb dX5_car_52 rfl (lv_at hl 0 rfl) ?_
      refine va_get (D := D) (ci := 5) (v := .ref (ad 1)) (C := RX5) (T := TX5) (N := 6) hx hb hts inX5 hown hK hP 0 rfl rfl 0 (by decide) (hts (.fieldLink RX5 10 "ShiftMaps" "now" "LShiftMaps$State;") (List.mem_of_getElem? (i := 1) rfl)) (fun _ h9 => h9) rfl dX5_car_53 ?_
      refine nmv hr (fun r_3 e_4 hr => ?_)
      refine roV_i (As := []) (rest := []) ⟨hx, hb, hml, hown, hts⟩ (k_X4_isChanging l D Y (ad 1) (ad 2) (ad 3) (ad 4) (ad 5) (ad 6) (ad 7) (v5_now V) r_3 e_4) (cwV 0 hts gX5_car_X4_isChanging rfl rfl rfl (by decide +kernel) ⟨Nat.le_of_ble_eq_true rfl, Nat.le_of_ble_eq_true rfl⟩) (hP.sub (ws' := (stW Y (ad 1) (ad 2) (ad 3) (ad 4) (ad 5) (ad 6) (ad 7) (v5_now V))) [1, 2, 3, 4, 5, 6, 7] rfl) hK hN hZ 0 4 rfl rfl rfl hl.1 rfl (Nat.le_of_ble_eq_true rfl) dX5_car_56 ⟨Nat.le_refl 0, Nat.le_refl 0⟩ ?_
      refine lv_if_eq (tgt := 72) hx hb dX5_car_59 (by decide) (fun c_5 => ?_) (fun c_5 => ?_)
      · have hr := hr.trans (if_pos c_5)
        refine lv_bipush (v := (-5 : Int32)) hx hb dX5_car_72 (by decide) ?_
        subst hr
        exact W.iret hx hb hrt (fun t ht hW => ⟨_, rfl, rfl, ht⟩) (fun q hq => absurd hq List.not_mem_nil) dX5_car_74
      · have hr := hr.trans (if_neg c_5)
        refine lv_aload_n hx hb dX5_car_62 rfl (lv_at hl 0 rfl) ?_
        refine va_get (D := D) (ci := 5) (v := .ref (ad 1)) (C := RX5) (T := TX5) (N := 6) hx hb hts inX5 hown hK hP 0 rfl rfl 0 (by decide) (hts (.fieldLink RX5 10 "ShiftMaps" "now" "LShiftMaps$State;") (List.mem_of_getElem? (i := 1) rfl)) (fun _ h9 => h9) rfl dX5_car_63 ?_
        refine va_getN (D := D) (ci := 4) (v := .int (v4_target (v5_now V))) (C := RX4) (T := TX4) (N := 11) hx hb hts inX4 hown hK hP 1 rfl rfl 5 (by decide) (va_Nw.use rfl (NZ.n149 hN)) (fun _ h9 => h9) rfl dX5_car_66 ?_
        refine lv_goto (tgt := 74) hx hb dX5_car_69 (by decide) ?_
        subst hr
        exact W.iret hx hb hrt (fun t ht hW => ⟨_, rfl, rfl, ht⟩) (fun q hq => absurd hq List.not_mem_nil) dX5_car_74
    · have hr := hr.trans (if_neg c_2)
      by_cases c_6 : x1 = (2 : Int32)
      · have hr := hr.trans (if_pos c_6)
        refine lv_tableIn (off := 74) (tgt := 75) hx hb dX5_car_1 (by rw [c_6]; decide) (by rw [c_6]; decide) (by rw [c_6]; rfl) (by decide) ?_
        refine lv_aload_n hx hb dX5_car_75 rfl (lv_at hl 0 rfl) ?_
        refine va_get (D := D) (ci := 5) (v := .ref (ad 1)) (C := RX5) (T := TX5) (N := 6) hx hb hts inX5 hown hK hP 0 rfl rfl 0 (by decide) (hts (.fieldLink RX5 10 "ShiftMaps" "now" "LShiftMaps$State;") (List.mem_of_getElem? (i := 1) rfl)) (fun _ h9 => h9) rfl dX5_car_76 ?_
        refine nmv hr (fun r_7 e_8 hr => ?_)
        refine roV_i (As := []) (rest := []) ⟨hx, hb, hml, hown, hts⟩ (k_X4_isChanging l D Y (ad 1) (ad 2) (ad 3) (ad 4) (ad 5) (ad 6) (ad 7) (v5_now V) r_7 e_8) (cwV 0 hts gX5_car_X4_isChanging rfl rfl rfl (by decide +kernel) ⟨Nat.le_of_ble_eq_true rfl, Nat.le_of_ble_eq_true rfl⟩) (hP.sub (ws' := (stW Y (ad 1) (ad 2) (ad 3) (ad 4) (ad 5) (ad 6) (ad 7) (v5_now V))) [1, 2, 3, 4, 5, 6, 7] rfl) hK hN hZ 0 4 rfl rfl rfl hl.1 rfl (Nat.le_of_ble_eq_true rfl) dX5_car_79 ⟨Nat.le_refl 0, Nat.le_refl 0⟩ ?_
        refine lv_if_eq (tgt := 95) hx hb dX5_car_82 (by decide) (fun c_9 => ?_) (fun c_9 => ?_)
        · have hr := hr.trans (if_pos c_9)
          refine lv_bipush (v := (-5 : Int32)) hx hb dX5_car_95 (by decide) ?_
          subst hr
          exact W.iret hx hb hrt (fun t ht hW => ⟨_, rfl, rfl, ht⟩) (fun q hq => absurd hq List.not_mem_nil) dX5_car_97
        · have hr := hr.trans (if_neg c_9)
          refine lv_aload_n hx hb dX5_car_85 rfl (lv_at hl 0 rfl) ?_
          refine va_get (D := D) (ci := 5) (v := .ref (ad 1)) (C := RX5) (T := TX5) (N := 6) hx hb hts inX5 hown hK hP 0 rfl rfl 0 (by decide) (hts (.fieldLink RX5 10 "ShiftMaps" "now" "LShiftMaps$State;") (List.mem_of_getElem? (i := 1) rfl)) (fun _ h9 => h9) rfl dX5_car_86 ?_
          refine va_getN (D := D) (ci := 4) (v := .int (v4_done (v5_now V))) (C := RX4) (T := TX4) (N := 11) hx hb hts inX4 hown hK hP 1 rfl rfl 6 (by decide) (va_Nw.use rfl (NZ.n152 hN)) (fun _ h9 => h9) rfl dX5_car_89 ?_
          refine lv_goto (tgt := 97) hx hb dX5_car_92 (by decide) ?_
          subst hr
          exact W.iret hx hb hrt (fun t ht hW => ⟨_, rfl, rfl, ht⟩) (fun q hq => absurd hq List.not_mem_nil) dX5_car_97
      · have hr := hr.trans (if_neg c_6)
        by_cases c_10 : x1 = (3 : Int32)
        · have hr := hr.trans (if_pos c_10)
          refine lv_tableIn (off := 97) (tgt := 98) hx hb dX5_car_1 (by rw [c_10]; decide) (by rw [c_10]; decide) (by rw [c_10]; rfl) (by decide) ?_
          refine lv_aload_n hx hb dX5_car_98 rfl (lv_at hl 0 rfl) ?_
          refine va_get (D := D) (ci := 5) (v := .ref (ad 1)) (C := RX5) (T := TX5) (N := 6) hx hb hts inX5 hown hK hP 0 rfl rfl 0 (by decide) (hts (.fieldLink RX5 10 "ShiftMaps" "now" "LShiftMaps$State;") (List.mem_of_getElem? (i := 1) rfl)) (fun _ h9 => h9) rfl dX5_car_99 ?_
          refine va_getN (D := D) (ci := 4) (v := .int (v4_held (v5_now V))) (C := RX4) (T := TX4) (N := 11) hx hb hts inX4 hown hK hP 1 rfl rfl 7 (by decide) (va_Nw.use rfl (NZ.n155 hN)) (fun _ h9 => h9) rfl dX5_car_102 ?_
          subst hr
          exact W.iret hx hb hrt (fun t ht hW => ⟨_, rfl, rfl, ht⟩) (fun q hq => absurd hq List.not_mem_nil) dX5_car_105
        · have hr := hr.trans (if_neg c_10)
          by_cases c_11 : x1 = (4 : Int32)
          · have hr := hr.trans (if_pos c_11)
            refine lv_tableIn (off := 105) (tgt := 106) hx hb dX5_car_1 (by rw [c_11]; decide) (by rw [c_11]; decide) (by rw [c_11]; rfl) (by decide) ?_
            refine lv_aload_n hx hb dX5_car_106 rfl (lv_at hl 0 rfl) ?_
            refine va_get (D := D) (ci := 5) (v := .ref (ad 1)) (C := RX5) (T := TX5) (N := 6) hx hb hts inX5 hown hK hP 0 rfl rfl 0 (by decide) (hts (.fieldLink RX5 10 "ShiftMaps" "now" "LShiftMaps$State;") (List.mem_of_getElem? (i := 1) rfl)) (fun _ h9 => h9) rfl dX5_car_107 ?_
            refine va_getN (D := D) (ci := 4) (v := .int (v4_handMode (v5_now V))) (C := RX4) (T := TX4) (N := 11) hx hb hts inX4 hown hK hP 1 rfl rfl 8 (by decide) (va_Nw.use rfl (NZ.n85 hN)) (fun _ h9 => h9) rfl dX5_car_110 ?_
            refine lv_if_eq (tgt := 120) hx hb dX5_car_113 (by decide) (fun c_12 => ?_) (fun c_12 => ?_)
            · have hr := hr.trans (if_pos c_12)
              refine lv_iconst (v := (0 : Int32)) hx hb dX5_car_120 (by decide) ?_
              subst hr
              exact W.iret hx hb hrt (fun t ht hW => ⟨_, rfl, rfl, ht⟩) (fun q hq => absurd hq List.not_mem_nil) dX5_car_121
            · have hr := hr.trans (if_neg c_12)
              refine lv_iconst (v := (1 : Int32)) hx hb dX5_car_116 (by decide) ?_
              refine lv_goto (tgt := 121) hx hb dX5_car_117 (by decide) ?_
              subst hr
              exact W.iret hx hb hrt (fun t ht hW => ⟨_, rfl, rfl, ht⟩) (fun q hq => absurd hq List.not_mem_nil) dX5_car_121
          · have hr := hr.trans (if_neg c_11)
            by_cases c_13 : x1 = (5 : Int32)
            · have hr := hr.trans (if_pos c_13)
              refine lv_tableIn (off := 121) (tgt := 122) hx hb dX5_car_1 (by rw [c_13]; decide) (by rw [c_13]; decide) (by rw [c_13]; rfl) (by decide) ?_
              refine lv_aload_n hx hb dX5_car_122 rfl (lv_at hl 0 rfl) ?_
              refine va_get (D := D) (ci := 5) (v := .ref (ad 1)) (C := RX5) (T := TX5) (N := 6) hx hb hts inX5 hown hK hP 0 rfl rfl 0 (by decide) (hts (.fieldLink RX5 10 "ShiftMaps" "now" "LShiftMaps$State;") (List.mem_of_getElem? (i := 1) rfl)) (fun _ h9 => h9) rfl dX5_car_123 ?_
              refine nmv hr (fun r_14 e_15 hr => ?_)
              refine roV_i (As := []) (rest := []) ⟨hx, hb, hml, hown, hts⟩ (k_X4_opening l D Y (ad 1) (ad 2) (ad 3) (ad 4) (ad 5) (ad 6) (ad 7) (v5_now V) r_14 e_15) (cwV 0 hts gX5_car_X4_opening rfl rfl rfl (by decide +kernel) ⟨Nat.le_of_ble_eq_true rfl, Nat.le_of_ble_eq_true rfl⟩) (hP.sub (ws' := (stW Y (ad 1) (ad 2) (ad 3) (ad 4) (ad 5) (ad 6) (ad 7) (v5_now V))) [1, 2, 3, 4, 5, 6, 7] rfl) hK hN hZ 0 4 rfl rfl rfl hl.1 rfl (Nat.le_of_ble_eq_true rfl) dX5_car_126 ⟨Nat.le_refl 0, Nat.le_refl 0⟩ ?_
              subst hr
              exact W.iret hx hb hrt (fun t ht hW => ⟨_, rfl, rfl, ht⟩) (fun q hq => absurd hq List.not_mem_nil) dX5_car_129
            · have hr := hr.trans (if_neg c_13)
              by_cases c_16 : x1 = (6 : Int32)
              · have hr := hr.trans (if_pos c_16)
                refine lv_tableIn (off := 129) (tgt := 130) hx hb dX5_car_1 (by rw [c_16]; decide) (by rw [c_16]; decide) (by rw [c_16]; rfl) (by decide) ?_
                refine lv_aload_n hx hb dX5_car_130 rfl (lv_at hl 0 rfl) ?_
                refine va_get (D := D) (ci := 5) (v := .ref (ad 1)) (C := RX5) (T := TX5) (N := 6) hx hb hts inX5 hown hK hP 0 rfl rfl 0 (by decide) (hts (.fieldLink RX5 10 "ShiftMaps" "now" "LShiftMaps$State;") (List.mem_of_getElem? (i := 1) rfl)) (fun _ h9 => h9) rfl dX5_car_131 ?_
                refine nmv hr (fun r_17 e_18 hr => ?_)
                refine roV_i (As := []) (rest := []) ⟨hx, hb, hml, hown, hts⟩ (k_X4_closing l D Y (ad 1) (ad 2) (ad 3) (ad 4) (ad 5) (ad 6) (ad 7) (v5_now V) r_17 e_18) (cwV 0 hts gX5_car_X4_closing rfl rfl rfl (by decide +kernel) ⟨Nat.le_of_ble_eq_true rfl, Nat.le_of_ble_eq_true rfl⟩) (hP.sub (ws' := (stW Y (ad 1) (ad 2) (ad 3) (ad 4) (ad 5) (ad 6) (ad 7) (v5_now V))) [1, 2, 3, 4, 5, 6, 7] rfl) hK hN hZ 0 4 rfl rfl rfl hl.1 rfl (Nat.le_of_ble_eq_true rfl) dX5_car_134 ⟨Nat.le_refl 0, Nat.le_refl 0⟩ ?_
                subst hr
                exact W.iret hx hb hrt (fun t ht hW => ⟨_, rfl, rfl, ht⟩) (fun q hq => absurd hq List.not_mem_nil) dX5_car_137
              · have hr := hr.trans (if_neg c_16)
                refine lv_tableOut (tgt := 138) hx hb dX5_car_1 (by have z0 := lv_neT (k := (0 : Int32)) (a := 0) c_1 rfl; have z1 := lv_neT (k := (1 : Int32)) (a := 1) c_2 rfl; have z2 := lv_neT (k := (2 : Int32)) (a := 2) c_6 rfl; have z3 := lv_neT (k := (3 : Int32)) (a := 3) c_10 rfl; have z4 := lv_neT (k := (4 : Int32)) (a := 4) c_11 rfl; have z5 := lv_neT (k := (5 : Int32)) (a := 5) c_13 rfl; have z6 := lv_neT (k := (6 : Int32)) (a := 6) c_16 rfl; omega) (by decide) ?_
                refine lv_bipush (v := (-2 : Int32)) hx hb dX5_car_138 (by decide) ?_
                subst hr
                exact W.iret hx hb hrt (fun t ht hW => ⟨_, rfl, rfl, ht⟩) (fun q hq => absurd hq List.not_mem_nil) dX5_car_140

set_option maxHeartbeats 4000000 in
set_option maxRecDepth 100000 in
theorem k_X5_pressed (l : Launch) (D : va_G) (Y : Nat → ClassId) (ad : Nat → Nat) (V : CarV) (x1 : Int32) (R : UInt32) (hr : some R = mf_X5_pressed V x1) : Met l yX5_pressed wsX5_pressed ({ frames := 4, cells := 0, slots := 0, locals := 85 } : Room) (va_Pc [.ref (ad 0), .int x1] (PR D Y (carW Y ad V))) (vp_Sf (fun x => x = R)) 0 0 (fun _ => False) := by
  refine Met.ofW (cc := cX5_pressed) (maxL := 2) (ret := (some .float)) (by decide) rfl ?_
  intro p e s m args below meth c s₁ B hml hv
  obtain ⟨rfl, hP, hK, hN, hZ⟩ := hv
  have hx := B.exec
  have hb := B.bytes
  have hrt := B.returns
  have hts := atoms_spec (ws := wsX5_pressed) B.pre
  have hown : s.vm.findClass RX5 = some m.cls := findClass_of_methodNamed B.named
  have hlocks := B.notSynchronized
  have inX5 : ∀ w ∈ u_ws RX5 TX5 6, w ∈ wsX5_pressed := uin_at 48 rfl
  have hS : va_S (fun _ => False) s.heap s.heap [] := va_S.rf
  have hl := lv_entry ([.ref (ad 0), .int x1]) (n := 2) (Nat.le_of_ble_eq_true rfl)
  rw [lg_entry_eq]
  generalize (lg_sl ([.ref (ad 0), .int x1]) ++ List.replicate (2 - (lg_sl ([.ref (ad 0), .int x1])).length) Slot.unset).toArray = ls at hl ⊢
  have hl : lv_has ls 2 [(0, .ref (ad 0)), (1, .int x1)] := hl
  have B20 : ∀ (ls : Array Slot), some R = mf_X5_pressed_B20 V → lv_has ls 2 [] → W p l e ({ frames := 4, cells := 0, slots := 0, locals := 85 } : Room) s m ([.ref (ad 0), .int x1] : List Value).toArray below meth c s.heap [] 0 0 (MQ below (vp_Sf (fun x => x = R)) ([.ref (ad 0), .int x1] : List Value).toArray s 0 0 (fun _ => False)) (F0 m 20 ls []) := by
    intro ls hr hl
    rw [mf_X5_pressed_B20] at hr
    refine nmv hr (fun r_2 e_3 hr => ?_)
    refine roS_f (As := []) (rest := []) ⟨hx, hb, hml, hown, hts⟩ (k_X5_notANumber l D Y   r_2 e_3) (va_cwS 0 hts gX5_pressed_X5_notANumber rfl rfl rfl (by decide +kernel) ⟨Nat.le_of_ble_eq_true rfl, Nat.le_of_ble_eq_true rfl⟩) (hP.sub (ws' := []) [] rfl) hK hN hZ rfl hl.1 rfl (Nat.le_of_ble_eq_true rfl) dX5_pressed_20 ⟨Nat.le_refl 0, Nat.le_refl 0⟩ ?_
    have hr := Option.some.inj hr
    subst hr
    exact W.fret hx hb hrt (fun t ht hW => ⟨_, rfl, rfl, ht⟩) (fun q hq => absurd hq List.not_mem_nil) dX5_pressed_23
  rw [mf_X5_pressed] at hr
  refine lv_iload_n hx hb dX5_pressed_0 rfl (lv_at hl 1 rfl) ?_
  refine lv_if_lt (tgt := 20) hx hb dX5_pressed_1 (by decide) (fun c_1 => ?_) (fun c_1 => ?_)
  · have hr := hr.trans (if_pos c_1)
    exact B20  _ hr (lv_sub hl [] rfl)
  · have hr := hr.trans (if_neg c_1)
    refine lv_iload_n hx hb dX5_pressed_4 rfl (lv_at hl 1 rfl) ?_
    refine lv_iconst (v := (5 : Int32)) hx hb dX5_pressed_5 (by decide) ?_
    refine lv_icmp_ge (tgt := 20) hx hb dX5_pressed_6 (by decide) (fun c_4 => ?_) (fun c_4 => ?_)
    · have hr := hr.trans (if_pos c_4)
      exact B20  _ hr (lv_sub hl [] rfl)
    · have hr := hr.trans (if_neg c_4)
      refine lv_aload_n hx hb dX5_pressed_9 rfl (lv_at hl 0 rfl) ?_
      refine va_get (D := D) (ci := 5) (v := .ref (ad 1)) (C := RX5) (T := TX5) (N := 6) hx hb hts inX5 hown hK hP 0 rfl rfl 0 (by decide) (hts (.fieldLink RX5 10 "ShiftMaps" "now" "LShiftMaps$State;") (List.mem_of_getElem? (i := 1) rfl)) (fun _ h9 => h9) rfl dX5_pressed_10 ?_
      refine lv_iload_n hx hb dX5_pressed_13 rfl (lv_at hl 1 rfl) ?_
      refine bdv hr (fun r_5 e_6 hr => ?_)
      refine roV_f (As := [.int x1]) (rest := []) ⟨hx, hb, hml, hown, hts⟩ (k_X4_pressureOf l D Y (ad 1) (ad 2) (ad 3) (ad 4) (ad 5) (ad 6) (ad 7) (v5_now V) x1 r_5 e_6) (cwV 1 hts gX5_pressed_X4_pressureOf rfl rfl rfl (by decide +kernel) ⟨Nat.le_of_ble_eq_true rfl, Nat.le_of_ble_eq_true rfl⟩) (hP.sub (ws' := (stW Y (ad 1) (ad 2) (ad 3) (ad 4) (ad 5) (ad 6) (ad 7) (v5_now V))) [1, 2, 3, 4, 5, 6, 7] rfl) hK hN hZ 0 4 rfl rfl rfl hl.1 rfl (Nat.le_of_ble_eq_true rfl) dX5_pressed_14 ⟨Nat.le_refl 0, Nat.le_refl 0⟩ ?_
      refine lv_goto (tgt := 23) hx hb dX5_pressed_17 (by decide) ?_
      have hr := Option.some.inj hr
      subst hr
      exact W.fret hx hb hrt (fun t ht hW => ⟨_, rfl, rfl, ht⟩) (fun q hq => absurd hq List.not_mem_nil) dX5_pressed_23

set_option maxHeartbeats 4000000 in
set_option maxRecDepth 100000 in
theorem k_X5_force (l : Launch) (D : va_G) (Y : Nat → ClassId) (ad : Nat → Nat) (V : CarV) (R : UInt32) (hr : some R = mf_X5_force V) : Met l yX5_force wsX5_force ({ frames := 3, cells := 0, slots := 0, locals := 65 } : Room) (va_Pc [.ref (ad 0)] (PR D Y (carW Y ad V))) (vp_Sf (fun x => x = R)) 0 0 (fun _ => False) := by
  refine Met.ofW (cc := cX5_force) (maxL := 1) (ret := (some .float)) (by decide) rfl ?_
  intro p e s m args below meth c s₁ B hml hv
  obtain ⟨rfl, hP, hK, hN, hZ⟩ := hv
  have hx := B.exec
  have hb := B.bytes
  have hrt := B.returns
  have hts := atoms_spec (ws := wsX5_force) B.pre
  have hown : s.vm.findClass RX5 = some m.cls := findClass_of_methodNamed B.named
  have hlocks := B.notSynchronized
  have inX5 : ∀ w ∈ u_ws RX5 TX5 6, w ∈ wsX5_force := uin_at 26 rfl
  have hS : va_S (fun _ => False) s.heap s.heap [] := va_S.rf
  have hl := lv_entry ([.ref (ad 0)]) (n := 1) (Nat.le_of_ble_eq_true rfl)
  rw [lg_entry_eq]
  generalize (lg_sl ([.ref (ad 0)]) ++ List.replicate (1 - (lg_sl ([.ref (ad 0)])).length) Slot.unset).toArray = ls at hl ⊢
  have hl : lv_has ls 1 [(0, .ref (ad 0))] := hl
  rw [mf_X5_force] at hr
  refine lv_aload_n hx hb dX5_force_0 rfl (lv_at hl 0 rfl) ?_
  refine va_get (D := D) (ci := 5) (v := .ref (ad 1)) (C := RX5) (T := TX5) (N := 6) hx hb hts inX5 hown hK hP 0 rfl rfl 0 (by decide) (hts (.fieldLink RX5 10 "ShiftMaps" "now" "LShiftMaps$State;") (List.mem_of_getElem? (i := 1) rfl)) (fun _ h9 => h9) rfl dX5_force_1 ?_
  refine bdv hr (fun r_1 e_2 hr => ?_)
  refine roV_f (As := []) (rest := []) ⟨hx, hb, hml, hown, hts⟩ (k_X4_greaterPressure l D Y (ad 1) (ad 2) (ad 3) (ad 4) (ad 5) (ad 6) (ad 7) (v5_now V) r_1 e_2) (cwV 0 hts gX5_force_X4_greaterPressure rfl rfl rfl (by decide +kernel) ⟨Nat.le_of_ble_eq_true rfl, Nat.le_of_ble_eq_true rfl⟩) (hP.sub (ws' := (stW Y (ad 1) (ad 2) (ad 3) (ad 4) (ad 5) (ad 6) (ad 7) (v5_now V))) [1, 2, 3, 4, 5, 6, 7] rfl) hK hN hZ 0 4 rfl rfl rfl hl.1 rfl (Nat.le_of_ble_eq_true rfl) dX5_force_4 ⟨Nat.le_refl 0, Nat.le_refl 0⟩ ?_
  have hr := Option.some.inj hr
  subst hr
  exact W.fret hx hb hrt (fun t ht hW => ⟨_, rfl, rfl, ht⟩) (fun q hq => absurd hq List.not_mem_nil) dX5_force_7

set_option maxHeartbeats 4000000 in
set_option maxRecDepth 100000 in
theorem k_X5_map (l : Launch) (D : va_G) (Y : Nat → ClassId) (ad : Nat → Nat) (V : CarV) (x1 : Int32) (x2 : Int32) (R : UInt32) (hr : R = mf_X5_map V x1 x2) : Met l yX5_map wsX5_map ({ frames := 1, cells := 0, slots := 0, locals := 23 } : Room) (va_Pc [.ref (ad 0), .int x1, .int x2] (PR D Y (carW Y ad V))) (vp_Sf (fun x => x = R)) 0 0 (fun _ => False) := by
  refine Met.ofW (cc := cX5_map) (maxL := 3) (ret := (some .float)) (by decide) rfl ?_
  intro p e s m args below meth c s₁ B hml hv
  obtain ⟨rfl, hP, hK, hN, hZ⟩ := hv
  have hx := B.exec
  have hb := B.bytes
  have hrt := B.returns
  have hts := atoms_spec (ws := wsX5_map) B.pre
  have hown : s.vm.findClass RX5 = some m.cls := findClass_of_methodNamed B.named
  have hlocks := B.notSynchronized
  have inX4 : ∀ w ∈ u_ws RX4 TX4 11, w ∈ wsX5_map := uin_at 22 rfl
  have inX5 : ∀ w ∈ u_ws RX5 TX5 6, w ∈ wsX5_map := uin_at 16 rfl
  have hS : va_S (fun _ => False) s.heap s.heap [] := va_S.rf
  have hl := lv_entry ([.ref (ad 0), .int x1, .int x2]) (n := 3) (Nat.le_of_ble_eq_true rfl)
  rw [lg_entry_eq]
  generalize (lg_sl ([.ref (ad 0), .int x1, .int x2]) ++ List.replicate (3 - (lg_sl ([.ref (ad 0), .int x1, .int x2])).length) Slot.unset).toArray = ls at hl ⊢
  have hl : lv_has ls 3 [(0, .ref (ad 0)), (1, .int x1), (2, .int x2)] := hl
  rw [mf_X5_map] at hr
  refine lv_iload_n hx hb dX5_map_0 rfl (lv_at hl 1 rfl) ?_
  refine lv_iload_n hx hb dX5_map_1 rfl (lv_at hl 2 rfl) ?_
  refine nmv hr (fun r_1 e_2 hr => ?_)
  refine roS_i (As := [.int x1, .int x2]) (rest := []) ⟨hx, hb, hml, hown, hts⟩ (k_X3_has l D Y  x1 x2 r_1 e_2) (va_cwS 2 hts gX5_map_X3_has rfl rfl rfl (by decide +kernel) ⟨Nat.le_of_ble_eq_true rfl, Nat.le_of_ble_eq_true rfl⟩) (hP.sub (ws' := []) [] rfl) hK hN hZ rfl hl.1 rfl (Nat.le_of_ble_eq_true rfl) dX5_map_2 ⟨Nat.le_refl 0, Nat.le_refl 0⟩ ?_
  refine lv_if_eq (tgt := 23) hx hb dX5_map_5 (by decide) (fun c_3 => ?_) (fun c_3 => ?_)
  · have hr := hr.trans (if_pos c_3)
    refine nmv hr (fun r_4 e_5 hr => ?_)
    refine roS_f (As := []) (rest := []) ⟨hx, hb, hml, hown, hts⟩ (k_X5_notANumber l D Y   r_4 e_5) (va_cwS 0 hts gX5_map_X5_notANumber rfl rfl rfl (by decide +kernel) ⟨Nat.le_of_ble_eq_true rfl, Nat.le_of_ble_eq_true rfl⟩) (hP.sub (ws' := []) [] rfl) hK hN hZ rfl hl.1 rfl (Nat.le_of_ble_eq_true rfl) dX5_map_23 ⟨Nat.le_refl 0, Nat.le_refl 0⟩ ?_
    subst hr
    exact W.fret hx hb hrt (fun t ht hW => ⟨_, rfl, rfl, ht⟩) (fun q hq => absurd hq List.not_mem_nil) dX5_map_26
  · have hr := hr.trans (if_neg c_3)
    refine lv_aload_n hx hb dX5_map_8 rfl (lv_at hl 0 rfl) ?_
    refine va_get (D := D) (ci := 5) (v := .ref (ad 1)) (C := RX5) (T := TX5) (N := 6) hx hb hts inX5 hown hK hP 0 rfl rfl 0 (by decide) (hts (.fieldLink RX5 10 "ShiftMaps" "now" "LShiftMaps$State;") (List.mem_of_getElem? (i := 1) rfl)) (fun _ h9 => h9) rfl dX5_map_9 ?_
    refine va_getN (D := D) (ci := 4) (v := .ref (ad 2)) (C := RX4) (T := TX4) (N := 11) hx hb hts inX4 hown hK hP 1 rfl rfl 0 (by decide) (va_Nw.use rfl (NZ.n54 hN)) (fun _ h9 => h9) rfl dX5_map_12 ?_
    refine lv_iload_n hx hb dX5_map_15 rfl (lv_at hl 1 rfl) ?_
    refine lv_iload_n hx hb dX5_map_16 rfl (lv_at hl 2 rfl) ?_
    refine nmv hr (fun r_6 e_7 hr => ?_)
    refine roV_f (As := [.int x1, .int x2]) (rest := []) ⟨hx, hb, hml, hown, hts⟩ (k_X3_speed l D Y (ad 2) (ad 3) (v4_maps (v5_now V)) x1 x2 r_6 e_7) (cwV 2 hts gX5_map_X3_speed rfl rfl rfl (by decide +kernel) ⟨Nat.le_of_ble_eq_true rfl, Nat.le_of_ble_eq_true rfl⟩) (hP.sub (ws' := (mpW Y (ad 2) (ad 3) (v4_maps (v5_now V)))) [2, 3] rfl) hK hN hZ 0 3 rfl rfl rfl hl.1 rfl (Nat.le_of_ble_eq_true rfl) dX5_map_17 ⟨Nat.le_refl 0, Nat.le_refl 0⟩ ?_
    refine lv_goto (tgt := 26) hx hb dX5_map_20 (by decide) ?_
    subst hr
    exact W.fret hx hb hrt (fun t ht hW => ⟨_, rfl, rfl, ht⟩) (fun q hq => absurd hq List.not_mem_nil) dX5_map_26

set_option maxHeartbeats 4000000 in
set_option maxRecDepth 100000 in
theorem k_X5_border (l : Launch) (D : va_G) (Y : Nat → ClassId) (ad : Nat → Nat) (V : CarV) (x1 : Int32) (x2 : Int32) (x3 : Int32) (R : UInt32) (hr : some R = mf_X5_border V x1 x2 x3) : Met l yX5_border wsX5_border ({ frames := 3, cells := 0, slots := 0, locals := 68 } : Room) (va_Pc [.ref (ad 0), .int x1, .int x2, .int x3] (PR D Y (carW Y ad V))) (vp_Sf (fun x => x = R)) 0 0 (fun _ => False) := by
  refine Met.ofW (cc := cX5_border) (maxL := 5) (ret := (some .float)) (by decide) rfl ?_
  intro p e s m args below meth c s₁ B hml hv
  obtain ⟨rfl, hP, hK, hN, hZ⟩ := hv
  have hx := B.exec
  have hb := B.bytes
  have hrt := B.returns
  have hts := atoms_spec (ws := wsX5_border) B.pre
  have hown : s.vm.findClass RX5 = some m.cls := findClass_of_methodNamed B.named
  have hlocks := B.notSynchronized
  have inX4 : ∀ w ∈ u_ws RX4 TX4 11, w ∈ wsX5_border := uin_at 41 rfl
  have inX5 : ∀ w ∈ u_ws RX5 TX5 6, w ∈ wsX5_border := uin_at 35 rfl
  have hS : va_S (fun _ => False) s.heap s.heap [] := va_S.rf
  have hl := lv_entry ([.ref (ad 0), .int x1, .int x2, .int x3]) (n := 5) (Nat.le_of_ble_eq_true rfl)
  rw [lg_entry_eq]
  generalize (lg_sl ([.ref (ad 0), .int x1, .int x2, .int x3]) ++ List.replicate (5 - (lg_sl ([.ref (ad 0), .int x1, .int x2, .int x3])).length) Slot.unset).toArray = ls at hl ⊢
  have hl : lv_has ls 5 [(0, .ref (ad 0)), (1, .int x1), (2, .int x2), (3, .int x3)] := hl
  have B15 : ∀ (ls : Array Slot), some R = mf_X5_border_B15 V → lv_has ls 5 [] → W p l e ({ frames := 3, cells := 0, slots := 0, locals := 68 } : Room) s m ([.ref (ad 0), .int x1, .int x2, .int x3] : List Value).toArray below meth c s.heap [] 0 0 (MQ below (vp_Sf (fun x => x = R)) ([.ref (ad 0), .int x1, .int x2, .int x3] : List Value).toArray s 0 0 (fun _ => False)) (F0 m 15 ls []) := by
    intro ls hr hl
    rw [mf_X5_border_B15] at hr
    refine nmv hr (fun r_4 e_5 hr => ?_)
    refine roS_f (As := []) (rest := []) ⟨hx, hb, hml, hown, hts⟩ (k_X5_notANumber l D Y   r_4 e_5) (va_cwS 0 hts gX5_border_X5_notANumber rfl rfl rfl (by decide +kernel) ⟨Nat.le_of_ble_eq_true rfl, Nat.le_of_ble_eq_true rfl⟩) (hP.sub (ws' := []) [] rfl) hK hN hZ rfl hl.1 rfl (Nat.le_of_ble_eq_true rfl) dX5_border_15 ⟨Nat.le_refl 0, Nat.le_refl 0⟩ ?_
    have hr := Option.some.inj hr
    subst hr
    exact W.fret hx hb hrt (fun t ht hW => ⟨_, rfl, rfl, ht⟩) (fun q hq => absurd hq List.not_mem_nil) dX5_border_18
  rw [mf_X5_border] at hr
  refine lv_iload_n hx hb dX5_border_0 rfl (lv_at hl 1 rfl) ?_
  refine lv_iconst (v := (0 : Int32)) hx hb dX5_border_1 (by decide) ?_
  refine nmv hr (fun r_1 e_2 hr => ?_)
  refine roS_i (As := [.int x1, .int (0 : Int32)]) (rest := []) ⟨hx, hb, hml, hown, hts⟩ (k_X3_has l D Y  x1 (0 : Int32) r_1 e_2) (va_cwS 2 hts gX5_border_X3_has rfl rfl rfl (by decide +kernel) ⟨Nat.le_of_ble_eq_true rfl, Nat.le_of_ble_eq_true rfl⟩) (hP.sub (ws' := []) [] rfl) hK hN hZ rfl hl.1 rfl (Nat.le_of_ble_eq_true rfl) dX5_border_2 ⟨Nat.le_refl 0, Nat.le_refl 0⟩ ?_
  refine lv_if_eq (tgt := 15) hx hb dX5_border_5 (by decide) (fun c_3 => ?_) (fun c_3 => ?_)
  · have hr := hr.trans (if_pos c_3)
    exact B15  _ hr (lv_sub hl [] rfl)
  · have hr := hr.trans (if_neg c_3)
    refine lv_iload_n hx hb dX5_border_8 rfl (lv_at hl 2 rfl) ?_
    refine nmv hr (fun r_6 e_7 hr => ?_)
    refine roS_i (As := [.int x2]) (rest := []) ⟨hx, hb, hml, hown, hts⟩ (k_X5_isPedal l D Y  x2 r_6 e_7) (va_cwS 1 hts gX5_border_X5_isPedal rfl rfl rfl (by decide +kernel) ⟨Nat.le_of_ble_eq_true rfl, Nat.le_of_ble_eq_true rfl⟩) (hP.sub (ws' := []) [] rfl) hK hN hZ rfl hl.1 rfl (Nat.le_of_ble_eq_true rfl) dX5_border_9 ⟨Nat.le_refl 0, Nat.le_refl 0⟩ ?_
    refine lv_if_ne (tgt := 19) hx hb dX5_border_12 (by decide) (fun c_8 => ?_) (fun c_8 => ?_)
    · have hr := hr.trans (if_neg c_8)
      refine lv_iload_n hx hb dX5_border_19 rfl (lv_at hl 2 rfl) ?_
      refine bdv hr (fun r_9 e_10 hr => ?_)
      refine roS_f (As := [.int x2]) (rest := []) ⟨hx, hb, hml, hown, hts⟩ (k_X5_floatOf l D Y  x2 r_9 e_10) (va_cwS 1 hts gX5_border_X5_floatOf rfl rfl rfl (by decide +kernel) ⟨Nat.le_of_ble_eq_true rfl, Nat.le_of_ble_eq_true rfl⟩) (hP.sub (ws' := []) [] rfl) hK hN hZ rfl hl.1 rfl (Nat.le_of_ble_eq_true rfl) dX5_border_20 ⟨Nat.le_refl 0, Nat.le_refl 0⟩ ?_
      refine lv_fstore (lv' := [(4, .float r_9), (0, .ref (ad 0)), (1, .int x1), (2, .int x2), (3, .int x3)]) hx hb dX5_border_23 hl (by decide) rfl (fun ls hl => ?_)
      refine lv_iload_n hx hb dX5_border_25 rfl (lv_at hl 4 rfl) ?_
      refine lv_if_eq (tgt := 45) hx hb dX5_border_26 (by decide) (fun c_11 => ?_) (fun c_11 => ?_)
      · have hr := hr.trans (if_pos c_11)
        refine lv_aload_n hx hb dX5_border_45 rfl (lv_at hl 1 rfl) ?_
        refine va_get (D := D) (ci := 5) (v := .ref (ad 1)) (C := RX5) (T := TX5) (N := 6) hx hb hts inX5 hown hK hP 0 rfl rfl 0 (by decide) (hts (.fieldLink RX5 10 "ShiftMaps" "now" "LShiftMaps$State;") (List.mem_of_getElem? (i := 1) rfl)) (fun _ h9 => h9) rfl dX5_border_46 ?_
        refine va_getN (D := D) (ci := 4) (v := .ref (ad 2)) (C := RX4) (T := TX4) (N := 11) hx hb hts inX4 hown hK hP 1 rfl rfl 0 (by decide) (va_Nw.use rfl (NZ.n54 hN)) (fun _ h9 => h9) rfl dX5_border_49 ?_
        refine lv_iload_n hx hb dX5_border_52 rfl (lv_at hl 2 rfl) ?_
        refine lv_fload hx hb dX5_border_53 (lv_at hl 0 rfl) ?_
        refine bdv hr (fun r_12 e_13 hr => ?_)
        refine roV_f (As := [.int x1, .float r_9]) (rest := []) ⟨hx, hb, hml, hown, hts⟩ (k_X3_downTo l D Y (ad 2) (ad 3) (v4_maps (v5_now V)) x1 r_9 r_12 e_13) (cwV 2 hts gX5_border_X3_downTo rfl rfl rfl (by decide +kernel) ⟨Nat.le_of_ble_eq_true rfl, Nat.le_of_ble_eq_true rfl⟩) (hP.sub (ws' := (mpW Y (ad 2) (ad 3) (v4_maps (v5_now V)))) [2, 3] rfl) hK hN hZ 0 3 rfl rfl rfl hl.1 rfl (Nat.le_of_ble_eq_true rfl) dX5_border_55 ⟨Nat.le_refl 0, Nat.le_refl 0⟩ ?_
        have hr := Option.some.inj hr
        subst hr
        exact W.fret hx hb hrt (fun t ht hW => ⟨_, rfl, rfl, ht⟩) (fun q hq => absurd hq List.not_mem_nil) dX5_border_58
      · have hr := hr.trans (if_neg c_11)
        refine lv_aload_n hx hb dX5_border_29 rfl (lv_at hl 1 rfl) ?_
        refine va_get (D := D) (ci := 5) (v := .ref (ad 1)) (C := RX5) (T := TX5) (N := 6) hx hb hts inX5 hown hK hP 0 rfl rfl 0 (by decide) (hts (.fieldLink RX5 10 "ShiftMaps" "now" "LShiftMaps$State;") (List.mem_of_getElem? (i := 1) rfl)) (fun _ h9 => h9) rfl dX5_border_30 ?_
        refine va_getN (D := D) (ci := 4) (v := .ref (ad 2)) (C := RX4) (T := TX4) (N := 11) hx hb hts inX4 hown hK hP 1 rfl rfl 0 (by decide) (va_Nw.use rfl (NZ.n54 hN)) (fun _ h9 => h9) rfl dX5_border_33 ?_
        refine lv_iload_n hx hb dX5_border_36 rfl (lv_at hl 2 rfl) ?_
        refine lv_fload hx hb dX5_border_37 (lv_at hl 0 rfl) ?_
        refine bdv hr (fun r_14 e_15 hr => ?_)
        refine roV_f (As := [.int x1, .float r_9]) (rest := []) ⟨hx, hb, hml, hown, hts⟩ (k_X3_upFrom l D Y (ad 2) (ad 3) (v4_maps (v5_now V)) x1 r_9 r_14 e_15) (cwV 2 hts gX5_border_X3_upFrom rfl rfl rfl (by decide +kernel) ⟨Nat.le_of_ble_eq_true rfl, Nat.le_of_ble_eq_true rfl⟩) (hP.sub (ws' := (mpW Y (ad 2) (ad 3) (v4_maps (v5_now V)))) [2, 3] rfl) hK hN hZ 0 3 rfl rfl rfl hl.1 rfl (Nat.le_of_ble_eq_true rfl) dX5_border_39 ⟨Nat.le_refl 0, Nat.le_refl 0⟩ ?_
        refine lv_goto (tgt := 58) hx hb dX5_border_42 (by decide) ?_
        have hr := Option.some.inj hr
        subst hr
        exact W.fret hx hb hrt (fun t ht hW => ⟨_, rfl, rfl, ht⟩) (fun q hq => absurd hq List.not_mem_nil) dX5_border_58
    · have hr := hr.trans (if_pos c_8)
      exact B15  _ hr (lv_sub hl [] rfl)

set_option maxHeartbeats 4000000 in
set_option maxRecDepth 100000 in
theorem k_X5_number (l : Launch) (D : va_G) (Y : Nat → ClassId) (ad : Nat → Nat) (V : CarV) (x1 : Int32) (R : Int32) (hr : R = mf_X5_number V x1) : Met l yX5_number wsX5_number ({ frames := 1, cells := 0, slots := 0, locals := 21 } : Room) (va_Pc [.ref (ad 0), .int x1] (PR D Y (carW Y ad V))) (vp_Si (fun x => x = R)) 0 0 (fun _ => False) := by
  refine Met.ofW (cc := cX5_number) (maxL := 2) (ret := (some .int)) (by decide) rfl ?_
  intro p e s m args below meth c s₁ B hml hv
  obtain ⟨rfl, hP, hK, hN, hZ⟩ := hv
  have hx := B.exec
  have hb := B.bytes
  have hrt := B.returns
  have hts := atoms_spec (ws := wsX5_number) B.pre
  have hown : s.vm.findClass RX5 = some m.cls := findClass_of_methodNamed B.named
  have hlocks := B.notSynchronized
  have inX5 : ∀ w ∈ u_ws RX5 TX5 6, w ∈ wsX5_number := uin_at 8 rfl
  have hS : va_S (fun _ => False) s.heap s.heap [] := va_S.rf
  have hl := lv_entry ([.ref (ad 0), .int x1]) (n := 2) (Nat.le_of_ble_eq_true rfl)
  rw [lg_entry_eq]
  generalize (lg_sl ([.ref (ad 0), .int x1]) ++ List.replicate (2 - (lg_sl ([.ref (ad 0), .int x1])).length) Slot.unset).toArray = ls at hl ⊢
  have hl : lv_has ls 2 [(0, .ref (ad 0)), (1, .int x1)] := hl
  rw [mf_X5_number] at hr
  refine lv_aload_n hx hb dX5_number_0 rfl (lv_at hl 0 rfl) ?_
  refine va_get (D := D) (ci := 5) (v := .ref (ad 1)) (C := RX5) (T := TX5) (N := 6) hx hb hts inX5 hown hK hP 0 rfl rfl 0 (by decide) (hts (.fieldLink RX5 10 "ShiftMaps" "now" "LShiftMaps$State;") (List.mem_of_getElem? (i := 1) rfl)) (fun _ h9 => h9) rfl dX5_number_1 ?_
  refine lv_iload_n hx hb dX5_number_4 rfl (lv_at hl 1 rfl) ?_
  refine nmv hr (fun r_1 e_2 hr => ?_)
  refine roV_i (As := [.int x1]) (rest := []) ⟨hx, hb, hml, hown, hts⟩ (k_X4_setting l D Y (ad 1) (ad 2) (ad 3) (ad 4) (ad 5) (ad 6) (ad 7) (v5_now V) x1 r_1 e_2) (cwV 1 hts gX5_number_X4_setting rfl rfl rfl (by decide +kernel) ⟨Nat.le_of_ble_eq_true rfl, Nat.le_of_ble_eq_true rfl⟩) (hP.sub (ws' := (stW Y (ad 1) (ad 2) (ad 3) (ad 4) (ad 5) (ad 6) (ad 7) (v5_now V))) [1, 2, 3, 4, 5, 6, 7] rfl) hK hN hZ 0 4 rfl rfl rfl hl.1 rfl (Nat.le_of_ble_eq_true rfl) dX5_number_5 ⟨Nat.le_refl 0, Nat.le_refl 0⟩ ?_
  subst hr
  exact W.iret hx hb hrt (fun t ht hW => ⟨_, rfl, rfl, ht⟩) (fun q hq => absurd hq List.not_mem_nil) dX5_number_8

set_option maxHeartbeats 4000000 in
set_option maxRecDepth 100000 in
theorem k_X5_change (l : Launch) (D : va_G) (Y : Nat → ClassId) (ad : Nat → Nat) (V : CarV) (x1 : Int32) (x2 : Int32) (R : Int32) (hr : R = mf_X5_change V x1 x2) : Met l yX5_change wsX5_change ({ frames := 1, cells := 0, slots := 0, locals := 24 } : Room) (va_Pc [.ref (ad 0), .int x1, .int x2] (PR D Y (carW Y ad V))) (vp_Si (fun x => x = R)) 0 0 (fun _ => False) := by
  refine Met.ofW (cc := cX5_change) (maxL := 3) (ret := (some .int)) (by decide) rfl ?_
  intro p e s m args below meth c s₁ B hml hv
  obtain ⟨rfl, hP, hK, hN, hZ⟩ := hv
  have hx := B.exec
  have hb := B.bytes
  have hrt := B.returns
  have hts := atoms_spec (ws := wsX5_change) B.pre
  have hown : s.vm.findClass RX5 = some m.cls := findClass_of_methodNamed B.named
  have hlocks := B.notSynchronized
  have inX4 : ∀ w ∈ u_ws RX4 TX4 11, w ∈ wsX5_change := uin_at 16 rfl
  have inX5 : ∀ w ∈ u_ws RX5 TX5 6, w ∈ wsX5_change := uin_at 10 rfl
  have hS : va_S (fun _ => False) s.heap s.heap [] := va_S.rf
  have hl := lv_entry ([.ref (ad 0), .int x1, .int x2]) (n := 3) (Nat.le_of_ble_eq_true rfl)
  rw [lg_entry_eq]
  generalize (lg_sl ([.ref (ad 0), .int x1, .int x2]) ++ List.replicate (3 - (lg_sl ([.ref (ad 0), .int x1, .int x2])).length) Slot.unset).toArray = ls at hl ⊢
  have hl : lv_has ls 3 [(0, .ref (ad 0)), (1, .int x1), (2, .int x2)] := hl
  have B13 : ∀ (ls : Array Slot), R = mf_X5_change_B13 V → lv_has ls 3 [] → W p l e ({ frames := 1, cells := 0, slots := 0, locals := 24 } : Room) s m ([.ref (ad 0), .int x1, .int x2] : List Value).toArray below meth c s.heap [] 0 0 (MQ below (vp_Si (fun x => x = R)) ([.ref (ad 0), .int x1, .int x2] : List Value).toArray s 0 0 (fun _ => False)) (F0 m 13 ls []) := by
    intro ls hr hl
    rw [mf_X5_change_B13] at hr
    refine lv_bipush (v := (-2 : Int32)) hx hb dX5_change_13 (by decide) ?_
    refine lv_goto (tgt := 30) hx hb dX5_change_15 (by decide) ?_
    subst hr
    exact W.iret hx hb hrt (fun t ht hW => ⟨_, rfl, rfl, ht⟩) (fun q hq => absurd hq List.not_mem_nil) dX5_change_30
  rw [mf_X5_change] at hr
  refine lv_iload_n hx hb dX5_change_0 rfl (lv_at hl 1 rfl) ?_
  refine lv_if_lt (tgt := 13) hx hb dX5_change_1 (by decide) (fun c_1 => ?_) (fun c_1 => ?_)
  · have hr := hr.trans (if_pos c_1)
    exact B13  _ hr (lv_sub hl [] rfl)
  · have hr := hr.trans (if_neg c_1)
    refine lv_iload_n hx hb dX5_change_4 rfl (lv_at hl 2 rfl) ?_
    refine lv_if_lt (tgt := 13) hx hb dX5_change_5 (by decide) (fun c_2 => ?_) (fun c_2 => ?_)
    · have hr := hr.trans (if_pos c_2)
      exact B13  _ hr (lv_sub hl [] rfl)
    · have hr := hr.trans (if_neg c_2)
      refine lv_iload_n hx hb dX5_change_8 rfl (lv_at hl 2 rfl) ?_
      refine lv_iconst (v := (5 : Int32)) hx hb dX5_change_9 (by decide) ?_
      refine lv_icmp_lt (tgt := 18) hx hb dX5_change_10 (by decide) (fun c_3 => ?_) (fun c_3 => ?_)
      · have hr := hr.trans (if_pos c_3)
        refine lv_aload_n hx hb dX5_change_18 rfl (lv_at hl 0 rfl) ?_
        refine va_get (D := D) (ci := 5) (v := .ref (ad 1)) (C := RX5) (T := TX5) (N := 6) hx hb hts inX5 hown hK hP 0 rfl rfl 0 (by decide) (hts (.fieldLink RX5 10 "ShiftMaps" "now" "LShiftMaps$State;") (List.mem_of_getElem? (i := 1) rfl)) (fun _ h9 => h9) rfl dX5_change_19 ?_
        refine va_getN (D := D) (ci := 4) (v := .ref (ad 4)) (C := RX4) (T := TX4) (N := 11) hx hb hts inX4 hown hK hP 1 rfl rfl 1 (by decide) (va_Nw.use rfl (NZ.n187 hN)) (fun _ h9 => h9) rfl dX5_change_22 ?_
        refine lv_iload_n hx hb dX5_change_25 rfl (lv_at hl 1 rfl) ?_
        refine lv_iload_n hx hb dX5_change_26 rfl (lv_at hl 2 rfl) ?_
        refine nmv hr (fun r_4 e_5 hr => ?_)
        refine roV_i (As := [.int x1, .int x2]) (rest := []) ⟨hx, hb, hml, hown, hts⟩ (k_X2_told l D Y (ad 4) (ad 5) (v4_log (v5_now V)) x1 x2 r_4 e_5) (cwV 2 hts gX5_change_X2_told rfl rfl rfl (by decide +kernel) ⟨Nat.le_of_ble_eq_true rfl, Nat.le_of_ble_eq_true rfl⟩) (hP.sub (ws' := (lgW Y (ad 4) (ad 5) (v4_log (v5_now V)))) [4, 5] rfl) hK hN hZ 0 2 rfl rfl rfl hl.1 rfl (Nat.le_of_ble_eq_true rfl) dX5_change_27 ⟨Nat.le_refl 0, Nat.le_refl 0⟩ ?_
        subst hr
        exact W.iret hx hb hrt (fun t ht hW => ⟨_, rfl, rfl, ht⟩) (fun q hq => absurd hq List.not_mem_nil) dX5_change_30
      · have hr := hr.trans (if_neg c_3)
        exact B13  _ hr (lv_sub hl [] rfl)

set_option maxHeartbeats 4000000 in
set_option maxRecDepth 100000 in
theorem k_X5_count (l : Launch) (D : va_G) (Y : Nat → ClassId) (ad : Nat → Nat) (V : CarV) (x1 : Int32) (R : Int32) (hr : R = mf_X5_count V x1) : Met l yX5_count wsX5_count ({ frames := 1, cells := 0, slots := 0, locals := 21 } : Room) (va_Pc [.ref (ad 0), .int x1] (PR D Y (carW Y ad V))) (vp_Si (fun x => x = R)) 0 0 (fun _ => False) := by
  refine Met.ofW (cc := cX5_count) (maxL := 2) (ret := (some .int)) (by decide) rfl ?_
  intro p e s m args below meth c s₁ B hml hv
  obtain ⟨rfl, hP, hK, hN, hZ⟩ := hv
  have hx := B.exec
  have hb := B.bytes
  have hrt := B.returns
  have hts := atoms_spec (ws := wsX5_count) B.pre
  have hown : s.vm.findClass RX5 = some m.cls := findClass_of_methodNamed B.named
  have hlocks := B.notSynchronized
  have inX5 : ∀ w ∈ u_ws RX5 TX5 6, w ∈ wsX5_count := uin_at 22 rfl
  have hS : va_S (fun _ => False) s.heap s.heap [] := va_S.rf
  have hl := lv_entry ([.ref (ad 0), .int x1]) (n := 2) (Nat.le_of_ble_eq_true rfl)
  rw [lg_entry_eq]
  generalize (lg_sl ([.ref (ad 0), .int x1]) ++ List.replicate (2 - (lg_sl ([.ref (ad 0), .int x1])).length) Slot.unset).toArray = ls at hl ⊢
  have hl : lv_has ls 2 [(0, .ref (ad 0)), (1, .int x1)] := hl
  rw [mf_X5_count] at hr
  refine lv_iload_n hx hb dX5_count_0 rfl (lv_at hl 1 rfl) ?_
  refine lv_bipush (v := (13 : Int32)) hx hb dX5_count_1 (by decide) ?_
  refine lv_icmp_ne (tgt := 14) hx hb dX5_count_3 (by decide) (fun c_1 => ?_) (fun c_1 => ?_)
  · have hr := hr.trans (if_neg c_1)
    refine lv_iload_n hx hb dX5_count_14 rfl (lv_at hl 1 rfl) ?_
    refine lv_bipush (v := (14 : Int32)) hx hb dX5_count_15 (by decide) ?_
    refine lv_icmp_ne (tgt := 28) hx hb dX5_count_17 (by decide) (fun c_2 => ?_) (fun c_2 => ?_)
    · have hr := hr.trans (if_neg c_2)
      refine lv_aload_n hx hb dX5_count_28 rfl (lv_at hl 0 rfl) ?_
      refine va_get (D := D) (ci := 5) (v := .ref (ad 1)) (C := RX5) (T := TX5) (N := 6) hx hb hts inX5 hown hK hP 0 rfl rfl 0 (by decide) (hts (.fieldLink RX5 10 "ShiftMaps" "now" "LShiftMaps$State;") (List.mem_of_getElem? (i := 3) rfl)) (fun _ h9 => h9) rfl dX5_count_29 ?_
      refine lv_iload_n hx hb dX5_count_32 rfl (lv_at hl 1 rfl) ?_
      refine nmv hr (fun r_3 e_4 hr => ?_)
      refine roV_i (As := [.int x1]) (rest := []) ⟨hx, hb, hml, hown, hts⟩ (k_X4_counted l D Y (ad 1) (ad 2) (ad 3) (ad 4) (ad 5) (ad 6) (ad 7) (v5_now V) x1 r_3 e_4) (cwV 1 hts gX5_count_X4_counted rfl rfl rfl (by decide +kernel) ⟨Nat.le_of_ble_eq_true rfl, Nat.le_of_ble_eq_true rfl⟩) (hP.sub (ws' := (stW Y (ad 1) (ad 2) (ad 3) (ad 4) (ad 5) (ad 6) (ad 7) (v5_now V))) [1, 2, 3, 4, 5, 6, 7] rfl) hK hN hZ 0 4 rfl rfl rfl hl.1 rfl (Nat.le_of_ble_eq_true rfl) dX5_count_33 ⟨Nat.le_refl 0, Nat.le_refl 0⟩ ?_
      subst hr
      exact W.iret hx hb hrt (fun t ht hW => ⟨_, rfl, rfl, ht⟩) (fun q hq => absurd hq List.not_mem_nil) dX5_count_36
    · have hr := hr.trans (if_pos c_2)
      refine lv_aload_n hx hb dX5_count_20 rfl (lv_at hl 0 rfl) ?_
      refine va_get (D := D) (ci := 5) (v := .ref (ad 52)) (C := RX5) (T := TX5) (N := 6) hx hb hts inX5 hown hK hP 0 rfl rfl 4 (by decide) (hts (.fieldLink RX5 32 "ShiftMaps" "text" "LShiftMaps$DriveText;") (List.mem_of_getElem? (i := 2) rfl)) (fun _ h9 => h9) rfl dX5_count_21 ?_
      refine nmv hr (fun r_5 e_6 hr => ?_)
      refine roV_i (As := []) (rest := []) ⟨hx, hb, hml, hown, hts⟩ (k_X0_length l D Y (ad 52) (ad 53) (ad 54) (v5_text V) r_5 e_6) (cwV 0 hts gX5_count_X0_length rfl rfl rfl (by decide +kernel) ⟨Nat.le_of_ble_eq_true rfl, Nat.le_of_ble_eq_true rfl⟩) (hP.sub (ws' := (txW Y (ad 52) (ad 53) (ad 54) (v5_text V))) [52, 53, 54] rfl) hK hN hZ 0 0 rfl rfl rfl hl.1 rfl (Nat.le_of_ble_eq_true rfl) dX5_count_24 ⟨Nat.le_refl 0, Nat.le_refl 0⟩ ?_
      subst hr
      exact W.iret hx hb hrt (fun t ht hW => ⟨_, rfl, rfl, ht⟩) (fun q hq => absurd hq List.not_mem_nil) dX5_count_27
  · have hr := hr.trans (if_pos c_1)
    refine lv_aload_n hx hb dX5_count_6 rfl (lv_at hl 0 rfl) ?_
    refine va_get (D := D) (ci := 5) (v := .ref (ad 22)) (C := RX5) (T := TX5) (N := 6) hx hb hts inX5 hown hK hP 0 rfl rfl 3 (by decide) (hts (.fieldLink RX5 25 "ShiftMaps" "history" "LShiftMaps$History;") (List.mem_of_getElem? (i := 1) rfl)) (fun _ h9 => h9) rfl dX5_count_7 ?_
    refine nmv hr (fun r_7 e_8 hr => ?_)
    refine roV_i (As := []) (rest := []) ⟨hx, hb, hml, hown, hts⟩ (k_X1_size l D Y ad (v5_history V) r_7 e_8) (cwV 0 hts gX5_count_X1_size rfl rfl rfl (by decide +kernel) ⟨Nat.le_of_ble_eq_true rfl, Nat.le_of_ble_eq_true rfl⟩) (hP.sub (ws' := (hiW Y ad (v5_history V))) [22, 23, 24, 25, 26, 27, 28, 29, 30, 31, 32, 33, 34, 35, 36, 37, 38, 39, 40, 41, 42, 43, 44, 45, 46, 47, 48, 49, 50, 51] rfl) hK hN hZ 0 1 rfl rfl rfl hl.1 rfl (Nat.le_of_ble_eq_true rfl) dX5_count_10 ⟨Nat.le_refl 0, Nat.le_refl 0⟩ ?_
    subst hr
    exact W.iret hx hb hrt (fun t ht hW => ⟨_, rfl, rfl, ht⟩) (fun q hq => absurd hq List.not_mem_nil) dX5_count_13
