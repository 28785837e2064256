set_option maxHeartbeats 4000000 in
set_option maxRecDepth 100000 in
theorem k_X0_append (l : Launch) (D : va_G) (Y : Nat → ClassId) (a0 a1 a2 : Nat) (V : TxV) (x1 : Int32) (R : Int32 × TxV) (hr : R = mf_X0_append V x1) : Met l yX0_append wsX0_append ({ frames := 0, cells := 0, slots := 0, locals := 0 } : Room) (va_Pc [.ref a0, .int x1] (PW D Y (txW Y a0 a1 a2 V))) (va_Qi (S := Unit) (fun r _ => r = R.1) (fun _ t => va_P D vwCl (txW Y a0 a1 a2 R.2) t.heap) (wA (txW Y a0 a1 a2 V))) 0 0 (wA (txW Y a0 a1 a2 V)) := by
  refine Met.ofW (cc := cX0_append) (maxL := 2) (ret := (some .boolean)) (by decide) rfl ?_
  intro p e s m args below meth c s₁ B hml hv
  obtain ⟨rfl, hP, hK, hN, hZ, hD⟩ := hv
  have hx := B.exec
  have hb := B.bytes
  have hrt := B.returns
  have hts := atoms_spec (ws := wsX0_append) B.pre
  have hown : s.vm.findClass RX0 = some m.cls := findClass_of_methodNamed B.named
  have hlocks := B.notSynchronized
  have inX0 : ∀ w ∈ u_ws RX0 TX0 7, w ∈ wsX0_append := uin_at 3 rfl
  generalize hAe : wA (txW Y a0 a1 a2 V) = A at hZ hD ⊢
  have hS : va_S A s.heap s.heap [] := va_S.rf
  have hl := lv_entry ([.ref a0, .int x1]) (n := 2) (Nat.le_of_ble_eq_true rfl)
  rw [lg_entry_eq]
  generalize (lg_sl ([.ref a0, .int x1]) ++ List.replicate (2 - (lg_sl ([.ref a0, .int x1])).length) Slot.unset).toArray = ls at hl ⊢
  have hl : lv_has ls 2 [(0, .ref a0), (1, .int x1)] := hl
  rw [mf_X0_append] at hr
  suffices KK : ∀ (H : Heap) (locs : List Loc), va_P D vwCl (txW Y a0 a1 a2 V) H → va_S A s.heap H locs → W p l e ({ frames := 0, cells := 0, slots := 0, locals := 0 } : Room) s m ([.ref a0, .int x1] : List Value).toArray below meth c H locs 0 0 (MQ below (va_Qi (S := Unit) (fun r _ => r = R.1) (fun _ t => va_P D vwCl (txW Y a0 a1 a2 R.2) t.heap) A) ([.ref a0, .int x1] : List Value).toArray s 0 0 A) (F0 m 0 ls []) from KK _ _ hP hS
  intro H locs hP hS
  refine lv_aload_n hx hb dX0_append_0 rfl (lv_at hl 0 rfl) ?_
  refine va_get (D := D) (ci := 0) (v := .int (v0_length V)) (C := RX0) (T := TX0) (N := 7) hx hb hts inX0 hown hK hP 0 rfl rfl 1 (by decide) (hts (.fieldLink RX0 13 "ShiftMaps$DriveText" "length" "I") (List.mem_of_getElem? (i := 1) rfl)) (fun _ h9 => h9) rfl dX0_append_1 ?_
  refine lv_if_lt (tgt := 19) hx hb dX0_append_4 (by decide) (fun c_1 => ?_) (fun c_1 => ?_)
  · have hr := hr.trans (if_pos c_1)
    refine lv_iconst (v := (0 : Int32)) hx hb dX0_append_19 (by decide) ?_
    subst hr
    exact W.zret (ty := .boolean) hx hb hrt (by decide) (fun t ht hW => ⟨⟨_, (), rfl, rfl, by show va_P D vwCl _ t.heap; rw [ht]; exact hP⟩, hS.F ht⟩) hS.2.2 dX0_append_20
  · have hr := hr.trans (if_neg c_1)
    refine lv_aload_n hx hb dX0_append_7 rfl (lv_at hl 0 rfl) ?_
    refine va_get (D := D) (ci := 0) (v := .int (v0_length V)) (C := RX0) (T := TX0) (N := 7) hx hb hts inX0 hown hK hP 0 rfl rfl 1 (by decide) (hts (.fieldLink RX0 13 "ShiftMaps$DriveText" "length" "I") (List.mem_of_getElem? (i := 1) rfl)) (fun _ h9 => h9) rfl dX0_append_8 ?_
    refine lv_aload_n hx hb dX0_append_11 rfl (lv_at hl 0 rfl) ?_
    refine va_get (D := D) (ci := 0) (v := .ref a1) (C := RX0) (T := TX0) (N := 7) hx hb hts inX0 hown hK hP 0 rfl rfl 0 (by decide) (hts (.fieldLink RX0 9 "ShiftMaps$DriveText" "characters" "[C") (List.mem_of_getElem? (i := 2) rfl)) (fun _ h9 => h9) rfl dX0_append_12 ?_
    refine va_alen (D := D) (v := (60 : Int32)) hx hb hK hP 1 0 rfl rfl rfl dX0_append_15 ?_
    refine lv_icmp_lt (tgt := 21) hx hb dX0_append_16 (by decide) (fun c_2 => ?_) (fun c_2 => ?_)
    · have hr := hr.trans (if_pos c_2)
      refine lv_aload_n hx hb dX0_append_21 rfl (lv_at hl 0 rfl) ?_
      refine va_get (D := D) (ci := 0) (v := .ref a1) (C := RX0) (T := TX0) (N := 7) hx hb hts inX0 hown hK hP 0 rfl rfl 0 (by decide) (hts (.fieldLink RX0 9 "ShiftMaps$DriveText" "characters" "[C") (List.mem_of_getElem? (i := 2) rfl)) (fun _ h9 => h9) rfl dX0_append_22 ?_
      refine lv_aload_n hx hb dX0_append_25 rfl (lv_at hl 0 rfl) ?_
      refine va_get (D := D) (ci := 0) (v := .int (v0_length V)) (C := RX0) (T := TX0) (N := 7) hx hb hts inX0 hown hK hP 0 rfl rfl 1 (by decide) (hts (.fieldLink RX0 13 "ShiftMaps$DriveText" "length" "I") (List.mem_of_getElem? (i := 1) rfl)) (fun _ h9 => h9) rfl dX0_append_26 ?_
      refine lv_iload_n hx hb dX0_append_29 rfl (lv_at hl 1 rfl) ?_
      refine va_cast (D := D) hx hb hK hP hD hS 1 0 rfl rfl (in_of2 (y := (60 : Int32)) rfl (by decide) c_1 c_2) dX0_append_30 (fun H locs hP hD hS => ?_)
      refine nmv hr (fun V_3 e_4 hr => ?_)
      have hP : va_P D vwCl (txW Y a0 a1 a2 V_3) H := by rw [e_4]; exact hP
      have hD : va_D A (txW Y a0 a1 a2 V_3) := va_D_adr hD rfl
      refine lv_aload_n hx hb dX0_append_31 rfl (lv_at hl 0 rfl) ?_
      refine lv_dup hx hb dX0_append_32 rfl ?_
      refine va_get (D := D) (ci := 0) (v := .int (v0_length V_3)) (C := RX0) (T := TX0) (N := 7) hx hb hts inX0 hown hK hP 0 rfl rfl 1 (by decide) (hts (.fieldLink RX0 13 "ShiftMaps$DriveText" "length" "I") (List.mem_of_getElem? (i := 1) rfl)) (fun _ h9 => h9) rfl dX0_append_33 ?_
      refine lv_iconst (v := (1 : Int32)) hx hb dX0_append_36 (by decide) ?_
      refine lv_iadd hx hb dX0_append_37 ?_
      refine va_put (D := D) (ci := 0) (v := .int ((v0_length V_3) + (1 : Int32))) (ty := .int) (C := RX0) (T := TX0) (N := 7) hx hb hts inX0 tyX0 tyX0_ok nmX0 hown hK hP hD hS 0 rfl rfl 1 (by decide) (hts (.fieldLink RX0 13 "ShiftMaps$DriveText" "length" "I") (List.mem_of_getElem? (i := 1) rfl)) (fun _ h9 => h9) rfl (by decide +kernel) rfl rfl (Nat.le_of_ble_eq_true rfl) dX0_append_38 (fun H locs hP hD hS => ?_)
      refine nmv hr (fun V_7 e_8 hr => ?_)
      have hP : va_P D vwCl (txW Y a0 a1 a2 V_7) H := by rw [e_8]; exact hP
      have hD : va_D A (txW Y a0 a1 a2 V_7) := va_D_adr hD rfl
      refine lv_iconst (v := (1 : Int32)) hx hb dX0_append_41 (by decide) ?_
      subst hr
      exact W.zret (ty := .boolean) hx hb hrt (by decide) (fun t ht hW => ⟨⟨_, (), rfl, rfl, by show va_P D vwCl _ t.heap; rw [ht]; exact hP⟩, hS.F ht⟩) hS.2.2 dX0_append_42
    · have hr := hr.trans (if_neg c_2)
      refine lv_iconst (v := (0 : Int32)) hx hb dX0_append_19 (by decide) ?_
      subst hr
      exact W.zret (ty := .boolean) hx hb hrt (by decide) (fun t ht hW => ⟨⟨_, (), rfl, rfl, by show va_P D vwCl _ t.heap; rw [ht]; exact hP⟩, hS.F ht⟩) hS.2.2 dX0_append_20

set_option maxHeartbeats 4000000 in
set_option maxRecDepth 100000 in
theorem k_X0_length (l : Launch) (D : va_G) (Y : Nat → ClassId) (a0 a1 a2 : Nat) (V : TxV) (R : Int32) (hr : R = mf_X0_length V) : Met l yX0_length wsX0_length ({ frames := 0, cells := 0, slots := 0, locals := 0 } : Room) (va_Pc [.ref a0] (PR D Y (txW Y a0 a1 a2 V))) (vp_Si (fun x => x = R)) 0 0 (fun _ => False) := by
  refine Met.ofW (cc := cX0_length) (maxL := 1) (ret := (some .int)) (by decide) rfl ?_
  intro p e s m args below meth c s₁ B hml hv
  obtain ⟨rfl, hP, hK, hN, hZ⟩ := hv
  have hx := B.exec
  have hb := B.bytes
  have hrt := B.returns
  have hts := atoms_spec (ws := wsX0_length) B.pre
  have hown : s.vm.findClass RX0 = some m.cls := findClass_of_methodNamed B.named
  have hlocks := B.notSynchronized
  have inX0 : ∀ w ∈ u_ws RX0 TX0 7, w ∈ wsX0_length := uin_at 2 rfl
  have hS : va_S (fun _ => False) s.heap s.heap [] := va_S.rf
  have hl := lv_entry ([.ref a0]) (n := 1) (Nat.le_of_ble_eq_true rfl)
  rw [lg_entry_eq]
  generalize (lg_sl ([.ref a0]) ++ List.replicate (1 - (lg_sl ([.ref a0])).length) Slot.unset).toArray = ls at hl ⊢
  have hl : lv_has ls 1 [(0, .ref a0)] := hl
  rw [mf_X0_length] at hr
  refine lv_aload_n hx hb dX0_length_0 rfl (lv_at hl 0 rfl) ?_
  refine va_get (D := D) (ci := 0) (v := .int (v0_length V)) (C := RX0) (T := TX0) (N := 7) hx hb hts inX0 hown hK hP 0 rfl rfl 1 (by decide) (hts (.fieldLink RX0 13 "ShiftMaps$DriveText" "length" "I") (List.mem_of_getElem? (i := 1) rfl)) (fun _ h9 => h9) rfl dX0_length_1 ?_
  subst hr
  exact W.iret hx hb hrt (fun t ht hW => ⟨_, rfl, rfl, ht⟩) (fun q hq => absurd hq List.not_mem_nil) dX0_length_4

set_option maxHeartbeats 4000000 in
set_option maxRecDepth 100000 in
theorem k_X0_clear (l : Launch) (D : va_G) (Y : Nat → ClassId) (a0 a1 a2 : Nat) (V : TxV) (R : TxV) (hr : R = mf_X0_clear V) : Met l yX0_clear wsX0_clear ({ frames := 0, cells := 0, slots := 0, locals := 0 } : Room) (va_Pc [.ref a0] (PW D Y (txW Y a0 a1 a2 V))) (va_Qv (S := Unit) (fun _ => True) (fun _ t => va_P D vwCl (txW Y a0 a1 a2 R) t.heap) (wA (txW Y a0 a1 a2 V))) 0 0 (wA (txW Y a0 a1 a2 V)) := by
  refine Met.ofW (cc := cX0_clear) (maxL := 1) (ret := none) (by decide) rfl ?_
  intro p e s m args below meth c s₁ B hml hv
  obtain ⟨rfl, hP, hK, hN, hZ, hD⟩ := hv
  have hx := B.exec
  have hb := B.bytes
  have hrt := B.returns
  have hts := atoms_spec (ws := wsX0_clear) B.pre
  have hown : s.vm.findClass RX0 = some m.cls := findClass_of_methodNamed B.named
  have hlocks := B.notSynchronized
  have inX0 : ∀ w ∈ u_ws RX0 TX0 7, w ∈ wsX0_clear := uin_at 2 rfl
  generalize hAe : wA (txW Y a0 a1 a2 V) = A at hZ hD ⊢
  have hS : va_S A s.heap s.heap [] := va_S.rf
  have hl := lv_entry ([.ref a0]) (n := 1) (Nat.le_of_ble_eq_true rfl)
  rw [lg_entry_eq]
  generalize (lg_sl ([.ref a0]) ++ List.replicate (1 - (lg_sl ([.ref a0])).length) Slot.unset).toArray = ls at hl ⊢
  have hl : lv_has ls 1 [(0, .ref a0)] := hl
  rw [mf_X0_clear] at hr
  suffices KK : ∀ (H : Heap) (locs : List Loc), va_P D vwCl (txW Y a0 a1 a2 V) H → va_S A s.heap H locs → W p l e ({ frames := 0, cells := 0, slots := 0, locals := 0 } : Room) s m ([.ref a0] : List Value).toArray below meth c H locs 0 0 (MQ below (va_Qv (S := Unit) (fun _ => True) (fun _ t => va_P D vwCl (txW Y a0 a1 a2 R) t.heap) A) ([.ref a0] : List Value).toArray s 0 0 A) (F0 m 0 ls []) from KK _ _ hP hS
  intro H locs hP hS
  refine lv_aload_n hx hb dX0_clear_0 rfl (lv_at hl 0 rfl) ?_
  refine lv_iconst (v := (0 : Int32)) hx hb dX0_clear_1 (by decide) ?_
  refine va_put (D := D) (ci := 0) (v := .int (0 : Int32)) (ty := .int) (C := RX0) (T := TX0) (N := 7) hx hb hts inX0 tyX0 tyX0_ok nmX0 hown hK hP hD hS 0 rfl rfl 1 (by decide) (hts (.fieldLink RX0 13 "ShiftMaps$DriveText" "length" "I") (List.mem_of_getElem? (i := 1) rfl)) (fun _ h9 => h9) rfl (by decide +kernel) rfl rfl (Nat.le_of_ble_eq_true rfl) dX0_clear_2 (fun H locs hP hD hS => ?_)
  refine nmv hr (fun V_3 e_4 hr => ?_)
  have hP : va_P D vwCl (txW Y a0 a1 a2 V_3) H := by rw [e_4]; exact hP
  have hD : va_D A (txW Y a0 a1 a2 V_3) := va_D_adr hD rfl
  subst hr
  exact W.vret hx hb hrt (fun t ht hW => ⟨⟨(), rfl, trivial, by show va_P D vwCl _ t.heap; rw [ht]; exact hP⟩, hS.F ht⟩) hS.2.2 dX0_clear_5

set_option maxHeartbeats 4000000 in
set_option maxRecDepth 100000 in
theorem k_X0_partCount (l : Launch) (D : va_G) (Y : Nat → ClassId) (a0 a1 a2 : Nat) (V : TxV) (R : Int32) (hr : R = mf_X0_partCount V) : Met l yX0_partCount wsX0_partCount ({ frames := 0, cells := 0, slots := 0, locals := 0 } : Room) (va_Pc [.ref a0] (PR D Y (txW Y a0 a1 a2 V))) (vp_Si (fun x => x = R)) 0 0 (fun _ => False) := by
  refine Met.ofW (cc := cX0_partCount) (maxL := 1) (ret := (some .int)) (by decide) rfl ?_
  intro p e s m args below meth c s₁ B hml hv
  obtain ⟨rfl, hP, hK, hN, hZ⟩ := hv
  have hx := B.exec
  have hb := B.bytes
  have hrt := B.returns
  have hts := atoms_spec (ws := wsX0_partCount) B.pre
  have hown : s.vm.findClass RX0 = some m.cls := findClass_of_methodNamed B.named
  have hlocks := B.notSynchronized
  have inX0 : ∀ w ∈ u_ws RX0 TX0 7, w ∈ wsX0_partCount := uin_at 2 rfl
  have hS : va_S (fun _ => False) s.heap s.heap [] := va_S.rf
  have hl := lv_entry ([.ref a0]) (n := 1) (Nat.le_of_ble_eq_true rfl)
  rw [lg_entry_eq]
  generalize (lg_sl ([.ref a0]) ++ List.replicate (1 - (lg_sl ([.ref a0])).length) Slot.unset).toArray = ls at hl ⊢
  have hl : lv_has ls 1 [(0, .ref a0)] := hl
  rw [mf_X0_partCount] at hr
  refine lv_aload_n hx hb dX0_partCount_0 rfl (lv_at hl 0 rfl) ?_
  refine va_get (D := D) (ci := 0) (v := .int (v0_parts V)) (C := RX0) (T := TX0) (N := 7) hx hb hts inX0 hown hK hP 0 rfl rfl 3 (by decide) (hts (.fieldLink RX0 21 "ShiftMaps$DriveText" "parts" "I") (List.mem_of_getElem? (i := 1) rfl)) (fun _ h9 => h9) rfl dX0_partCount_1 ?_
  subst hr
  exact W.iret hx hb hrt (fun t ht hW => ⟨_, rfl, rfl, ht⟩) (fun q hq => absurd hq List.not_mem_nil) dX0_partCount_4

set_option maxHeartbeats 4000000 in
set_option maxRecDepth 100000 in
theorem k_X0_numberOf (l : Launch) (D : va_G) (Y : Nat → ClassId) (a0 a1 a2 : Nat) (V : TxV) (x1 : Int32) (x2 : Int32) (R : Int32) (hr : R = mf_X0_numberOf V x1 x2) : Met l yX0_numberOf wsX0_numberOf ({ frames := 0, cells := 0, slots := 0, locals := 0 } : Room) (va_Pc [.ref a0, .int x1, .int x2] (PR D Y (txW Y a0 a1 a2 V))) (vp_Si (fun x => x = R)) 0 0 (fun _ => False) := by
  refine Met.ofW (cc := cX0_numberOf) (maxL := 4) (ret := (some .int)) (by decide) rfl ?_
  intro p e s m args below meth c s₁ B hml hv
  obtain ⟨rfl, hP, hK, hN, hZ⟩ := hv
  have hx := B.exec
  have hb := B.bytes
  have hrt := B.returns
  have hts := atoms_spec (ws := wsX0_numberOf) B.pre
  have hown : s.vm.findClass RX0 = some m.cls := findClass_of_methodNamed B.named
  have hlocks := B.notSynchronized
  have inX0 : ∀ w ∈ u_ws RX0 TX0 7, w ∈ wsX0_numberOf := uin_at 2 rfl
  have hS : va_S (fun _ => False) s.heap s.heap [] := va_S.rf
  have hl := lv_entry ([.ref a0, .int x1, .int x2]) (n := 4) (Nat.le_of_ble_eq_true rfl)
  rw [lg_entry_eq]
  generalize (lg_sl ([.ref a0, .int x1, .int x2]) ++ List.replicate (4 - (lg_sl ([.ref a0, .int x1, .int x2])).length) Slot.unset).toArray = ls at hl ⊢
  have hl : lv_has ls 4 [(0, .ref a0), (1, .int x1), (2, .int x2)] := hl
  rw [mf_X0_numberOf] at hr
  refine lv_iload_n hx hb dX0_numberOf_0 rfl (lv_at hl 1 rfl) ?_
  refine lv_iconst (v := (3 : Int32)) hx hb dX0_numberOf_1 (by decide) ?_
  refine lv_imul hx hb dX0_numberOf_2 ?_
  refine lv_iload_n hx hb dX0_numberOf_3 rfl (lv_at hl 2 rfl) ?_
  refine lv_iadd hx hb dX0_numberOf_4 ?_
  refine lv_istore_n (lv' := [(3, .int ((x1 * (3 : Int32)) + x2)), (0, .ref a0), (1, .int x1), (2, .int x2)]) hx hb dX0_numberOf_5 rfl hl (by decide) rfl (fun ls hl => ?_)
  refine lv_iload_n hx hb dX0_numberOf_6 rfl (lv_at hl 0 rfl) ?_
  refine lv_if_lt (tgt := 28) hx hb dX0_numberOf_7 (by decide) (fun c_1 => ?_) (fun c_1 => ?_)
  · have hr := hr.trans (if_pos c_1)
    refine lv_iconst (v := (0 : Int32)) hx hb dX0_numberOf_28 (by decide) ?_
    subst hr
    exact W.iret hx hb hrt (fun t ht hW => ⟨_, rfl, rfl, ht⟩) (fun q hq => absurd hq List.not_mem_nil) dX0_numberOf_29
  · have hr := hr.trans (if_neg c_1)
    refine lv_iload_n hx hb dX0_numberOf_10 rfl (lv_at hl 0 rfl) ?_
    refine lv_aload_n hx hb dX0_numberOf_11 rfl (lv_at hl 1 rfl) ?_
    refine va_get (D := D) (ci := 0) (v := .ref a2) (C := RX0) (T := TX0) (N := 7) hx hb hts inX0 hown hK hP 0 rfl rfl 2 (by decide) (hts (.fieldLink RX0 17 "ShiftMaps$DriveText" "numbers" "[I") (List.mem_of_getElem? (i := 1) rfl)) (fun _ h9 => h9) rfl dX0_numberOf_12 ?_
    refine va_alen (D := D) (v := (45 : Int32)) hx hb hK hP 2 2 rfl rfl rfl dX0_numberOf_15 ?_
    refine lv_icmp_ge (tgt := 28) hx hb dX0_numberOf_16 (by decide) (fun c_2 => ?_) (fun c_2 => ?_)
    · have hr := hr.trans (if_pos c_2)
      refine lv_iconst (v := (0 : Int32)) hx hb dX0_numberOf_28 (by decide) ?_
      subst hr
      exact W.iret hx hb hrt (fun t ht hW => ⟨_, rfl, rfl, ht⟩) (fun q hq => absurd hq List.not_mem_nil) dX0_numberOf_29
    · have hr := hr.trans (if_neg c_2)
      refine lv_aload_n hx hb dX0_numberOf_19 rfl (lv_at hl 1 rfl) ?_
      refine va_get (D := D) (ci := 0) (v := .ref a2) (C := RX0) (T := TX0) (N := 7) hx hb hts inX0 hown hK hP 0 rfl rfl 2 (by decide) (hts (.fieldLink RX0 17 "ShiftMaps$DriveText" "numbers" "[I") (List.mem_of_getElem? (i := 1) rfl)) (fun _ h9 => h9) rfl dX0_numberOf_20 ?_
      refine lv_iload_n hx hb dX0_numberOf_23 rfl (lv_at hl 0 rfl) ?_
      refine va_iald (D := D) hx hb hK hP 2 2 rfl rfl (in_of (y := (45 : Int32)) rfl (by decide) c_1 c_2) dX0_numberOf_24 ?_
      refine lv_goto (tgt := 29) hx hb dX0_numberOf_25 (by decide) ?_
      subst hr
      exact W.iret hx hb hrt (fun t ht hW => ⟨_, rfl, rfl, ht⟩) (fun q hq => absurd hq List.not_mem_nil) dX0_numberOf_29

set_option maxHeartbeats 4000000 in
set_option maxRecDepth 100000 in
theorem k_X0_speedOf (l : Launch) (D : va_G) (Y : Nat → ClassId) (a0 a1 a2 : Nat) (V : TxV) (x1 : Int32) (R : Int32) (hr : R = mf_X0_speedOf V x1) : Met l yX0_speedOf wsX0_speedOf ({ frames := 1, cells := 0, slots := 0, locals := 23 } : Room) (va_Pc [.ref a0, .int x1] (PR D Y (txW Y a0 a1 a2 V))) (vp_Si (fun x => x = R)) 0 0 (fun _ => False) := by
  refine Met.ofW (cc := cX0_speedOf) (maxL := 2) (ret := (some .int)) (by decide) rfl ?_
  intro p e s m args below meth c s₁ B hml hv
  obtain ⟨rfl, hP, hK, hN, hZ⟩ := hv
  have hx := B.exec
  have hb := B.bytes
  have hrt := B.returns
  have hts := atoms_spec (ws := wsX0_speedOf) B.pre
  have hown : s.vm.findClass RX0 = some m.cls := findClass_of_methodNamed B.named
  have hlocks := B.notSynchronized
  have hS : va_S (fun _ => False) s.heap s.heap [] := va_S.rf
  have hl := lv_entry ([.ref a0, .int x1]) (n := 2) (Nat.le_of_ble_eq_true rfl)
  rw [lg_entry_eq]
  generalize (lg_sl ([.ref a0, .int x1]) ++ List.replicate (2 - (lg_sl ([.ref a0, .int x1])).length) Slot.unset).toArray = ls at hl ⊢
  have hl : lv_has ls 2 [(0, .ref a0), (1, .int x1)] := hl
  rw [mf_X0_speedOf] at hr
  refine lv_aload_n hx hb dX0_speedOf_0 rfl (lv_at hl 0 rfl) ?_
  refine lv_iload_n hx hb dX0_speedOf_1 rfl (lv_at hl 1 rfl) ?_
  refine lv_iconst (v := (0 : Int32)) hx hb dX0_speedOf_2 (by decide) ?_
  refine nmv hr (fun r_1 e_2 hr => ?_)
  refine roV_i (As := [.int x1, .int (0 : Int32)]) (rest := []) ⟨hx, hb, hml, hown, hts⟩ (k_X0_numberOf l D Y a0 a1 a2 V x1 (0 : Int32) r_1 e_2) (cwV 2 hts gX0_speedOf_X0_numberOf rfl rfl rfl (by decide +kernel) ⟨Nat.le_of_ble_eq_true rfl, Nat.le_of_ble_eq_true rfl⟩) hP hK hN hZ 0 0 rfl rfl rfl hl.1 rfl (Nat.le_of_ble_eq_true rfl) dX0_speedOf_3 ⟨Nat.le_refl 0, Nat.le_refl 0⟩ ?_
  subst hr
  exact W.iret hx hb hrt (fun t ht hW => ⟨_, rfl, rfl, ht⟩) (fun q hq => absurd hq List.not_mem_nil) dX0_speedOf_6

set_option maxHeartbeats 4000000 in
set_option maxRecDepth 100000 in
theorem k_X0_hundredthsOf (l : Launch) (D : va_G) (Y : Nat → ClassId) (a0 a1 a2 : Nat) (V : TxV) (x1 : Int32) (R : Int32) (hr : R = mf_X0_hundredthsOf V x1) : Met l yX0_hundredthsOf wsX0_hundredthsOf ({ frames := 1, cells := 0, slots := 0, locals := 23 } : Room) (va_Pc [.ref a0, .int x1] (PR D Y (txW Y a0 a1 a2 V))) (vp_Si (fun x => x = R)) 0 0 (fun _ => False) := by
  refine Met.ofW (cc := cX0_hundredthsOf) (maxL := 2) (ret := (some .int)) (by decide) rfl ?_
  intro p e s m args below meth c s₁ B hml hv
  obtain ⟨rfl, hP, hK, hN, hZ⟩ := hv
  have hx := B.exec
  have hb := B.bytes
  have hrt := B.returns
  have hts := atoms_spec (ws := wsX0_hundredthsOf) B.pre
  have hown : s.vm.findClass RX0 = some m.cls := findClass_of_methodNamed B.named
  have hlocks := B.notSynchronized
  have hS : va_S (fun _ => False) s.heap s.heap [] := va_S.rf
  have hl := lv_entry ([.ref a0, .int x1]) (n := 2) (Nat.le_of_ble_eq_true rfl)
  rw [lg_entry_eq]
  generalize (lg_sl ([.ref a0, .int x1]) ++ List.replicate (2 - (lg_sl ([.ref a0, .int x1])).length) Slot.unset).toArray = ls at hl ⊢
  have hl : lv_has ls 2 [(0, .ref a0), (1, .int x1)] := hl
  rw [mf_X0_hundredthsOf] at hr
  refine lv_aload_n hx hb dX0_hundredthsOf_0 rfl (lv_at hl 0 rfl) ?_
  refine lv_iload_n hx hb dX0_hundredthsOf_1 rfl (lv_at hl 1 rfl) ?_
  refine lv_iconst (v := (1 : Int32)) hx hb dX0_hundredthsOf_2 (by decide) ?_
  refine nmv hr (fun r_1 e_2 hr => ?_)
  refine roV_i (As := [.int x1, .int (1 : Int32)]) (rest := []) ⟨hx, hb, hml, hown, hts⟩ (k_X0_numberOf l D Y a0 a1 a2 V x1 (1 : Int32) r_1 e_2) (cwV 2 hts gX0_hundredthsOf_X0_numberOf rfl rfl rfl (by decide +kernel) ⟨Nat.le_of_ble_eq_true rfl, Nat.le_of_ble_eq_true rfl⟩) hP hK hN hZ 0 0 rfl rfl rfl hl.1 rfl (Nat.le_of_ble_eq_true rfl) dX0_hundredthsOf_3 ⟨Nat.le_refl 0, Nat.le_refl 0⟩ ?_
  subst hr
  exact W.iret hx hb hrt (fun t ht hW => ⟨_, rfl, rfl, ht⟩) (fun q hq => absurd hq List.not_mem_nil) dX0_hundredthsOf_6

set_option maxHeartbeats 4000000 in
set_option maxRecDepth 100000 in
theorem k_X0_ticksOf (l : Launch) (D : va_G) (Y : Nat → ClassId) (a0 a1 a2 : Nat) (V : TxV) (x1 : Int32) (R : Int32) (hr : R = mf_X0_ticksOf V x1) : Met l yX0_ticksOf wsX0_ticksOf ({ frames := 1, cells := 0, slots := 0, locals := 23 } : Room) (va_Pc [.ref a0, .int x1] (PR D Y (txW Y a0 a1 a2 V))) (vp_Si (fun x => x = R)) 0 0 (fun _ => False) := by
  refine Met.ofW (cc := cX0_ticksOf) (maxL := 2) (ret := (some .int)) (by decide) rfl ?_
  intro p e s m args below meth c s₁ B hml hv
  obtain ⟨rfl, hP, hK, hN, hZ⟩ := hv
  have hx := B.exec
  have hb := B.bytes
  have hrt := B.returns
  have hts := atoms_spec (ws := wsX0_ticksOf) B.pre
  have hown : s.vm.findClass RX0 = some m.cls := findClass_of_methodNamed B.named
  have hlocks := B.notSynchronized
  have hS : va_S (fun _ => False) s.heap s.heap [] := va_S.rf
  have hl := lv_entry ([.ref a0, .int x1]) (n := 2) (Nat.le_of_ble_eq_true rfl)
  rw [lg_entry_eq]
  generalize (lg_sl ([.ref a0, .int x1]) ++ List.replicate (2 - (lg_sl ([.ref a0, .int x1])).length) Slot.unset).toArray = ls at hl ⊢
  have hl : lv_has ls 2 [(0, .ref a0), (1, .int x1)] := hl
  rw [mf_X0_ticksOf] at hr
  refine lv_aload_n hx hb dX0_ticksOf_0 rfl (lv_at hl 0 rfl) ?_
  refine lv_iload_n hx hb dX0_ticksOf_1 rfl (lv_at hl 1 rfl) ?_
  refine lv_iconst (v := (2 : Int32)) hx hb dX0_ticksOf_2 (by decide) ?_
  refine nmv hr (fun r_1 e_2 hr => ?_)
  refine roV_i (As := [.int x1, .int (2 : Int32)]) (rest := []) ⟨hx, hb, hml, hown, hts⟩ (k_X0_numberOf l D Y a0 a1 a2 V x1 (2 : Int32) r_1 e_2) (cwV 2 hts gX0_ticksOf_X0_numberOf rfl rfl rfl (by decide +kernel) ⟨Nat.le_of_ble_eq_true rfl, Nat.le_of_ble_eq_true rfl⟩) hP hK hN hZ 0 0 rfl rfl rfl hl.1 rfl (Nat.le_of_ble_eq_true rfl) dX0_ticksOf_3 ⟨Nat.le_refl 0, Nat.le_refl 0⟩ ?_
  subst hr
  exact W.iret hx hb hrt (fun t ht hW => ⟨_, rfl, rfl, ht⟩) (fun q hq => absurd hq List.not_mem_nil) dX0_ticksOf_6

set_option maxHeartbeats 4000000 in
set_option maxRecDepth 100000 in
theorem k_X0_ticksOfAllParts (l : Launch) (D : va_G) (Y : Nat → ClassId) (a0 a1 a2 : Nat) (V : TxV) (R : Int32) (hr : some R = mf_X0_ticksOfAllParts V) : Met l yX0_ticksOfAllParts wsX0_ticksOfAllParts ({ frames := 2, cells := 0, slots := 0, locals := 44 } : Room) (va_Pc [.ref a0] (PR D Y (txW Y a0 a1 a2 V))) (vp_Si (fun x => x = R)) 0 0 (fun _ => False) := by
  refine Met.ofW (cc := cX0_ticksOfAllParts) (maxL := 3) (ret := (some .int)) (by decide) rfl ?_
  intro p e s m args below meth c s₁ B hml hv
  obtain ⟨rfl, hP, hK, hN, hZ⟩ := hv
  have hx := B.exec
  have hb := B.bytes
  have hrt := B.returns
  have hts := atoms_spec (ws := wsX0_ticksOfAllParts) B.pre
  have hown : s.vm.findClass RX0 = some m.cls := findClass_of_methodNamed B.named
  have hlocks := B.notSynchronized
  have inX0 : ∀ w ∈ u_ws RX0 TX0 7, w ∈ wsX0_ticksOfAllParts := uin_at 12 rfl
  have hS : va_S (fun _ => False) s.heap s.heap [] := va_S.rf
  have hl := lv_entry ([.ref a0]) (n := 3) (Nat.le_of_ble_eq_true rfl)
  rw [lg_entry_eq]
  generalize (lg_sl ([.ref a0]) ++ List.replicate (3 - (lg_sl ([.ref a0])).length) Slot.unset).toArray = ls at hl ⊢
  have hl : lv_has ls 3 [(0, .ref a0)] := hl
  have B4 : ∀ (fu : Nat), ∀ (z1 : Int32) (z2 : Int32) (ls : Array Slot), some R = mf_X0_ticksOfAllParts_B4 fu V z1 z2 → lv_has ls 3 [(0, .ref a0), (1, .int z1), (2, .int z2)] → W p l e ({ frames := 2, cells := 0, slots := 0, locals := 44 } : Room) s m ([.ref a0] : List Value).toArray below meth c s.heap [] 0 0 (MQ below (vp_Si (fun x => x = R)) ([.ref a0] : List Value).toArray s 0 0 (fun _ => False)) (F0 m 4 ls []) := by
    intro fu
    induction fu with
    | zero =>
      intro z1 z2 ls hr hl
      rw [mf_X0_ticksOfAllParts_B4] at hr
      cases hr
    | succ fu ih =>
      intro z1 z2 ls hr hl
      rw [mf_X0_ticksOfAllParts_B4] at hr
      refine lv_iload_n hx hb dX0_ticksOfAllParts_4 rfl (lv_at hl 2 rfl) ?_
      refine lv_aload_n hx hb dX0_ticksOfAllParts_5 rfl (lv_at hl 0 rfl) ?_
      refine va_get (D := D) (ci := 0) (v := .int (v0_parts V)) (C := RX0) (T := TX0) (N := 7) hx hb hts inX0 hown hK hP 0 rfl rfl 3 (by decide) (hts (.fieldLink RX0 21 "ShiftMaps$DriveText" "parts" "I") (List.mem_of_getElem? (i := 1) rfl)) (fun _ h9 => h9) rfl dX0_ticksOfAllParts_6 ?_
      refine lv_icmp_ge (tgt := 26) hx hb dX0_ticksOfAllParts_9 (by decide) (fun c_1 => ?_) (fun c_1 => ?_)
      · have hr := hr.trans (if_pos c_1)
        refine lv_iload_n hx hb dX0_ticksOfAllParts_26 rfl (lv_at hl 1 rfl) ?_
        have hr := Option.some.inj hr
        subst hr
        exact W.iret hx hb hrt (fun t ht hW => ⟨_, rfl, rfl, ht⟩) (fun q hq => absurd hq List.not_mem_nil) dX0_ticksOfAllParts_27
      · have hr := hr.trans (if_neg c_1)
        refine lv_iload_n hx hb dX0_ticksOfAllParts_12 rfl (lv_at hl 1 rfl) ?_
        refine lv_aload_n hx hb dX0_ticksOfAllParts_13 rfl (lv_at hl 0 rfl) ?_
        refine lv_iload_n hx hb dX0_ticksOfAllParts_14 rfl (lv_at hl 2 rfl) ?_
        refine nmv hr (fun r_2 e_3 hr => ?_)
        refine roV_i (As := [.int z2]) (rest := [.int z1]) ⟨hx, hb, hml, hown, hts⟩ (k_X0_ticksOf l D Y a0 a1 a2 V z2 r_2 e_3) (cwV 1 hts gX0_ticksOfAllParts_X0_ticksOf rfl rfl rfl (by decide +kernel) ⟨Nat.le_of_ble_eq_true rfl, Nat.le_of_ble_eq_true rfl⟩) hP hK hN hZ 0 0 rfl rfl rfl hl.1 rfl (Nat.le_of_ble_eq_true rfl) dX0_ticksOfAllParts_15 ⟨Nat.le_refl 0, Nat.le_refl 0⟩ ?_
        refine lv_iadd hx hb dX0_ticksOfAllParts_18 ?_
        refine lv_istore_n (lv' := [(1, .int (z1 + r_2)), (0, .ref a0), (2, .int z2)]) hx hb dX0_ticksOfAllParts_19 rfl hl (by decide) rfl (fun ls hl => ?_)
        refine lv_iinc (v := (z2 + (1 : Int32))) (lv' := [(2, .int (z2 + (1 : Int32))), (1, .int (z1 + r_2)), (0, .ref a0)]) hx hb dX0_ticksOfAllParts_20 hl (k := 2) rfl rfl (by decide) rfl (fun ls hl => ?_)
        refine lv_goto (tgt := 4) hx hb dX0_ticksOfAllParts_23 (by decide) ?_
        exact ih (z1 + r_2) (z2 + (1 : Int32)) _ hr (lv_sub hl [2, 1, 0] rfl)
  rw [mf_X0_ticksOfAllParts] at hr
  refine lv_iconst (v := (0 : Int32)) hx hb dX0_ticksOfAllParts_0 (by decide) ?_
  refine lv_istore_n (lv' := [(1, .int (0 : Int32)), (0, .ref a0)]) hx hb dX0_ticksOfAllParts_1 rfl hl (by decide) rfl (fun ls hl => ?_)
  refine lv_iconst (v := (0 : Int32)) hx hb dX0_ticksOfAllParts_2 (by decide) ?_
  refine lv_istore_n (lv' := [(2, .int (0 : Int32)), (1, .int (0 : Int32)), (0, .ref a0)]) hx hb dX0_ticksOfAllParts_3 rfl hl (by decide) rfl (fun ls hl => ?_)
  exact B4 70 (0 : Int32) (0 : Int32) _ hr (lv_sub hl [2, 1, 0] rfl)

set_option maxHeartbeats 4000000 in
set_option maxRecDepth 100000 in
theorem k_X0_expectNumber (l : Launch) (D : va_G) (Y : Nat → ClassId) (a0 a1 a2 : Nat) (V : TxV) (x1 : Int32) (R : TxV) (hr : R = mf_X0_expectNumber V x1) : Met l yX0_expectNumber wsX0_expectNumber ({ frames := 0, cells := 0, slots := 0, locals := 0 } : Room) (va_Pc [.ref a0, .int x1] (PW D Y (txW Y a0 a1 a2 V))) (va_Qv (S := Unit) (fun _ => True) (fun _ t => va_P D vwCl (txW Y a0 a1 a2 R) t.heap) (wA (txW Y a0 a1 a2 V))) 0 0 (wA (txW Y a0 a1 a2 V)) := by
  refine Met.ofW (cc := cX0_expectNumber) (maxL := 2) (ret := none) (by decide) rfl ?_
  intro p e s m args below meth c s₁ B hml hv
  obtain ⟨rfl, hP, hK, hN, hZ, hD⟩ := hv
  have hx := B.exec
  have hb := B.bytes
  have hrt := B.returns
  have hts := atoms_spec (ws := wsX0_expectNumber) B.pre
  have hown : s.vm.findClass RX0 = some m.cls := findClass_of_methodNamed B.named
  have hlocks := B.notSynchronized
  have inX0 : ∀ w ∈ u_ws RX0 TX0 7, w ∈ wsX0_expectNumber := uin_at 4 rfl
  generalize hAe : wA (txW Y a0 a1 a2 V) = A at hZ hD ⊢
  have hS : va_S A s.heap s.heap [] := va_S.rf
  have hl := lv_entry ([.ref a0, .int x1]) (n := 2) (Nat.le_of_ble_eq_true rfl)
  rw [lg_entry_eq]
  generalize (lg_sl ([.ref a0, .int x1]) ++ List.replicate (2 - (lg_sl ([.ref a0, .int x1])).length) Slot.unset).toArray = ls at hl ⊢
  have hl : lv_has ls 2 [(0, .ref a0), (1, .int x1)] := hl
  rw [mf_X0_expectNumber] at hr
  suffices KK : ∀ (H : Heap) (locs : List Loc), va_P D vwCl (txW Y a0 a1 a2 V) H → va_S A s.heap H locs → W p l e ({ frames := 0, cells := 0, slots := 0, locals := 0 } : Room) s m ([.ref a0, .int x1] : List Value).toArray below meth c H locs 0 0 (MQ below (va_Qv (S := Unit) (fun _ => True) (fun _ t => va_P D vwCl (txW Y a0 a1 a2 R) t.heap) A) ([.ref a0, .int x1] : List Value).toArray s 0 0 A) (F0 m 0 ls []) from KK _ _ hP hS
  intro H locs hP hS
  refine lv_aload_n hx hb dX0_expectNumber_0 rfl (lv_at hl 0 rfl) ?_
  refine lv_iload_n hx hb dX0_expectNumber_1 rfl (lv_at hl 1 rfl) ?_
  refine va_put (D := D) (ci := 0) (v := .int x1) (ty := .int) (C := RX0) (T := TX0) (N := 7) hx hb hts inX0 tyX0 tyX0_ok nmX0 hown hK hP hD hS 0 rfl rfl 4 (by decide) (hts (.fieldLink RX0 24 "ShiftMaps$DriveText" "place" "I") (List.mem_of_getElem? (i := 1) rfl)) (fun _ h9 => h9) rfl (by decide +kernel) rfl rfl (Nat.le_of_ble_eq_true rfl) dX0_expectNumber_2 (fun H locs hP hD hS => ?_)
  refine nmv hr (fun V_3 e_4 hr => ?_)
  have hP : va_P D vwCl (txW Y a0 a1 a2 V_3) H := by rw [e_4]; exact hP
  have hD : va_D A (txW Y a0 a1 a2 V_3) := va_D_adr hD rfl
  refine lv_aload_n hx hb dX0_expectNumber_5 rfl (lv_at hl 0 rfl) ?_
  refine lv_iconst (v := (0 : Int32)) hx hb dX0_expectNumber_6 (by decide) ?_
  refine va_put (D := D) (ci := 0) (v := .int (0 : Int32)) (ty := .int) (C := RX0) (T := TX0) (N := 7) hx hb hts inX0 tyX0 tyX0_ok nmX0 hown hK hP hD hS 0 rfl rfl 5 (by decide) (hts (.fieldLink RX0 27 "ShiftMaps$DriveText" "value" "I") (List.mem_of_getElem? (i := 2) rfl)) (fun _ h9 => h9) rfl (by decide +kernel) rfl rfl (Nat.le_of_ble_eq_true rfl) dX0_expectNumber_7 (fun H locs hP hD hS => ?_)
  refine nmv hr (fun V_7 e_8 hr => ?_)
  have hP : va_P D vwCl (txW Y a0 a1 a2 V_7) H := by rw [e_8]; exact hP
  have hD : va_D A (txW Y a0 a1 a2 V_7) := va_D_adr hD rfl
  refine lv_aload_n hx hb dX0_expectNumber_10 rfl (lv_at hl 0 rfl) ?_
  refine lv_iconst (v := (0 : Int32)) hx hb dX0_expectNumber_11 (by decide) ?_
  refine va_put (D := D) (ci := 0) (v := .int (0 : Int32)) (ty := .int) (C := RX0) (T := TX0) (N := 7) hx hb hts inX0 tyX0 tyX0_ok nmX0 hown hK hP hD hS 0 rfl rfl 6 (by decide) (hts (.fieldLink RX0 30 "ShiftMaps$DriveText" "digits" "I") (List.mem_of_getElem? (i := 3) rfl)) (fun _ h9 => h9) rfl (by decide +kernel) rfl rfl (Nat.le_of_ble_eq_true rfl) dX0_expectNumber_12 (fun H locs hP hD hS => ?_)
  refine nmv hr (fun V_11 e_12 hr => ?_)
  have hP : va_P D vwCl (txW Y a0 a1 a2 V_11) H := by rw [e_12]; exact hP
  have hD : va_D A (txW Y a0 a1 a2 V_11) := va_D_adr hD rfl
  subst hr
  exact W.vret hx hb hrt (fun t ht hW => ⟨⟨(), rfl, trivial, by show va_P D vwCl _ t.heap; rw [ht]; exact hP⟩, hS.F ht⟩) hS.2.2 dX0_expectNumber_15

set_option maxHeartbeats 4000000 in
set_option maxRecDepth 100000 in
theorem k_X0_putNumber (l : Launch) (D : va_G) (Y : Nat → ClassId) (a0 a1 a2 : Nat) (V : TxV) (x1 : Int32) (x2 : Int32) (R : TxV) (hr : R = mf_X0_putNumber V x1 x2) : Met l yX0_putNumber wsX0_putNumber ({ frames := 0, cells := 0, slots := 0, locals := 0 } : Room) (va_Pc [.ref a0, .int x1, .int x2] (PW D Y (txW Y a0 a1 a2 V))) (va_Qv (S := Unit) (fun _ => True) (fun _ t => va_P D vwCl (txW Y a0 a1 a2 R) t.heap) (wA (txW Y a0 a1 a2 V))) 0 0 (wA (txW Y a0 a1 a2 V)) := by
  refine Met.ofW (cc := cX0_putNumber) (maxL := 4) (ret := none) (by decide) rfl ?_
  intro p e s m args below meth c s₁ B hml hv
  obtain ⟨rfl, hP, hK, hN, hZ, hD⟩ := hv
  have hx := B.exec
  have hb := B.bytes
  have hrt := B.returns
  have hts := atoms_spec (ws := wsX0_putNumber) B.pre
  have hown : s.vm.findClass RX0 = some m.cls := findClass_of_methodNamed B.named
  have hlocks := B.notSynchronized
  have inX0 : ∀ w ∈ u_ws RX0 TX0 7, w ∈ wsX0_putNumber := uin_at 3 rfl
  generalize hAe : wA (txW Y a0 a1 a2 V) = A at hZ hD ⊢
  have hS : va_S A s.heap s.heap [] := va_S.rf
  have hl := lv_entry ([.ref a0, .int x1, .int x2]) (n := 4) (Nat.le_of_ble_eq_true rfl)
  rw [lg_entry_eq]
  generalize (lg_sl ([.ref a0, .int x1, .int x2]) ++ List.replicate (4 - (lg_sl ([.ref a0, .int x1, .int x2])).length) Slot.unset).toArray = ls at hl ⊢
  have hl : lv_has ls 4 [(0, .ref a0), (1, .int x1), (2, .int x2)] := hl
  rw [mf_X0_putNumber] at hr
  suffices KK : ∀ (H : Heap) (locs : List Loc), va_P D vwCl (txW Y a0 a1 a2 V) H → va_S A s.heap H locs → W p l e ({ frames := 0, cells := 0, slots := 0, locals := 0 } : Room) s m ([.ref a0, .int x1, .int x2] : List Value).toArray below meth c H locs 0 0 (MQ below (va_Qv (S := Unit) (fun _ => True) (fun _ t => va_P D vwCl (txW Y a0 a1 a2 R) t.heap) A) ([.ref a0, .int x1, .int x2] : List Value).toArray s 0 0 A) (F0 m 0 ls []) from KK _ _ hP hS
  intro H locs hP hS
  refine lv_aload_n hx hb dX0_putNumber_0 rfl (lv_at hl 0 rfl) ?_
  refine va_get (D := D) (ci := 0) (v := .int (v0_parts V)) (C := RX0) (T := TX0) (N := 7) hx hb hts inX0 hown hK hP 0 rfl rfl 3 (by decide) (hts (.fieldLink RX0 21 "ShiftMaps$DriveText" "parts" "I") (List.mem_of_getElem? (i := 1) rfl)) (fun _ h9 => h9) rfl dX0_putNumber_1 ?_
  refine lv_iconst (v := (3 : Int32)) hx hb dX0_putNumber_4 (by decide) ?_
  refine lv_imul hx hb dX0_putNumber_5 ?_
  refine lv_iload_n hx hb dX0_putNumber_6 rfl (lv_at hl 1 rfl) ?_
  refine lv_iadd hx hb dX0_putNumber_7 ?_
  refine lv_istore_n (lv' := [(3, .int (((v0_parts V) * (3 : Int32)) + x1)), (0, .ref a0), (1, .int x1), (2, .int x2)]) hx hb dX0_putNumber_8 rfl hl (by decide) rfl (fun ls hl => ?_)
  refine lv_iload_n hx hb dX0_putNumber_9 rfl (lv_at hl 0 rfl) ?_
  refine lv_if_lt (tgt := 29) hx hb dX0_putNumber_10 (by decide) (fun c_1 => ?_) (fun c_1 => ?_)
  · have hr := hr.trans (if_pos c_1)
    subst hr
    exact W.vret hx hb hrt (fun t ht hW => ⟨⟨(), rfl, trivial, by show va_P D vwCl _ t.heap; rw [ht]; exact hP⟩, hS.F ht⟩) hS.2.2 dX0_putNumber_29
  · have hr := hr.trans (if_neg c_1)
    refine lv_iload_n hx hb dX0_putNumber_13 rfl (lv_at hl 0 rfl) ?_
    refine lv_aload_n hx hb dX0_putNumber_14 rfl (lv_at hl 1 rfl) ?_
    refine va_get (D := D) (ci := 0) (v := .ref a2) (C := RX0) (T := TX0) (N := 7) hx hb hts inX0 hown hK hP 0 rfl rfl 2 (by decide) (hts (.fieldLink RX0 17 "ShiftMaps$DriveText" "numbers" "[I") (List.mem_of_getElem? (i := 2) rfl)) (fun _ h9 => h9) rfl dX0_putNumber_15 ?_
    refine va_alen (D := D) (v := (45 : Int32)) hx hb hK hP 2 2 rfl rfl rfl dX0_putNumber_18 ?_
    refine lv_icmp_ge (tgt := 29) hx hb dX0_putNumber_19 (by decide) (fun c_2 => ?_) (fun c_2 => ?_)
    · have hr := hr.trans (if_pos c_2)
      subst hr
      exact W.vret hx hb hrt (fun t ht hW => ⟨⟨(), rfl, trivial, by show va_P D vwCl _ t.heap; rw [ht]; exact hP⟩, hS.F ht⟩) hS.2.2 dX0_putNumber_29
    · have hr := hr.trans (if_neg c_2)
      refine lv_aload_n hx hb dX0_putNumber_22 rfl (lv_at hl 1 rfl) ?_
      refine va_get (D := D) (ci := 0) (v := .ref a2) (C := RX0) (T := TX0) (N := 7) hx hb hts inX0 hown hK hP 0 rfl rfl 2 (by decide) (hts (.fieldLink RX0 17 "ShiftMaps$DriveText" "numbers" "[I") (List.mem_of_getElem? (i := 2) rfl)) (fun _ h9 => h9) rfl dX0_putNumber_23 ?_
      refine lv_iload_n hx hb dX0_putNumber_26 rfl (lv_at hl 0 rfl) ?_
      refine lv_iload_n hx hb dX0_putNumber_27 rfl (lv_at hl 3 rfl) ?_
      refine va_iast (D := D) hx hb hK hP hD hS 2 2 rfl rfl (in_of (y := (45 : Int32)) rfl (by decide) c_1 c_2) dX0_putNumber_28 (fun H locs hP hD hS => ?_)
      refine nmv hr (fun V_3 e_4 hr => ?_)
      have hP : va_P D vwCl (txW Y a0 a1 a2 V_3) H := by rw [e_4]; exact hP
      have hD : va_D A (txW Y a0 a1 a2 V_3) := va_D_adr hD rfl
      subst hr
      exact W.vret hx hb hrt (fun t ht hW => ⟨⟨(), rfl, trivial, by show va_P D vwCl _ t.heap; rw [ht]; exact hP⟩, hS.F ht⟩) hS.2.2 dX0_putNumber_29

set_option maxHeartbeats 4000000 in
set_option maxRecDepth 100000 in
theorem k_X0_endNumber (l : Launch) (D : va_G) (Y : Nat → ClassId) (a0 a1 a2 : Nat) (V : TxV) (x1 : Int32) (R : Int32 × TxV) (hr : R = mf_X0_endNumber V x1) : Met l yX0_endNumber wsX0_endNumber ({ frames := 1, cells := 0, slots := 0, locals := 23 } : Room) (va_Pc [.ref a0, .int x1] (PW D Y (txW Y a0 a1 a2 V))) (va_Qi (S := Unit) (fun r _ => r = R.1) (fun _ t => va_P D vwCl (txW Y a0 a1 a2 R.2) t.heap) (wA (txW Y a0 a1 a2 V))) 0 0 (wA (txW Y a0 a1 a2 V)) := by
  refine Met.ofW (cc := cX0_endNumber) (maxL := 2) (ret := (some .boolean)) (by decide) rfl ?_
  intro p e s m args below meth c s₁ B hml hv
  obtain ⟨rfl, hP, hK, hN, hZ, hD⟩ := hv
  have hx := B.exec
  have hb := B.bytes
  have hrt := B.returns
  have hts := atoms_spec (ws := wsX0_endNumber) B.pre
  have hown : s.vm.findClass RX0 = some m.cls := findClass_of_methodNamed B.named
  have hlocks := B.notSynchronized
  have inX0 : ∀ w ∈ u_ws RX0 TX0 7, w ∈ wsX0_endNumber := uin_at 15 rfl
  generalize hAe : wA (txW Y a0 a1 a2 V) = A at hZ hD ⊢
  have hS : va_S A s.heap s.heap [] := va_S.rf
  have hl := lv_entry ([.ref a0, .int x1]) (n := 2) (Nat.le_of_ble_eq_true rfl)
  rw [lg_entry_eq]
  generalize (lg_sl ([.ref a0, .int x1]) ++ List.replicate (2 - (lg_sl ([.ref a0, .int x1])).length) Slot.unset).toArray = ls at hl ⊢
  have hl : lv_has ls 2 [(0, .ref a0), (1, .int x1)] := hl
  rw [mf_X0_endNumber] at hr
  suffices KK : ∀ (H : Heap) (locs : List Loc), va_P D vwCl (txW Y a0 a1 a2 V) H → va_S A s.heap H locs → W p l e ({ frames := 1, cells := 0, slots := 0, locals := 23 } : Room) s m ([.ref a0, .int x1] : List Value).toArray below meth c H locs 0 0 (MQ below (va_Qi (S := Unit) (fun r _ => r = R.1) (fun _ t => va_P D vwCl (txW Y a0 a1 a2 R.2) t.heap) A) ([.ref a0, .int x1] : List Value).toArray s 0 0 A) (F0 m 0 ls []) from KK _ _ hP hS
  intro H locs hP hS
  refine lv_aload_n hx hb dX0_endNumber_0 rfl (lv_at hl 0 rfl) ?_
  refine va_get (D := D) (ci := 0) (v := .int (v0_digits V)) (C := RX0) (T := TX0) (N := 7) hx hb hts inX0 hown hK hP 0 rfl rfl 6 (by decide) (hts (.fieldLink RX0 30 "ShiftMaps$DriveText" "digits" "I") (List.mem_of_getElem? (i := 1) rfl)) (fun _ h9 => h9) rfl dX0_endNumber_1 ?_
  refine lv_if_ne (tgt := 9) hx hb dX0_endNumber_4 (by decide) (fun c_1 => ?_) (fun c_1 => ?_)
  · have hr := hr.trans (if_neg c_1)
    refine lv_aload_n hx hb dX0_endNumber_9 rfl (lv_at hl 0 rfl) ?_
    refine lv_aload_n hx hb dX0_endNumber_10 rfl (lv_at hl 0 rfl) ?_
    refine va_get (D := D) (ci := 0) (v := .int (v0_place V)) (C := RX0) (T := TX0) (N := 7) hx hb hts inX0 hown hK hP 0 rfl rfl 4 (by decide) (hts (.fieldLink RX0 24 "ShiftMaps$DriveText" "place" "I") (List.mem_of_getElem? (i := 2) rfl)) (fun _ h9 => h9) rfl dX0_endNumber_11 ?_
    refine lv_aload_n hx hb dX0_endNumber_14 rfl (lv_at hl 0 rfl) ?_
    refine va_get (D := D) (ci := 0) (v := .int (v0_value V)) (C := RX0) (T := TX0) (N := 7) hx hb hts inX0 hown hK hP 0 rfl rfl 5 (by decide) (hts (.fieldLink RX0 27 "ShiftMaps$DriveText" "value" "I") (List.mem_of_getElem? (i := 3) rfl)) (fun _ h9 => h9) rfl dX0_endNumber_15 ?_
    refine nmv hr (fun r_2 e_3 hr => ?_)
    refine rwV_vw (As := [.int (v0_place V), .int (v0_value V)]) (rest := []) ⟨hx, hb, hml, hown, hts⟩ (k_X0_putNumber l D Y a0 a1 a2 V (v0_place V) (v0_value V) r_2 e_3) (cwV 2 hts gX0_endNumber_X0_putNumber rfl rfl rfl (by decide +kernel) ⟨Nat.le_of_ble_eq_true rfl, Nat.le_of_ble_eq_true rfl⟩) hP hK hN hZ hD hS rfl 0 0 rfl rfl rfl hl.1 rfl (Nat.le_of_ble_eq_true rfl) dX0_endNumber_18 ⟨Nat.le_refl 0, Nat.le_refl 0⟩ (fun H locs hP hD hS => ?_)
    refine lv_aload_n hx hb dX0_endNumber_21 rfl (lv_at hl 0 rfl) ?_
    refine lv_iload_n hx hb dX0_endNumber_22 rfl (lv_at hl 1 rfl) ?_
    refine nmv hr (fun r_4 e_5 hr => ?_)
    refine rwV_vw (As := [.int x1]) (rest := []) ⟨hx, hb, hml, hown, hts⟩ (k_X0_expectNumber l D Y a0 a1 a2 r_2 x1 r_4 e_5) (cwV 1 hts gX0_endNumber_X0_expectNumber rfl rfl rfl (by decide +kernel) ⟨Nat.le_of_ble_eq_true rfl, Nat.le_of_ble_eq_true rfl⟩) hP hK hN hZ hD hS rfl 0 0 rfl rfl rfl hl.1 rfl (Nat.le_of_ble_eq_true rfl) dX0_endNumber_23 ⟨Nat.le_refl 0, Nat.le_refl 0⟩ (fun H locs hP hD hS => ?_)
    refine lv_iconst (v := (1 : Int32)) hx hb dX0_endNumber_26 (by decide) ?_
    subst hr
    exact W.zret (ty := .boolean) hx hb hrt (by decide) (fun t ht hW => ⟨⟨_, (), rfl, rfl, by show va_P D vwCl _ t.heap; rw [ht]; exact hP⟩, hS.F ht⟩) hS.2.2 dX0_endNumber_27
  · have hr := hr.trans (if_pos c_1)
    refine lv_iconst (v := (0 : Int32)) hx hb dX0_endNumber_7 (by decide) ?_
    subst hr
    exact W.zret (ty := .boolean) hx hb hrt (by decide) (fun t ht hW => ⟨⟨_, (), rfl, rfl, by show va_P D vwCl _ t.heap; rw [ht]; exact hP⟩, hS.F ht⟩) hS.2.2 dX0_endNumber_8

set_option maxHeartbeats 4000000 in
set_option maxRecDepth 100000 in
theorem k_X0_endPart (l : Launch) (D : va_G) (Y : Nat → ClassId) (a0 a1 a2 : Nat) (V : TxV) (R : Int32 × TxV) (hr : R = mf_X0_endPart V) : Met l yX0_endPart wsX0_endPart ({ frames := 2, cells := 0, slots := 0, locals := 44 } : Room) (va_Pc [.ref a0] (PW D Y (txW Y a0 a1 a2 V))) (va_Qi (S := Unit) (fun r _ => r = R.1) (fun _ t => va_P D vwCl (txW Y a0 a1 a2 R.2) t.heap) (wA (txW Y a0 a1 a2 V))) 0 0 (wA (txW Y a0 a1 a2 V)) := by
  refine Met.ofW (cc := cX0_endPart) (maxL := 2) (ret := (some .boolean)) (by decide) rfl ?_
  intro p e s m args below meth c s₁ B hml hv
  obtain ⟨rfl, hP, hK, hN, hZ, hD⟩ := hv
  have hx := B.exec
  have hb := B.bytes
  have hrt := B.returns
  have hts := atoms_spec (ws := wsX0_endPart) B.pre
  have hown : s.vm.findClass RX0 = some m.cls := findClass_of_methodNamed B.named
  have hlocks := B.notSynchronized
  have inX0 : ∀ w ∈ u_ws RX0 TX0 7, w ∈ wsX0_endPart := uin_at 19 rfl
  generalize hAe : wA (txW Y a0 a1 a2 V) = A at hZ hD ⊢
  have hS : va_S A s.heap s.heap [] := va_S.rf
  have hl := lv_entry ([.ref a0]) (n := 2) (Nat.le_of_ble_eq_true rfl)
  rw [lg_entry_eq]
  generalize (lg_sl ([.ref a0]) ++ List.replicate (2 - (lg_sl ([.ref a0])).length) Slot.unset).toArray = ls at hl ⊢
  have hl : lv_has ls 2 [(0, .ref a0)] := hl
  have B41 : ∀ (W0 : TxV) (H : Heap) (locs : List Loc) (ls : Array Slot), R = mf_X0_endPart_B41 W0 → va_P D vwCl (txW Y a0 a1 a2 W0) H → va_D A (txW Y a0 a1 a2 W0) → va_S A s.heap H locs → lv_has ls 2 [(0, .ref a0)] → W p l e ({ frames := 2, cells := 0, slots := 0, locals := 44 } : Room) s m ([.ref a0] : List Value).toArray below meth c H locs 0 0 (MQ below (va_Qi (S := Unit) (fun r _ => r = R.1) (fun _ t => va_P D vwCl (txW Y a0 a1 a2 R.2) t.heap) A) ([.ref a0] : List Value).toArray s 0 0 A) (F0 m 41 ls []) := by
    intro W0 H locs ls hr hP hD hS hl
    rw [mf_X0_endPart_B41] at hr
    refine lv_aload_n hx hb dX0_endPart_41 rfl (lv_at hl 0 rfl) ?_
    refine lv_dup hx hb dX0_endPart_42 rfl ?_
    refine va_get (D := D) (ci := 0) (v := .int (v0_parts W0)) (C := RX0) (T := TX0) (N := 7) hx hb hts inX0 hown hK hP 0 rfl rfl 3 (by decide) (hts (.fieldLink RX0 21 "ShiftMaps$DriveText" "parts" "I") (List.mem_of_getElem? (i := 2) rfl)) (fun _ h9 => h9) rfl dX0_endPart_43 ?_
    refine lv_iconst (v := (1 : Int32)) hx hb dX0_endPart_46 (by decide) ?_
    refine lv_iadd hx hb dX0_endPart_47 ?_
    refine va_put (D := D) (ci := 0) (v := .int ((v0_parts W0) + (1 : Int32))) (ty := .int) (C := RX0) (T := TX0) (N := 7) hx hb hts inX0 tyX0 tyX0_ok nmX0 hown hK hP hD hS 0 rfl rfl 3 (by decide) (hts (.fieldLink RX0 21 "ShiftMaps$DriveText" "parts" "I") (List.mem_of_getElem? (i := 2) rfl)) (fun _ h9 => h9) rfl (by decide +kernel) rfl rfl (Nat.le_of_ble_eq_true rfl) dX0_endPart_48 (fun H locs hP hD hS => ?_)
    refine nmv hr (fun V_9 e_10 hr => ?_)
    have hP : va_P D vwCl (txW Y a0 a1 a2 V_9) H := by rw [e_10]; exact hP
    have hD : va_D A (txW Y a0 a1 a2 V_9) := va_D_adr hD rfl
    refine lv_iconst (v := (1 : Int32)) hx hb dX0_endPart_51 (by decide) ?_
    subst hr
    exact W.zret (ty := .boolean) hx hb hrt (by decide) (fun t ht hW => ⟨⟨_, (), rfl, rfl, by show va_P D vwCl _ t.heap; rw [ht]; exact hP⟩, hS.F ht⟩) hS.2.2 dX0_endPart_52
  have B13 : ∀ (W0 : TxV) (y0 : Int32) (H : Heap) (locs : List Loc) (ls : Array Slot), R = mf_X0_endPart_B13 W0 y0 → va_P D vwCl (txW Y a0 a1 a2 W0) H → va_D A (txW Y a0 a1 a2 W0) → va_S A s.heap H locs → lv_has ls 2 [(0, .ref a0)] → W p l e ({ frames := 2, cells := 0, slots := 0, locals := 44 } : Room) s m ([.ref a0] : List Value).toArray below meth c H locs 0 0 (MQ below (va_Qi (S := Unit) (fun r _ => r = R.1) (fun _ t => va_P D vwCl (txW Y a0 a1 a2 R.2) t.heap) A) ([.ref a0] : List Value).toArray s 0 0 A) (F0 m 13 ls [.int y0]) := by
    intro W0 y0 H locs ls hr hP hD hS hl
    rw [mf_X0_endPart_B13] at hr
    refine lv_istore_n (lv' := [(1, .int y0), (0, .ref a0)]) hx hb dX0_endPart_13 rfl hl (by decide) rfl (fun ls hl => ?_)
    refine lv_aload_n hx hb dX0_endPart_14 rfl (lv_at hl 1 rfl) ?_
    refine va_get (D := D) (ci := 0) (v := .int (v0_place W0)) (C := RX0) (T := TX0) (N := 7) hx hb hts inX0 hown hK hP 0 rfl rfl 4 (by decide) (hts (.fieldLink RX0 24 "ShiftMaps$DriveText" "place" "I") (List.mem_of_getElem? (i := 1) rfl)) (fun _ h9 => h9) rfl dX0_endPart_15 ?_
    refine lv_if_eq (tgt := 29) hx hb dX0_endPart_18 (by decide) (fun c_2 => ?_) (fun c_2 => ?_)
    · have hr := hr.trans (if_pos c_2)
      refine lv_iconst (v := (0 : Int32)) hx hb dX0_endPart_29 (by decide) ?_
      subst hr
      exact W.zret (ty := .boolean) hx hb hrt (by decide) (fun t ht hW => ⟨⟨_, (), rfl, rfl, by show va_P D vwCl _ t.heap; rw [ht]; exact hP⟩, hS.F ht⟩) hS.2.2 dX0_endPart_30
    · have hr := hr.trans (if_neg c_2)
      refine lv_aload_n hx hb dX0_endPart_21 rfl (lv_at hl 1 rfl) ?_
      refine lv_iconst (v := (0 : Int32)) hx hb dX0_endPart_22 (by decide) ?_
      refine nmv hr (fun r_3 e_4 hr => ?_)
      refine rwV_iw (As := [.int (0 : Int32)]) (rest := []) ⟨hx, hb, hml, hown, hts⟩ (k_X0_endNumber l D Y a0 a1 a2 W0 (0 : Int32) r_3 e_4) (cwV 1 hts gX0_endPart_X0_endNumber rfl rfl rfl (by decide +kernel) ⟨Nat.le_of_ble_eq_true rfl, Nat.le_of_ble_eq_true rfl⟩) hP hK hN hZ hD hS rfl 0 0 rfl rfl rfl hl.1 rfl (Nat.le_of_ble_eq_true rfl) dX0_endPart_23 ⟨Nat.le_refl 0, Nat.le_refl 0⟩ (fun H locs hP hD hS => ?_)
      refine lv_if_ne (tgt := 31) hx hb dX0_endPart_26 (by decide) (fun c_5 => ?_) (fun c_5 => ?_)
      · have hr := hr.trans (if_neg c_5)
        refine lv_iload_n hx hb dX0_endPart_31 rfl (lv_at hl 0 rfl) ?_
        refine lv_if_ne (tgt := 41) hx hb dX0_endPart_32 (by decide) (fun c_6 => ?_) (fun c_6 => ?_)
        · have hr := hr.trans (if_neg c_6)
          exact B41 r_3.2 _ _ _ hr hP hD hS (lv_sub hl [1] rfl)
        · have hr := hr.trans (if_pos c_6)
          refine lv_aload_n hx hb dX0_endPart_35 rfl (lv_at hl 1 rfl) ?_
          refine lv_iconst (v := (2 : Int32)) hx hb dX0_endPart_36 (by decide) ?_
          refine lv_iconst (v := (1 : Int32)) hx hb dX0_endPart_37 (by decide) ?_
          refine nmv hr (fun r_11 e_12 hr => ?_)
          refine rwV_vw (As := [.int (2 : Int32), .int (1 : Int32)]) (rest := []) ⟨hx, hb, hml, hown, hts⟩ (k_X0_putNumber l D Y a0 a1 a2 r_3.2 (2 : Int32) (1 : Int32) r_11 e_12) (cwV 2 hts gX0_endPart_X0_putNumber rfl rfl rfl (by decide +kernel) ⟨Nat.le_of_ble_eq_true rfl, Nat.le_of_ble_eq_true rfl⟩) hP hK hN hZ hD hS rfl 0 0 rfl rfl rfl hl.1 rfl (Nat.le_of_ble_eq_true rfl) dX0_endPart_38 ⟨Nat.le_refl 0, Nat.le_refl 0⟩ (fun H locs hP hD hS => ?_)
          exact B41 r_11 _ _ _ hr hP hD hS (lv_sub hl [1] rfl)
      · have hr := hr.trans (if_pos c_5)
        refine lv_iconst (v := (0 : Int32)) hx hb dX0_endPart_29 (by decide) ?_
        subst hr
        exact W.zret (ty := .boolean) hx hb hrt (by decide) (fun t ht hW => ⟨⟨_, (), rfl, rfl, by show va_P D vwCl _ t.heap; rw [ht]; exact hP⟩, hS.F ht⟩) hS.2.2 dX0_endPart_30
  rw [mf_X0_endPart] at hr
  suffices KK : ∀ (H : Heap) (locs : List Loc), va_P D vwCl (txW Y a0 a1 a2 V) H → va_S A s.heap H locs → W p l e ({ frames := 2, cells := 0, slots := 0, locals := 44 } : Room) s m ([.ref a0] : List Value).toArray below meth c H locs 0 0 (MQ below (va_Qi (S := Unit) (fun r _ => r = R.1) (fun _ t => va_P D vwCl (txW Y a0 a1 a2 R.2) t.heap) A) ([.ref a0] : List Value).toArray s 0 0 A) (F0 m 0 ls []) from KK _ _ hP hS
  intro H locs hP hS
  refine lv_aload_n hx hb dX0_endPart_0 rfl (lv_at hl 0 rfl) ?_
  refine va_get (D := D) (ci := 0) (v := .int (v0_place V)) (C := RX0) (T := TX0) (N := 7) hx hb hts inX0 hown hK hP 0 rfl rfl 4 (by decide) (hts (.fieldLink RX0 24 "ShiftMaps$DriveText" "place" "I") (List.mem_of_getElem? (i := 1) rfl)) (fun _ h9 => h9) rfl dX0_endPart_1 ?_
  refine lv_iconst (v := (2 : Int32)) hx hb dX0_endPart_4 (by decide) ?_
  refine lv_icmp_ne (tgt := 12) hx hb dX0_endPart_5 (by decide) (fun c_1 => ?_) (fun c_1 => ?_)
  · have hr := hr.trans (if_neg c_1)
    refine lv_iconst (v := (0 : Int32)) hx hb dX0_endPart_12 (by decide) ?_
    exact B13 V (0 : Int32) _ _ _ hr hP hD hS (lv_sub hl [0] rfl)
  · have hr := hr.trans (if_pos c_1)
    refine lv_iconst (v := (1 : Int32)) hx hb dX0_endPart_8 (by decide) ?_
    refine lv_goto (tgt := 13) hx hb dX0_endPart_9 (by decide) ?_
    exact B13 V (1 : Int32) _ _ _ hr hP hD hS (lv_sub hl [0] rfl)

set_option maxHeartbeats 4000000 in
set_option maxRecDepth 100000 in
theorem k_X0_takesDigit (l : Launch) (D : va_G) (Y : Nat → ClassId) (a0 a1 a2 : Nat) (V : TxV) (x1 : Int32) (R : Int32 × TxV) (hr : R = mf_X0_takesDigit V x1) : Met l yX0_takesDigit wsX0_takesDigit ({ frames := 0, cells := 0, slots := 0, locals := 0 } : Room) (va_Pc [.ref a0, .int x1] (PW D Y (txW Y a0 a1 a2 V))) (va_Qi (S := Unit) (fun r _ => r = R.1) (fun _ t => va_P D vwCl (txW Y a0 a1 a2 R.2) t.heap) (wA (txW Y a0 a1 a2 V))) 0 0 (wA (txW Y a0 a1 a2 V)) := by
  refine Met.ofW (cc := cX0_takesDigit) (maxL := 3) (ret := (some .boolean)) (by decide) rfl ?_
  intro p e s m args below meth c s₁ B hml hv
  obtain ⟨rfl, hP, hK, hN, hZ, hD⟩ := hv
  have hx := B.exec
  have hb := B.bytes
  have hrt := B.returns
  have hts := atoms_spec (ws := wsX0_takesDigit) B.pre
  have hown : s.vm.findClass RX0 = some m.cls := findClass_of_methodNamed B.named
  have hlocks := B.notSynchronized
  have inX0 : ∀ w ∈ u_ws RX0 TX0 7, w ∈ wsX0_takesDigit := uin_at 5 rfl
  generalize hAe : wA (txW Y a0 a1 a2 V) = A at hZ hD ⊢
  obtain ⟨t_gr, hZ_gr, hT_gr⟩ := hZ.2.2.1
  have hS : va_S A s.heap s.heap [] := va_S.rf
  have hl := lv_entry ([.ref a0, .int x1]) (n := 3) (Nat.le_of_ble_eq_true rfl)
  rw [lg_entry_eq]
  generalize (lg_sl ([.ref a0, .int x1]) ++ List.replicate (3 - (lg_sl ([.ref a0, .int x1])).length) Slot.unset).toArray = ls at hl ⊢
  have hl : lv_has ls 3 [(0, .ref a0), (1, .int x1)] := hl
  have B37 : ∀ (W0 : TxV) (z1 : Int32) (H : Heap) (locs : List Loc) (ls : Array Slot), R = mf_X0_takesDigit_B37 W0 z1 → va_P D vwCl (txW Y a0 a1 a2 W0) H → va_D A (txW Y a0 a1 a2 W0) → va_S A s.heap H locs → lv_has ls 3 [(0, .ref a0), (1, .int z1)] → W p l e ({ frames := 0, cells := 0, slots := 0, locals := 0 } : Room) s m ([.ref a0, .int x1] : List Value).toArray below meth c H locs 0 0 (MQ below (va_Qi (S := Unit) (fun r _ => r = R.1) (fun _ t => va_P D vwCl (txW Y a0 a1 a2 R.2) t.heap) A) ([.ref a0, .int x1] : List Value).toArray s 0 0 A) (F0 m 37 ls []) := by
    intro W0 z1 H locs ls hr hP hD hS hl
    rw [mf_X0_takesDigit_B37] at hr
    refine lv_aload_n hx hb dX0_takesDigit_37 rfl (lv_at hl 0 rfl) ?_
    refine va_get (D := D) (ci := 0) (v := .int (v0_value W0)) (C := RX0) (T := TX0) (N := 7) hx hb hts inX0 hown hK hP 0 rfl rfl 5 (by decide) (hts (.fieldLink RX0 27 "ShiftMaps$DriveText" "value" "I") (List.mem_of_getElem? (i := 2) rfl)) (fun _ h9 => h9) rfl dX0_takesDigit_38 ?_
    refine lv_bipush (v := (10 : Int32)) hx hb dX0_takesDigit_41 (by decide) ?_
    refine lv_imul hx hb dX0_takesDigit_43 ?_
    refine lv_iload_n hx hb dX0_takesDigit_44 rfl (lv_at hl 1 rfl) ?_
    refine lv_iadd hx hb dX0_takesDigit_45 ?_
    refine lv_istore_n (lv' := [(2, .int (((v0_value W0) * (10 : Int32)) + z1)), (0, .ref a0), (1, .int z1)]) hx hb dX0_takesDigit_46 rfl hl (by decide) rfl (fun ls hl => ?_)
    refine lv_aload_n hx hb dX0_takesDigit_47 rfl (lv_at hl 1 rfl) ?_
    refine va_get (D := D) (ci := 0) (v := .int (v0_place W0)) (C := RX0) (T := TX0) (N := 7) hx hb hts inX0 hown hK hP 0 rfl rfl 4 (by decide) (hts (.fieldLink RX0 24 "ShiftMaps$DriveText" "place" "I") (List.mem_of_getElem? (i := 3) rfl)) (fun _ h9 => h9) rfl dX0_takesDigit_48 ?_
    refine lv_if_lt (tgt := 77) hx hb dX0_takesDigit_51 (by decide) (fun c_3 => ?_) (fun c_3 => ?_)
    · have hr := hr.trans (if_pos c_3)
      refine lv_iconst (v := (0 : Int32)) hx hb dX0_takesDigit_77 (by decide) ?_
      subst hr
      exact W.zret (ty := .boolean) hx hb hrt (by decide) (fun t ht hW => ⟨⟨_, (), rfl, rfl, by show va_P D vwCl _ t.heap; rw [ht]; exact hP⟩, hS.F ht⟩) hS.2.2 dX0_takesDigit_78
    · have hr := hr.trans (if_neg c_3)
      refine lv_aload_n hx hb dX0_takesDigit_54 rfl (lv_at hl 1 rfl) ?_
      refine va_get (D := D) (ci := 0) (v := .int (v0_place W0)) (C := RX0) (T := TX0) (N := 7) hx hb hts inX0 hown hK hP 0 rfl rfl 4 (by decide) (hts (.fieldLink RX0 24 "ShiftMaps$DriveText" "place" "I") (List.mem_of_getElem? (i := 3) rfl)) (fun _ h9 => h9) rfl dX0_takesDigit_55 ?_
      refine va_gets hx hb hZ_gr hS hown (hts (.fieldLink RX0 60 "ShiftMaps$DriveText" "GREATEST" "[I") (List.mem_of_getElem? (i := 4) rfl)) (fun _ h9 => h9) dX0_takesDigit_58 ?_
      refine va_tlen (v := (3 : Int32)) hx hb hT_gr hS rfl dX0_takesDigit_61 ?_
      refine lv_icmp_ge (tgt := 77) hx hb dX0_takesDigit_62 (by decide) (fun c_4 => ?_) (fun c_4 => ?_)
      · have hr := hr.trans (if_pos c_4)
        refine lv_iconst (v := (0 : Int32)) hx hb dX0_takesDigit_77 (by decide) ?_
        subst hr
        exact W.zret (ty := .boolean) hx hb hrt (by decide) (fun t ht hW => ⟨⟨_, (), rfl, rfl, by show va_P D vwCl _ t.heap; rw [ht]; exact hP⟩, hS.F ht⟩) hS.2.2 dX0_takesDigit_78
      · have hr := hr.trans (if_neg c_4)
        refine lv_iload_n hx hb dX0_takesDigit_65 rfl (lv_at hl 0 rfl) ?_
        refine va_gets hx hb hZ_gr hS hown (hts (.fieldLink RX0 60 "ShiftMaps$DriveText" "GREATEST" "[I") (List.mem_of_getElem? (i := 4) rfl)) (fun _ h9 => h9) dX0_takesDigit_66 ?_
        refine lv_aload_n hx hb dX0_takesDigit_69 rfl (lv_at hl 1 rfl) ?_
        refine va_get (D := D) (ci := 0) (v := .int (v0_place W0)) (C := RX0) (T := TX0) (N := 7) hx hb hts inX0 hown hK hP 0 rfl rfl 4 (by decide) (hts (.fieldLink RX0 24 "ShiftMaps$DriveText" "place" "I") (List.mem_of_getElem? (i := 3) rfl)) (fun _ h9 => h9) rfl dX0_takesDigit_70 ?_
        refine va_ti (v := .int (tb_gr (v0_place W0).toNatClampNeg)) hx hb hT_gr hS (in_of (y := (3 : Int32)) rfl (by decide) c_3 c_4) rfl dX0_takesDigit_73 ?_
        refine lv_icmp_le (tgt := 79) hx hb dX0_takesDigit_74 (by decide) (fun c_5 => ?_) (fun c_5 => ?_)
        · have hr := hr.trans (if_pos c_5)
          refine lv_aload_n hx hb dX0_takesDigit_79 rfl (lv_at hl 1 rfl) ?_
          refine lv_iload_n hx hb dX0_takesDigit_80 rfl (lv_at hl 0 rfl) ?_
          refine va_put (D := D) (ci := 0) (v := .int (((v0_value W0) * (10 : Int32)) + z1)) (ty := .int) (C := RX0) (T := TX0) (N := 7) hx hb hts inX0 tyX0 tyX0_ok nmX0 hown hK hP hD hS 0 rfl rfl 5 (by decide) (hts (.fieldLink RX0 27 "ShiftMaps$DriveText" "value" "I") (List.mem_of_getElem? (i := 2) rfl)) (fun _ h9 => h9) rfl (by decide +kernel) rfl rfl (Nat.le_of_ble_eq_true rfl) dX0_takesDigit_81 (fun H locs hP hD hS => ?_)
          refine nmv hr (fun V_8 e_9 hr => ?_)
          have hP : va_P D vwCl (txW Y a0 a1 a2 V_8) H := by rw [e_9]; exact hP
          have hD : va_D A (txW Y a0 a1 a2 V_8) := va_D_adr hD rfl
          refine lv_aload_n hx hb dX0_takesDigit_84 rfl (lv_at hl 1 rfl) ?_
          refine lv_dup hx hb dX0_takesDigit_85 rfl ?_
          refine va_get (D := D) (ci := 0) (v := .int (v0_digits V_8)) (C := RX0) (T := TX0) (N := 7) hx hb hts inX0 hown hK hP 0 rfl rfl 6 (by decide) (hts (.fieldLink RX0 30 "ShiftMaps$DriveText" "digits" "I") (List.mem_of_getElem? (i := 1) rfl)) (fun _ h9 => h9) rfl dX0_takesDigit_86 ?_
          refine lv_iconst (v := (1 : Int32)) hx hb dX0_takesDigit_89 (by decide) ?_
          refine lv_iadd hx hb dX0_takesDigit_90 ?_
          refine va_put (D := D) (ci := 0) (v := .int ((v0_digits V_8) + (1 : Int32))) (ty := .int) (C := RX0) (T := TX0) (N := 7) hx hb hts inX0 tyX0 tyX0_ok nmX0 hown hK hP hD hS 0 rfl rfl 6 (by decide) (hts (.fieldLink RX0 30 "ShiftMaps$DriveText" "digits" "I") (List.mem_of_getElem? (i := 1) rfl)) (fun _ h9 => h9) rfl (by decide +kernel) rfl rfl (Nat.le_of_ble_eq_true rfl) dX0_takesDigit_91 (fun H locs hP hD hS => ?_)
          refine nmv hr (fun V_12 e_13 hr => ?_)
          have hP : va_P D vwCl (txW Y a0 a1 a2 V_12) H := by rw [e_13]; exact hP
          have hD : va_D A (txW Y a0 a1 a2 V_12) := va_D_adr hD rfl
          refine lv_iconst (v := (1 : Int32)) hx hb dX0_takesDigit_94 (by decide) ?_
          subst hr
          exact W.zret (ty := .boolean) hx hb hrt (by decide) (fun t ht hW => ⟨⟨_, (), rfl, rfl, by show va_P D vwCl _ t.heap; rw [ht]; exact hP⟩, hS.F ht⟩) hS.2.2 dX0_takesDigit_95
        · have hr := hr.trans (if_neg c_5)
          refine lv_iconst (v := (0 : Int32)) hx hb dX0_takesDigit_77 (by decide) ?_
          subst hr
          exact W.zret (ty := .boolean) hx hb hrt (by decide) (fun t ht hW => ⟨⟨_, (), rfl, rfl, by show va_P D vwCl _ t.heap; rw [ht]; exact hP⟩, hS.F ht⟩) hS.2.2 dX0_takesDigit_78
  have B16 : ∀ (W0 : TxV) (z1 : Int32) (H : Heap) (locs : List Loc) (ls : Array Slot), R = mf_X0_takesDigit_B16 W0 z1 → va_P D vwCl (txW Y a0 a1 a2 W0) H → va_D A (txW Y a0 a1 a2 W0) → va_S A s.heap H locs → lv_has ls 3 [(0, .ref a0), (1, .int z1)] → W p l e ({ frames := 0, cells := 0, slots := 0, locals := 0 } : Room) s m ([.ref a0, .int x1] : List Value).toArray below meth c H locs 0 0 (MQ below (va_Qi (S := Unit) (fun r _ => r = R.1) (fun _ t => va_P D vwCl (txW Y a0 a1 a2 R.2) t.heap) A) ([.ref a0, .int x1] : List Value).toArray s 0 0 A) (F0 m 16 ls []) := by
    intro W0 z1 H locs ls hr hP hD hS hl
    rw [mf_X0_takesDigit_B16] at hr
    refine lv_aload_n hx hb dX0_takesDigit_16 rfl (lv_at hl 0 rfl) ?_
    refine va_get (D := D) (ci := 0) (v := .int (v0_place W0)) (C := RX0) (T := TX0) (N := 7) hx hb hts inX0 hown hK hP 0 rfl rfl 4 (by decide) (hts (.fieldLink RX0 24 "ShiftMaps$DriveText" "place" "I") (List.mem_of_getElem? (i := 3) rfl)) (fun _ h9 => h9) rfl dX0_takesDigit_17 ?_
    refine lv_iconst (v := (2 : Int32)) hx hb dX0_takesDigit_20 (by decide) ?_
    refine lv_icmp_ne (tgt := 37) hx hb dX0_takesDigit_21 (by decide) (fun c_2 => ?_) (fun c_2 => ?_)
    · have hr := hr.trans (if_neg c_2)
      exact B37 W0 z1 _ _ _ hr hP hD hS (lv_sub hl [0, 1] rfl)
    · have hr := hr.trans (if_pos c_2)
      refine lv_aload_n hx hb dX0_takesDigit_24 rfl (lv_at hl 0 rfl) ?_
      refine va_get (D := D) (ci := 0) (v := .int (v0_digits W0)) (C := RX0) (T := TX0) (N := 7) hx hb hts inX0 hown hK hP 0 rfl rfl 6 (by decide) (hts (.fieldLink RX0 30 "ShiftMaps$DriveText" "digits" "I") (List.mem_of_getElem? (i := 1) rfl)) (fun _ h9 => h9) rfl dX0_takesDigit_25 ?_
      refine lv_if_ne (tgt := 37) hx hb dX0_takesDigit_28 (by decide) (fun c_14 => ?_) (fun c_14 => ?_)
      · have hr := hr.trans (if_neg c_14)
        exact B37 W0 z1 _ _ _ hr hP hD hS (lv_sub hl [0, 1] rfl)
      · have hr := hr.trans (if_pos c_14)
        refine lv_iload_n hx hb dX0_takesDigit_31 rfl (lv_at hl 1 rfl) ?_
        refine lv_if_ne (tgt := 37) hx hb dX0_takesDigit_32 (by decide) (fun c_15 => ?_) (fun c_15 => ?_)
        · have hr := hr.trans (if_neg c_15)
          exact B37 W0 z1 _ _ _ hr hP hD hS (lv_sub hl [0, 1] rfl)
        · have hr := hr.trans (if_pos c_15)
          refine lv_iconst (v := (0 : Int32)) hx hb dX0_takesDigit_35 (by decide) ?_
          subst hr
          exact W.zret (ty := .boolean) hx hb hrt (by decide) (fun t ht hW => ⟨⟨_, (), rfl, rfl, by show va_P D vwCl _ t.heap; rw [ht]; exact hP⟩, hS.F ht⟩) hS.2.2 dX0_takesDigit_36
  rw [mf_X0_takesDigit] at hr
  suffices KK : ∀ (H : Heap) (locs : List Loc), va_P D vwCl (txW Y a0 a1 a2 V) H → va_S A s.heap H locs → W p l e ({ frames := 0, cells := 0, slots := 0, locals := 0 } : Room) s m ([.ref a0, .int x1] : List Value).toArray below meth c H locs 0 0 (MQ below (va_Qi (S := Unit) (fun r _ => r = R.1) (fun _ t => va_P D vwCl (txW Y a0 a1 a2 R.2) t.heap) A) ([.ref a0, .int x1] : List Value).toArray s 0 0 A) (F0 m 0 ls []) from KK _ _ hP hS
  intro H locs hP hS
  refine lv_aload_n hx hb dX0_takesDigit_0 rfl (lv_at hl 0 rfl) ?_
  refine va_get (D := D) (ci := 0) (v := .int (v0_digits V)) (C := RX0) (T := TX0) (N := 7) hx hb hts inX0 hown hK hP 0 rfl rfl 6 (by decide) (hts (.fieldLink RX0 30 "ShiftMaps$DriveText" "digits" "I") (List.mem_of_getElem? (i := 1) rfl)) (fun _ h9 => h9) rfl dX0_takesDigit_1 ?_
  refine lv_if_le (tgt := 16) hx hb dX0_takesDigit_4 (by decide) (fun c_1 => ?_) (fun c_1 => ?_)
  · have hr := hr.trans (if_pos c_1)
    exact B16 V x1 _ _ _ hr hP hD hS (lv_sub hl [0, 1] rfl)
  · have hr := hr.trans (if_neg c_1)
    refine lv_aload_n hx hb dX0_takesDigit_7 rfl (lv_at hl 0 rfl) ?_
    refine va_get (D := D) (ci := 0) (v := .int (v0_value V)) (C := RX0) (T := TX0) (N := 7) hx hb hts inX0 hown hK hP 0 rfl rfl 5 (by decide) (hts (.fieldLink RX0 27 "ShiftMaps$DriveText" "value" "I") (List.mem_of_getElem? (i := 2) rfl)) (fun _ h9 => h9) rfl dX0_takesDigit_8 ?_
    refine lv_if_ne (tgt := 16) hx hb dX0_takesDigit_11 (by decide) (fun c_16 => ?_) (fun c_16 => ?_)
    · have hr := hr.trans (if_neg c_16)
      exact B16 V x1 _ _ _ hr hP hD hS (lv_sub hl [0, 1] rfl)
    · have hr := hr.trans (if_pos c_16)
      refine lv_iconst (v := (0 : Int32)) hx hb dX0_takesDigit_14 (by decide) ?_
      subst hr
      exact W.zret (ty := .boolean) hx hb hrt (by decide) (fun t ht hW => ⟨⟨_, (), rfl, rfl, by show va_P D vwCl _ t.heap; rw [ht]; exact hP⟩, hS.F ht⟩) hS.2.2 dX0_takesDigit_15

set_option maxHeartbeats 4000000 in
set_option maxRecDepth 100000 in
theorem k_X0_takes (l : Launch) (D : va_G) (Y : Nat → ClassId) (a0 a1 a2 : Nat) (V : TxV) (x1 : Int32) (R : Int32 × TxV) (hr : some R = mf_X0_takes V x1) : Met l yX0_takes wsX0_takes ({ frames := 3, cells := 0, slots := 0, locals := 65 } : Room) (va_Pc [.ref a0, .int x1] (PW D Y (txW Y a0 a1 a2 V))) (va_Qi (S := Unit) (fun r _ => r = R.1) (fun _ t => va_P D vwCl (txW Y a0 a1 a2 R.2) t.heap) (wA (txW Y a0 a1 a2 V))) 0 0 (wA (txW Y a0 a1 a2 V)) := by
  refine Met.ofW (cc := cX0_takes) (maxL := 2) (ret := (some .boolean)) (by decide) rfl ?_
  intro p e s m args below meth c s₁ B hml hv
  obtain ⟨rfl, hP, hK, hN, hZ, hD⟩ := hv
  have hx := B.exec
  have hb := B.bytes
  have hrt := B.returns
  have hts := atoms_spec (ws := wsX0_takes) B.pre
  have hown : s.vm.findClass RX0 = some m.cls := findClass_of_methodNamed B.named
  have hlocks := B.notSynchronized
  have inX0 : ∀ w ∈ u_ws RX0 TX0 7, w ∈ wsX0_takes := uin_at 28 rfl
  generalize hAe : wA (txW Y a0 a1 a2 V) = A at hZ hD ⊢
  have hS : va_S A s.heap s.heap [] := va_S.rf
  have hl := lv_entry ([.ref a0, .int x1]) (n := 2) (Nat.le_of_ble_eq_true rfl)
  rw [lg_entry_eq]
  generalize (lg_sl ([.ref a0, .int x1]) ++ List.replicate (2 - (lg_sl ([.ref a0, .int x1])).length) Slot.unset).toArray = ls at hl ⊢
  have hl : lv_has ls 2 [(0, .ref a0), (1, .int x1)] := hl
  rw [mf_X0_takes] at hr
  suffices KK : ∀ (H : Heap) (locs : List Loc), va_P D vwCl (txW Y a0 a1 a2 V) H → va_S A s.heap H locs → W p l e ({ frames := 3, cells := 0, slots := 0, locals := 65 } : Room) s m ([.ref a0, .int x1] : List Value).toArray below meth c H locs 0 0 (MQ below (va_Qi (S := Unit) (fun r _ => r = R.1) (fun _ t => va_P D vwCl (txW Y a0 a1 a2 R.2) t.heap) A) ([.ref a0, .int x1] : List Value).toArray s 0 0 A) (F0 m 0 ls []) from KK _ _ hP hS
  intro H locs hP hS
  refine lv_iload_n hx hb dX0_takes_0 rfl (lv_at hl 1 rfl) ?_
  by_cases c_1 : x1 = (42 : Int32)
  · have hr := hr.trans (if_pos c_1)
    refine lv_lookup (off := 56) (tgt := 57) hx hb dX0_takes_1 (by decide) (by rw [c_1]; rfl) (by decide) ?_
    refine lv_aload_n hx hb dX0_takes_57 rfl (lv_at hl 0 rfl) ?_
    refine va_get (D := D) (ci := 0) (v := .int (v0_place V)) (C := RX0) (T := TX0) (N := 7) hx hb hts inX0 hown hK hP 0 rfl rfl 4 (by decide) (hts (.fieldLink RX0 24 "ShiftMaps$DriveText" "place" "I") (List.mem_of_getElem? (i := 1) rfl)) (fun _ h9 => h9) rfl dX0_takes_58 ?_
    refine lv_iconst (v := (1 : Int32)) hx hb dX0_takes_61 (by decide) ?_
    refine lv_icmp_ne (tgt := 77) hx hb dX0_takes_62 (by decide) (fun c_2 => ?_) (fun c_2 => ?_)
    · have hr := hr.trans (if_neg c_2)
      refine lv_iconst (v := (0 : Int32)) hx hb dX0_takes_77 (by decide) ?_
      have hr := Option.some.inj hr
      subst hr
      exact W.zret (ty := .boolean) hx hb hrt (by decide) (fun t ht hW => ⟨⟨_, (), rfl, rfl, by show va_P D vwCl _ t.heap; rw [ht]; exact hP⟩, hS.F ht⟩) hS.2.2 dX0_takes_78
    · have hr := hr.trans (if_pos c_2)
      refine lv_aload_n hx hb dX0_takes_65 rfl (lv_at hl 0 rfl) ?_
      refine lv_iconst (v := (2 : Int32)) hx hb dX0_takes_66 (by decide) ?_
      refine nmv hr (fun r_3 e_4 hr => ?_)
      refine rwV_iw (As := [.int (2 : Int32)]) (rest := []) ⟨hx, hb, hml, hown, hts⟩ (k_X0_endNumber l D Y a0 a1 a2 V (2 : Int32) r_3 e_4) (cwV 1 hts gX0_takes_X0_endNumber rfl rfl rfl (by decide +kernel) ⟨Nat.le_of_ble_eq_true rfl, Nat.le_of_ble_eq_true rfl⟩) hP hK hN hZ hD hS rfl 0 0 rfl rfl rfl hl.1 rfl (Nat.le_of_ble_eq_true rfl) dX0_takes_67 ⟨Nat.le_refl 0, Nat.le_refl 0⟩ (fun H locs hP hD hS => ?_)
      refine lv_if_eq (tgt := 77) hx hb dX0_takes_70 (by decide) (fun c_5 => ?_) (fun c_5 => ?_)
      · have hr := hr.trans (if_pos c_5)
        refine lv_iconst (v := (0 : Int32)) hx hb dX0_takes_77 (by decide) ?_
        have hr := Option.some.inj hr
        subst hr
        exact W.zret (ty := .boolean) hx hb hrt (by decide) (fun t ht hW => ⟨⟨_, (), rfl, rfl, by show va_P D vwCl _ t.heap; rw [ht]; exact hP⟩, hS.F ht⟩) hS.2.2 dX0_takes_78
      · have hr := hr.trans (if_neg c_5)
        refine lv_iconst (v := (1 : Int32)) hx hb dX0_takes_73 (by decide) ?_
        refine lv_goto (tgt := 78) hx hb dX0_takes_74 (by decide) ?_
        have hr := Option.some.inj hr
        subst hr
        exact W.zret (ty := .boolean) hx hb hrt (by decide) (fun t ht hW => ⟨⟨_, (), rfl, rfl, by show va_P D vwCl _ t.heap; rw [ht]; exact hP⟩, hS.F ht⟩) hS.2.2 dX0_takes_78
  · have hr := hr.trans (if_neg c_1)
    by_cases c_6 : x1 = (44 : Int32)
    · have hr := hr.trans (if_pos c_6)
      refine lv_lookup (off := 35) (tgt := 36) hx hb dX0_takes_1 (by decide) (by rw [c_6]; rfl) (by decide) ?_
      refine lv_aload_n hx hb dX0_takes_36 rfl (lv_at hl 0 rfl) ?_
      refine va_get (D := D) (ci := 0) (v := .int (v0_place V)) (C := RX0) (T := TX0) (N := 7) hx hb hts inX0 hown hK hP 0 rfl rfl 4 (by decide) (hts (.fieldLink RX0 24 "ShiftMaps$DriveText" "place" "I") (List.mem_of_getElem? (i := 1) rfl)) (fun _ h9 => h9) rfl dX0_takes_37 ?_
      refine lv_if_ne (tgt := 55) hx hb dX0_takes_40 (by decide) (fun c_7 => ?_) (fun c_7 => ?_)
      · have hr := hr.trans (if_neg c_7)
        refine lv_iconst (v := (0 : Int32)) hx hb dX0_takes_55 (by decide) ?_
        have hr := Option.some.inj hr
        subst hr
        exact W.zret (ty := .boolean) hx hb hrt (by decide) (fun t ht hW => ⟨⟨_, (), rfl, rfl, by show va_P D vwCl _ t.heap; rw [ht]; exact hP⟩, hS.F ht⟩) hS.2.2 dX0_takes_56
      · have hr := hr.trans (if_pos c_7)
        refine lv_aload_n hx hb dX0_takes_43 rfl (lv_at hl 0 rfl) ?_
        refine lv_iconst (v := (1 : Int32)) hx hb dX0_takes_44 (by decide) ?_
        refine nmv hr (fun r_8 e_9 hr => ?_)
        refine rwV_iw (As := [.int (1 : Int32)]) (rest := []) ⟨hx, hb, hml, hown, hts⟩ (k_X0_endNumber l D Y a0 a1 a2 V (1 : Int32) r_8 e_9) (cwV 1 hts gX0_takes_X0_endNumber rfl rfl rfl (by decide +kernel) ⟨Nat.le_of_ble_eq_true rfl, Nat.le_of_ble_eq_true rfl⟩) hP hK hN hZ hD hS rfl 0 0 rfl rfl rfl hl.1 rfl (Nat.le_of_ble_eq_true rfl) dX0_takes_45 ⟨Nat.le_refl 0, Nat.le_refl 0⟩ (fun H locs hP hD hS => ?_)
        refine lv_if_eq (tgt := 55) hx hb dX0_takes_48 (by decide) (fun c_10 => ?_) (fun c_10 => ?_)
        · have hr := hr.trans (if_pos c_10)
          refine lv_iconst (v := (0 : Int32)) hx hb dX0_takes_55 (by decide) ?_
          have hr := Option.some.inj hr
          subst hr
          exact W.zret (ty := .boolean) hx hb hrt (by decide) (fun t ht hW => ⟨⟨_, (), rfl, rfl, by show va_P D vwCl _ t.heap; rw [ht]; exact hP⟩, hS.F ht⟩) hS.2.2 dX0_takes_56
        · have hr := hr.trans (if_neg c_10)
          refine lv_iconst (v := (1 : Int32)) hx hb dX0_takes_51 (by decide) ?_
          refine lv_goto (tgt := 56) hx hb dX0_takes_52 (by decide) ?_
          have hr := Option.some.inj hr
          subst hr
          exact W.zret (ty := .boolean) hx hb hrt (by decide) (fun t ht hW => ⟨⟨_, (), rfl, rfl, by show va_P D vwCl _ t.heap; rw [ht]; exact hP⟩, hS.F ht⟩) hS.2.2 dX0_takes_56
    · have hr := hr.trans (if_neg c_6)
      by_cases c_11 : x1 = (59 : Int32)
      · have hr := hr.trans (if_pos c_11)
        refine lv_lookup (off := 78) (tgt := 79) hx hb dX0_takes_1 (by decide) (by rw [c_11]; rfl) (by decide) ?_
        refine lv_aload_n hx hb dX0_takes_79 rfl (lv_at hl 0 rfl) ?_
        refine nmv hr (fun r_12 e_13 hr => ?_)
        refine rwV_iw (As := []) (rest := []) ⟨hx, hb, hml, hown, hts⟩ (k_X0_endPart l D Y a0 a1 a2 V r_12 e_13) (cwV 0 hts gX0_takes_X0_endPart rfl rfl rfl (by decide +kernel) ⟨Nat.le_of_ble_eq_true rfl, Nat.le_of_ble_eq_true rfl⟩) hP hK hN hZ hD hS rfl 0 0 rfl rfl rfl hl.1 rfl (Nat.le_of_ble_eq_true rfl) dX0_takes_80 ⟨Nat.le_refl 0, Nat.le_refl 0⟩ (fun H locs hP hD hS => ?_)
        refine gdv hr (fun g_14 hr => ?_)
        have hnz := nar_z g_14
        have hr := Option.some.inj hr
        subst hr
        exact W.zret (ty := .boolean) hx hb hrt hnz (fun t ht hW => ⟨⟨_, (), rfl, rfl, by show va_P D vwCl _ t.heap; rw [ht]; exact hP⟩, hS.F ht⟩) hS.2.2 dX0_takes_83
      · have hr := hr.trans (if_neg c_11)
        refine lv_lookup (off := 83) (tgt := 84) hx hb dX0_takes_1 (by decide) ((lv_osw (k := (42 : Int32)) c_1 rfl).trans ((lv_osw (k := (44 : Int32)) c_6 rfl).trans ((lv_osw (k := (59 : Int32)) c_11 rfl).trans rfl))) (by decide) ?_
        refine lv_iload_n hx hb dX0_takes_84 rfl (lv_at hl 1 rfl) ?_
        refine lv_bipush (v := (48 : Int32)) hx hb dX0_takes_85 (by decide) ?_
        refine lv_icmp_lt (tgt := 111) hx hb dX0_takes_87 (by decide) (fun c_15 => ?_) (fun c_15 => ?_)
        · have hr := hr.trans (if_pos c_15)
          refine lv_iconst (v := (0 : Int32)) hx hb dX0_takes_111 (by decide) ?_
          have hr := Option.some.inj hr
          subst hr
          exact W.zret (ty := .boolean) hx hb hrt (by decide) (fun t ht hW => ⟨⟨_, (), rfl, rfl, by show va_P D vwCl _ t.heap; rw [ht]; exact hP⟩, hS.F ht⟩) hS.2.2 dX0_takes_112
        · have hr := hr.trans (if_neg c_15)
          refine lv_iload_n hx hb dX0_takes_90 rfl (lv_at hl 1 rfl) ?_
          refine lv_bipush (v := (57 : Int32)) hx hb dX0_takes_91 (by decide) ?_
          refine lv_icmp_gt (tgt := 111) hx hb dX0_takes_93 (by decide) (fun c_16 => ?_) (fun c_16 => ?_)
          · have hr := hr.trans (if_pos c_16)
            refine lv_iconst (v := (0 : Int32)) hx hb dX0_takes_111 (by decide) ?_
            have hr := Option.some.inj hr
            subst hr
            exact W.zret (ty := .boolean) hx hb hrt (by decide) (fun t ht hW => ⟨⟨_, (), rfl, rfl, by show va_P D vwCl _ t.heap; rw [ht]; exact hP⟩, hS.F ht⟩) hS.2.2 dX0_takes_112
          · have hr := hr.trans (if_neg c_16)
            refine lv_aload_n hx hb dX0_takes_96 rfl (lv_at hl 0 rfl) ?_
            refine lv_iload_n hx hb dX0_takes_97 rfl (lv_at hl 1 rfl) ?_
            refine lv_bipush (v := (48 : Int32)) hx hb dX0_takes_98 (by decide) ?_
            refine lv_isub hx hb dX0_takes_100 ?_
            refine nmv hr (fun r_17 e_18 hr => ?_)
            refine rwV_iw (As := [.int (x1 - (48 : Int32))]) (rest := []) ⟨hx, hb, hml, hown, hts⟩ (k_X0_takesDigit l D Y a0 a1 a2 V (x1 - (48 : Int32)) r_17 e_18) (cwV 1 hts gX0_takes_X0_takesDigit rfl rfl rfl (by decide +kernel) ⟨Nat.le_of_ble_eq_true rfl, Nat.le_of_ble_eq_true rfl⟩) hP hK hN hZ hD hS rfl 0 0 rfl rfl rfl hl.1 rfl (Nat.le_of_ble_eq_true rfl) dX0_takes_101 ⟨Nat.le_refl 0, Nat.le_refl 0⟩ (fun H locs hP hD hS => ?_)
            refine lv_if_eq (tgt := 111) hx hb dX0_takes_104 (by decide) (fun c_19 => ?_) (fun c_19 => ?_)
            · have hr := hr.trans (if_pos c_19)
              refine lv_iconst (v := (0 : Int32)) hx hb dX0_takes_111 (by decide) ?_
              have hr := Option.some.inj hr
              subst hr
              exact W.zret (ty := .boolean) hx hb hrt (by decide) (fun t ht hW => ⟨⟨_, (), rfl, rfl, by show va_P D vwCl _ t.heap; rw [ht]; exact hP⟩, hS.F ht⟩) hS.2.2 dX0_takes_112
            · have hr := hr.trans (if_neg c_19)
              refine lv_iconst (v := (1 : Int32)) hx hb dX0_takes_107 (by decide) ?_
              refine lv_goto (tgt := 112) hx hb dX0_takes_108 (by decide) ?_
              have hr := Option.some.inj hr
              subst hr
              exact W.zret (ty := .boolean) hx hb hrt (by decide) (fun t ht hW => ⟨⟨_, (), rfl, rfl, by show va_P D vwCl _ t.heap; rw [ht]; exact hP⟩, hS.F ht⟩) hS.2.2 dX0_takes_112

set_option maxHeartbeats 4000000 in
set_option maxRecDepth 100000 in
theorem k_X0_read (l : Launch) (D : va_G) (Y : Nat → ClassId) (a0 a1 a2 : Nat) (V : TxV) (R : Int32 × TxV) (hr : some R = mf_X0_read V) : Met l yX0_read wsX0_read ({ frames := 4, cells := 0, slots := 0, locals := 86 } : Room) (va_Pc [.ref a0] (PW D Y (txW Y a0 a1 a2 V))) (va_Qi (S := Unit) (fun r _ => r = R.1) (fun _ t => va_P D vwCl (txW Y a0 a1 a2 R.2) t.heap) (wA (txW Y a0 a1 a2 V))) 0 0 (wA (txW Y a0 a1 a2 V)) := by
  refine Met.ofW (cc := cX0_read) (maxL := 2) (ret := (some .int)) (by decide) rfl ?_
  intro p e s m args below meth c s₁ B hml hv
  obtain ⟨rfl, hP, hK, hN, hZ, hD⟩ := hv
  have hx := B.exec
  have hb := B.bytes
  have hrt := B.returns
  have hts := atoms_spec (ws := wsX0_read) B.pre
  have hown : s.vm.findClass RX0 = some m.cls := findClass_of_methodNamed B.named
  have hlocks := B.notSynchronized
  have inX0 : ∀ w ∈ u_ws RX0 TX0 7, w ∈ wsX0_read := uin_at 34 rfl
  generalize hAe : wA (txW Y a0 a1 a2 V) = A at hZ hD ⊢
  have hS : va_S A s.heap s.heap [] := va_S.rf
  have hl := lv_entry ([.ref a0]) (n := 2) (Nat.le_of_ble_eq_true rfl)
  rw [lg_entry_eq]
  generalize (lg_sl ([.ref a0]) ++ List.replicate (2 - (lg_sl ([.ref a0])).length) Slot.unset).toArray = ls at hl ⊢
  have hl : lv_has ls 2 [(0, .ref a0)] := hl
  have B50 : ∀ (W0 : TxV) (H : Heap) (locs : List Loc) (ls : Array Slot), some R = mf_X0_read_B50 W0 → va_P D vwCl (txW Y a0 a1 a2 W0) H → va_D A (txW Y a0 a1 a2 W0) → va_S A s.heap H locs → lv_has ls 2 [(0, .ref a0)] → W p l e ({ frames := 4, cells := 0, slots := 0, locals := 86 } : Room) s m ([.ref a0] : List Value).toArray below meth c H locs 0 0 (MQ below (va_Qi (S := Unit) (fun r _ => r = R.1) (fun _ t => va_P D vwCl (txW Y a0 a1 a2 R.2) t.heap) A) ([.ref a0] : List Value).toArray s 0 0 A) (F0 m 50 ls []) := by
    intro W0 H locs ls hr hP hD hS hl
    rw [mf_X0_read_B50] at hr
    refine lv_aload_n hx hb dX0_read_50 rfl (lv_at hl 0 rfl) ?_
    refine nmv hr (fun r_8 e_9 hr => ?_)
    refine rwV_iw (As := []) (rest := []) ⟨hx, hb, hml, hown, hts⟩ (k_X0_endPart l D Y a0 a1 a2 W0 r_8 e_9) (cwV 0 hts gX0_read_X0_endPart rfl rfl rfl (by decide +kernel) ⟨Nat.le_of_ble_eq_true rfl, Nat.le_of_ble_eq_true rfl⟩) hP hK hN hZ hD hS rfl 0 0 rfl rfl rfl hl.1 rfl (Nat.le_of_ble_eq_true rfl) dX0_read_51 ⟨Nat.le_refl 0, Nat.le_refl 0⟩ (fun H locs hP hD hS => ?_)
    refine lv_if_eq (tgt := 61) hx hb dX0_read_54 (by decide) (fun c_10 => ?_) (fun c_10 => ?_)
    · have hr := hr.trans (if_pos c_10)
      refine lv_aload_n hx hb dX0_read_61 rfl (lv_at hl 0 rfl) ?_
      refine va_get (D := D) (ci := 0) (v := .int (v0_length r_8.2)) (C := RX0) (T := TX0) (N := 7) hx hb hts inX0 hown hK hP 0 rfl rfl 1 (by decide) (hts (.fieldLink RX0 13 "ShiftMaps$DriveText" "length" "I") (List.mem_of_getElem? (i := 2) rfl)) (fun _ h9 => h9) rfl dX0_read_62 ?_
      have hr := Option.some.inj hr
      subst hr
      exact W.iret hx hb hrt (fun t ht hW => ⟨⟨_, (), rfl, rfl, by show va_P D vwCl _ t.heap; rw [ht]; exact hP⟩, hS.F ht⟩) hS.2.2 dX0_read_65
    · have hr := hr.trans (if_neg c_10)
      refine lv_iconst (v := (-1 : Int32)) hx hb dX0_read_57 (by decide) ?_
      refine lv_goto (tgt := 65) hx hb dX0_read_58 (by decide) ?_
      have hr := Option.some.inj hr
      subst hr
      exact W.iret hx hb hrt (fun t ht hW => ⟨⟨_, (), rfl, rfl, by show va_P D vwCl _ t.heap; rw [ht]; exact hP⟩, hS.F ht⟩) hS.2.2 dX0_read_65
  have B12 : ∀ (fu : Nat), ∀ (W0 : TxV) (z1 : Int32) (H : Heap) (locs : List Loc) (ls : Array Slot), some R = mf_X0_read_B12 fu W0 z1 → va_P D vwCl (txW Y a0 a1 a2 W0) H → va_D A (txW Y a0 a1 a2 W0) → va_S A s.heap H locs → lv_has ls 2 [(0, .ref a0), (1, .int z1)] → W p l e ({ frames := 4, cells := 0, slots := 0, locals := 86 } : Room) s m ([.ref a0] : List Value).toArray below meth c H locs 0 0 (MQ below (va_Qi (S := Unit) (fun r _ => r = R.1) (fun _ t => va_P D vwCl (txW Y a0 a1 a2 R.2) t.heap) A) ([.ref a0] : List Value).toArray s 0 0 A) (F0 m 12 ls []) := by
    intro fu
    induction fu with
    | zero =>
      intro W0 z1 H locs ls hr hP hD hS hl
      rw [mf_X0_read_B12] at hr
      cases hr
    | succ fu ih =>
      intro W0 z1 H locs ls hr hP hD hS hl
      rw [mf_X0_read_B12] at hr
      refine lv_iload_n hx hb dX0_read_12 rfl (lv_at hl 1 rfl) ?_
      refine lv_aload_n hx hb dX0_read_13 rfl (lv_at hl 0 rfl) ?_
      refine va_get (D := D) (ci := 0) (v := .int (v0_length W0)) (C := RX0) (T := TX0) (N := 7) hx hb hts inX0 hown hK hP 0 rfl rfl 1 (by decide) (hts (.fieldLink RX0 13 "ShiftMaps$DriveText" "length" "I") (List.mem_of_getElem? (i := 2) rfl)) (fun _ h9 => h9) rfl dX0_read_14 ?_
      refine lv_icmp_ge (tgt := 50) hx hb dX0_read_17 (by decide) (fun c_7 => ?_) (fun c_7 => ?_)
      · have hr := hr.trans (if_pos c_7)
        exact B50 W0 _ _ _ hr hP hD hS (lv_sub hl [0] rfl)
      · have hr := hr.trans (if_neg c_7)
        refine lv_iload_n hx hb dX0_read_20 rfl (lv_at hl 1 rfl) ?_
        refine lv_aload_n hx hb dX0_read_21 rfl (lv_at hl 0 rfl) ?_
        refine va_get (D := D) (ci := 0) (v := .ref a1) (C := RX0) (T := TX0) (N := 7) hx hb hts inX0 hown hK hP 0 rfl rfl 0 (by decide) (hts (.fieldLink RX0 9 "ShiftMaps$DriveText" "characters" "[C") (List.mem_of_getElem? (i := 3) rfl)) (fun _ h9 => h9) rfl dX0_read_22 ?_
        refine va_alen (D := D) (v := (60 : Int32)) hx hb hK hP 1 0 rfl rfl rfl dX0_read_25 ?_
        refine lv_icmp_ge (tgt := 50) hx hb dX0_read_26 (by decide) (fun c_11 => ?_) (fun c_11 => ?_)
        · have hr := hr.trans (if_pos c_11)
          exact B50 W0 _ _ _ hr hP hD hS (lv_sub hl [0] rfl)
        · have hr := hr.trans (if_neg c_11)
          refine lv_aload_n hx hb dX0_read_29 rfl (lv_at hl 0 rfl) ?_
          refine lv_aload_n hx hb dX0_read_30 rfl (lv_at hl 0 rfl) ?_
          refine va_get (D := D) (ci := 0) (v := .ref a1) (C := RX0) (T := TX0) (N := 7) hx hb hts inX0 hown hK hP 0 rfl rfl 0 (by decide) (hts (.fieldLink RX0 9 "ShiftMaps$DriveText" "characters" "[C") (List.mem_of_getElem? (i := 3) rfl)) (fun _ h9 => h9) rfl dX0_read_31 ?_
          refine lv_iload_n hx hb dX0_read_34 rfl (lv_at hl 1 rfl) ?_
          refine gdv hr (fun g_12 hr => ?_)
          refine va_cald (D := D) hx hb hK hP 1 0 rfl rfl (in_of (y := (60 : Int32)) rfl (by decide) g_12.1 g_12.2) dX0_read_35 ?_
          refine bdv hr (fun r_13 e_14 hr => ?_)
          refine rwV_iw (As := [.int ((v0_characters W0) z1.toNatClampNeg)]) (rest := []) ⟨hx, hb, hml, hown, hts⟩ (k_X0_takes l D Y a0 a1 a2 W0 ((v0_characters W0) z1.toNatClampNeg) r_13 e_14) (cwV 1 hts gX0_read_X0_takes rfl rfl rfl (by decide +kernel) ⟨Nat.le_of_ble_eq_true rfl, Nat.le_of_ble_eq_true rfl⟩) hP hK hN hZ hD hS rfl 0 0 rfl rfl rfl hl.1 rfl (Nat.le_of_ble_eq_true rfl) dX0_read_36 ⟨Nat.le_refl 0, Nat.le_refl 0⟩ (fun H locs hP hD hS => ?_)
          refine lv_if_ne (tgt := 44) hx hb dX0_read_39 (by decide) (fun c_15 => ?_) (fun c_15 => ?_)
          · have hr := hr.trans (if_neg c_15)
            refine lv_iinc (v := (z1 + (1 : Int32))) (lv' := [(1, .int (z1 + (1 : Int32))), (0, .ref a0)]) hx hb dX0_read_44 hl (k := 1) rfl rfl (by decide) rfl (fun ls hl => ?_)
            refine lv_goto (tgt := 12) hx hb dX0_read_47 (by decide) ?_
            exact ih r_13.2 (z1 + (1 : Int32)) _ _ _ hr hP hD hS (lv_sub hl [1, 0] rfl)
          · have hr := hr.trans (if_pos c_15)
            refine lv_iload_n hx hb dX0_read_42 rfl (lv_at hl 1 rfl) ?_
            have hr := Option.some.inj hr
            subst hr
            exact W.iret hx hb hrt (fun t ht hW => ⟨⟨_, (), rfl, rfl, by show va_P D vwCl _ t.heap; rw [ht]; exact hP⟩, hS.F ht⟩) hS.2.2 dX0_read_43
  rw [mf_X0_read] at hr
  suffices KK : ∀ (H : Heap) (locs : List Loc), va_P D vwCl (txW Y a0 a1 a2 V) H → va_S A s.heap H locs → W p l e ({ frames := 4, cells := 0, slots := 0, locals := 86 } : Room) s m ([.ref a0] : List Value).toArray below meth c H locs 0 0 (MQ below (va_Qi (S := Unit) (fun r _ => r = R.1) (fun _ t => va_P D vwCl (txW Y a0 a1 a2 R.2) t.heap) A) ([.ref a0] : List Value).toArray s 0 0 A) (F0 m 0 ls []) from KK _ _ hP hS
  intro H locs hP hS
  refine lv_aload_n hx hb dX0_read_0 rfl (lv_at hl 0 rfl) ?_
  refine lv_iconst (v := (0 : Int32)) hx hb dX0_read_1 (by decide) ?_
  refine va_put (D := D) (ci := 0) (v := .int (0 : Int32)) (ty := .int) (C := RX0) (T := TX0) (N := 7) hx hb hts inX0 tyX0 tyX0_ok nmX0 hown hK hP hD hS 0 rfl rfl 3 (by decide) (hts (.fieldLink RX0 21 "ShiftMaps$DriveText" "parts" "I") (List.mem_of_getElem? (i := 1) rfl)) (fun _ h9 => h9) rfl (by decide +kernel) rfl rfl (Nat.le_of_ble_eq_true rfl) dX0_read_2 (fun H locs hP hD hS => ?_)
  refine nmv hr (fun V_3 e_4 hr => ?_)
  have hP : va_P D vwCl (txW Y a0 a1 a2 V_3) H := by rw [e_4]; exact hP
  have hD : va_D A (txW Y a0 a1 a2 V_3) := va_D_adr hD rfl
  refine lv_aload_n hx hb dX0_read_5 rfl (lv_at hl 0 rfl) ?_
  refine lv_iconst (v := (0 : Int32)) hx hb dX0_read_6 (by decide) ?_
  refine nmv hr (fun r_5 e_6 hr => ?_)
  refine rwV_vw (As := [.int (0 : Int32)]) (rest := []) ⟨hx, hb, hml, hown, hts⟩ (k_X0_expectNumber l D Y a0 a1 a2 V_3 (0 : Int32) r_5 e_6) (cwV 1 hts gX0_read_X0_expectNumber rfl rfl rfl (by decide +kernel) ⟨Nat.le_of_ble_eq_true rfl, Nat.le_of_ble_eq_true rfl⟩) hP hK hN hZ hD hS rfl 0 0 rfl rfl rfl hl.1 rfl (Nat.le_of_ble_eq_true rfl) dX0_read_7 ⟨Nat.le_refl 0, Nat.le_refl 0⟩ (fun H locs hP hD hS => ?_)
  refine lv_iconst (v := (0 : Int32)) hx hb dX0_read_10 (by decide) ?_
  refine lv_istore_n (lv' := [(1, .int (0 : Int32)), (0, .ref a0)]) hx hb dX0_read_11 rfl hl (by decide) rfl (fun ls hl => ?_)
  exact B12 70 r_5 (0 : Int32) _ _ _ hr hP hD hS (lv_sub hl [1, 0] rfl)
