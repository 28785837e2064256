set_option maxHeartbeats 4000000 in
set_option maxRecDepth 100000 in
theorem k_X3_has (l : Launch) (D : va_G) (Y : Nat → ClassId) (x0 : Int32) (x1 : Int32) (R : Int32) (hr : R = mf_X3_has x0 x1) : Met l yX3_has wsX3_has ({ frames := 0, cells := 0, slots := 0, locals := 0 } : Room) (va_Pc [.int x0, .int x1] (PR D Y [])) (vp_Si (fun x => x = R)) 0 0 (fun _ => False) := by
  refine Met.ofW (cc := cX3_has) (maxL := 2) (ret := (some .boolean)) (by decide) rfl ?_
  intro p e s m args below meth c s₁ B hml hv
  obtain ⟨rfl, hP, hK, hN, hZ⟩ := hv
  have hx := B.exec
  have hb := B.bytes
  have hrt := B.returns
  have hts := atoms_spec (ws := wsX3_has) B.pre
  have hown : s.vm.findClass RX3 = some m.cls := findClass_of_methodNamed B.named
  have hlocks := B.notSynchronized
  have hS : va_S (fun _ => False) s.heap s.heap [] := va_S.rf
  have hl := lv_entry ([.int x0, .int x1]) (n := 2) (Nat.le_of_ble_eq_true rfl)
  rw [lg_entry_eq]
  generalize (lg_sl ([.int x0, .int x1]) ++ List.replicate (2 - (lg_sl ([.int x0, .int x1])).length) Slot.unset).toArray = ls at hl ⊢
  have hl : lv_has ls 2 [(0, .int x0), (1, .int x1)] := hl
  rw [mf_X3_has] at hr
  refine lv_iload_n hx hb dX3_has_0 rfl (lv_at hl 1 rfl) ?_
  refine lv_if_lt (tgt := 14) hx hb dX3_has_1 (by decide) (fun c_1 => ?_) (fun c_1 => ?_)
  · have hr := hr.trans (if_pos c_1)
    refine lv_iconst (v := (0 : Int32)) hx hb dX3_has_14 (by decide) ?_
    subst hr
    exact W.zret (ty := .boolean) hx hb hrt (by decide) (fun t ht hW => ⟨_, rfl, rfl, ht⟩) (fun q hq => absurd hq List.not_mem_nil) dX3_has_15
  · have hr := hr.trans (if_neg c_1)
    refine lv_iload_n hx hb dX3_has_4 rfl (lv_at hl 1 rfl) ?_
    refine lv_iconst (v := (3 : Int32)) hx hb dX3_has_5 (by decide) ?_
    refine lv_icmp_gt (tgt := 14) hx hb dX3_has_6 (by decide) (fun c_2 => ?_) (fun c_2 => ?_)
    · have hr := hr.trans (if_pos c_2)
      refine lv_iconst (v := (0 : Int32)) hx hb dX3_has_14 (by decide) ?_
      subst hr
      exact W.zret (ty := .boolean) hx hb hrt (by decide) (fun t ht hW => ⟨_, rfl, rfl, ht⟩) (fun q hq => absurd hq List.not_mem_nil) dX3_has_15
    · have hr := hr.trans (if_neg c_2)
      refine lv_iload_n hx hb dX3_has_9 rfl (lv_at hl 0 rfl) ?_
      refine lv_iconst (v := (1 : Int32)) hx hb dX3_has_10 (by decide) ?_
      refine lv_icmp_ge (tgt := 16) hx hb dX3_has_11 (by decide) (fun c_3 => ?_) (fun c_3 => ?_)
      · have hr := hr.trans (if_pos c_3)
        refine lv_iload_n hx hb dX3_has_16 rfl (lv_at hl 1 rfl) ?_
        refine lv_iconst (v := (3 : Int32)) hx hb dX3_has_17 (by decide) ?_
        refine lv_icmp_ne (tgt := 34) hx hb dX3_has_18 (by decide) (fun c_4 => ?_) (fun c_4 => ?_)
        · have hr := hr.trans (if_neg c_4)
          refine lv_iload_n hx hb dX3_has_34 rfl (lv_at hl 0 rfl) ?_
          refine lv_iconst (v := (5 : Int32)) hx hb dX3_has_35 (by decide) ?_
          refine lv_icmp_ge (tgt := 43) hx hb dX3_has_36 (by decide) (fun c_5 => ?_) (fun c_5 => ?_)
          · have hr := hr.trans (if_pos c_5)
            refine lv_iconst (v := (0 : Int32)) hx hb dX3_has_43 (by decide) ?_
            subst hr
            exact W.zret (ty := .boolean) hx hb hrt (by decide) (fun t ht hW => ⟨_, rfl, rfl, ht⟩) (fun q hq => absurd hq List.not_mem_nil) dX3_has_44
          · have hr := hr.trans (if_neg c_5)
            refine lv_iconst (v := (1 : Int32)) hx hb dX3_has_39 (by decide) ?_
            refine lv_goto (tgt := 44) hx hb dX3_has_40 (by decide) ?_
            subst hr
            exact W.zret (ty := .boolean) hx hb hrt (by decide) (fun t ht hW => ⟨_, rfl, rfl, ht⟩) (fun q hq => absurd hq List.not_mem_nil) dX3_has_44
        · have hr := hr.trans (if_pos c_4)
          refine lv_iload_n hx hb dX3_has_21 rfl (lv_at hl 0 rfl) ?_
          refine lv_iconst (v := (5 : Int32)) hx hb dX3_has_22 (by decide) ?_
          refine lv_icmp_gt (tgt := 30) hx hb dX3_has_23 (by decide) (fun c_6 => ?_) (fun c_6 => ?_)
          · have hr := hr.trans (if_pos c_6)
            refine lv_iconst (v := (0 : Int32)) hx hb dX3_has_30 (by decide) ?_
            refine lv_goto (tgt := 44) hx hb dX3_has_31 (by decide) ?_
            subst hr
            exact W.zret (ty := .boolean) hx hb hrt (by decide) (fun t ht hW => ⟨_, rfl, rfl, ht⟩) (fun q hq => absurd hq List.not_mem_nil) dX3_has_44
          · have hr := hr.trans (if_neg c_6)
            refine lv_iconst (v := (1 : Int32)) hx hb dX3_has_26 (by decide) ?_
            refine lv_goto (tgt := 44) hx hb dX3_has_27 (by decide) ?_
            subst hr
            exact W.zret (ty := .boolean) hx hb hrt (by decide) (fun t ht hW => ⟨_, rfl, rfl, ht⟩) (fun q hq => absurd hq List.not_mem_nil) dX3_has_44
      · have hr := hr.trans (if_neg c_3)
        refine lv_iconst (v := (0 : Int32)) hx hb dX3_has_14 (by decide) ?_
        subst hr
        exact W.zret (ty := .boolean) hx hb hrt (by decide) (fun t ht hW => ⟨_, rfl, rfl, ht⟩) (fun q hq => absurd hq List.not_mem_nil) dX3_has_15

set_option maxHeartbeats 4000000 in
set_option maxRecDepth 100000 in
theorem k_X3_speed (l : Launch) (D : va_G) (Y : Nat → ClassId) (a0 a1 : Nat) (V : (Nat → UInt32)) (x1 : Int32) (x2 : Int32) (R : UInt32) (hr : R = mf_X3_speed V x1 x2) : Met l yX3_speed wsX3_speed ({ frames := 0, cells := 0, slots := 0, locals := 0 } : Room) (va_Pc [.ref a0, .int x1, .int x2] (PR D Y (mpW Y a0 a1 V))) (vp_Sf (fun x => x = R)) 0 0 (fun _ => False) := by
  refine Met.ofW (cc := cX3_speed) (maxL := 4) (ret := (some .float)) (by decide) rfl ?_
  intro p e s m args below meth c s₁ B hml hv
  obtain ⟨rfl, hP, hK, hN, hZ⟩ := hv
  have hx := B.exec
  have hb := B.bytes
  have hrt := B.returns
  have hts := atoms_spec (ws := wsX3_speed) B.pre
  have hown : s.vm.findClass RX3 = some m.cls := findClass_of_methodNamed B.named
  have hlocks := B.notSynchronized
  have inX3 : ∀ w ∈ u_ws RX3 TX3 1, w ∈ wsX3_speed := uin_at 2 rfl
  have hS : va_S (fun _ => False) s.heap s.heap [] := va_S.rf
  have hl := lv_entry ([.ref a0, .int x1, .int x2]) (n := 4) (Nat.le_of_ble_eq_true rfl)
  rw [lg_entry_eq]
  generalize (lg_sl ([.ref a0, .int x1, .int x2]) ++ List.replicate (4 - (lg_sl ([.ref a0, .int x1, .int x2])).length) Slot.unset).toArray = ls at hl ⊢
  have hl : lv_has ls 4 [(0, .ref a0), (1, .int x1), (2, .int x2)] := hl
  rw [mf_X3_speed] at hr
  refine lv_iload_n hx hb dX3_speed_0 rfl (lv_at hl 2 rfl) ?_
  refine lv_iconst (v := (5 : Int32)) hx hb dX3_speed_1 (by decide) ?_
  refine lv_imul hx hb dX3_speed_2 ?_
  refine lv_iload_n hx hb dX3_speed_3 rfl (lv_at hl 1 rfl) ?_
  refine lv_iadd hx hb dX3_speed_4 ?_
  refine lv_iconst (v := (1 : Int32)) hx hb dX3_speed_5 (by decide) ?_
  refine lv_isub hx hb dX3_speed_6 ?_
  refine lv_istore_n (lv' := [(3, .int (((x2 * (5 : Int32)) + x1) - (1 : Int32))), (0, .ref a0), (1, .int x1), (2, .int x2)]) hx hb dX3_speed_7 rfl hl (by decide) rfl (fun ls hl => ?_)
  refine lv_iload_n hx hb dX3_speed_8 rfl (lv_at hl 0 rfl) ?_
  refine lv_if_lt (tgt := 30) hx hb dX3_speed_9 (by decide) (fun c_1 => ?_) (fun c_1 => ?_)
  · have hr := hr.trans (if_pos c_1)
    refine lv_fconst0 hx hb dX3_speed_30 ?_
    subst hr
    exact W.fret hx hb hrt (fun t ht hW => ⟨_, rfl, rfl, ht⟩) (fun q hq => absurd hq List.not_mem_nil) dX3_speed_31
  · have hr := hr.trans (if_neg c_1)
    refine lv_iload_n hx hb dX3_speed_12 rfl (lv_at hl 0 rfl) ?_
    refine lv_aload_n hx hb dX3_speed_13 rfl (lv_at hl 1 rfl) ?_
    refine va_get (D := D) (ci := 3) (v := .ref a1) (C := RX3) (T := TX3) (N := 1) hx hb hts inX3 hown hK hP 0 rfl rfl 0 (by decide) (hts (.fieldLink RX3 15 "ShiftMaps$Maps" "speeds" "[F") (List.mem_of_getElem? (i := 1) rfl)) (fun _ h9 => h9) rfl dX3_speed_14 ?_
    refine va_alen (D := D) (v := (20 : Int32)) hx hb hK hP 1 1 rfl rfl rfl dX3_speed_17 ?_
    refine lv_icmp_ge (tgt := 30) hx hb dX3_speed_18 (by decide) (fun c_2 => ?_) (fun c_2 => ?_)
    · have hr := hr.trans (if_pos c_2)
      refine lv_fconst0 hx hb dX3_speed_30 ?_
      subst hr
      exact W.fret hx hb hrt (fun t ht hW => ⟨_, rfl, rfl, ht⟩) (fun q hq => absurd hq List.not_mem_nil) dX3_speed_31
    · have hr := hr.trans (if_neg c_2)
      refine lv_aload_n hx hb dX3_speed_21 rfl (lv_at hl 1 rfl) ?_
      refine va_get (D := D) (ci := 3) (v := .ref a1) (C := RX3) (T := TX3) (N := 1) hx hb hts inX3 hown hK hP 0 rfl rfl 0 (by decide) (hts (.fieldLink RX3 15 "ShiftMaps$Maps" "speeds" "[F") (List.mem_of_getElem? (i := 1) rfl)) (fun _ h9 => h9) rfl dX3_speed_22 ?_
      refine lv_iload_n hx hb dX3_speed_25 rfl (lv_at hl 0 rfl) ?_
      refine va_fald (D := D) hx hb hK hP 1 1 rfl rfl (in_of (y := (20 : Int32)) rfl (by decide) c_1 c_2) dX3_speed_26 ?_
      refine lv_goto (tgt := 31) hx hb dX3_speed_27 (by decide) ?_
      subst hr
      exact W.fret hx hb hrt (fun t ht hW => ⟨_, rfl, rfl, ht⟩) (fun q hq => absurd hq List.not_mem_nil) dX3_speed_31

set_option maxHeartbeats 4000000 in
set_option maxRecDepth 100000 in
theorem k_X3_put (l : Launch) (D : va_G) (Y : Nat → ClassId) (a0 a1 : Nat) (V : (Nat → UInt32)) (x1 : Int32) (x2 : Int32) (x3 : UInt32) (R : (Nat → UInt32)) (hr : some R = mf_X3_put V x1 x2 x3) : Met l yX3_put wsX3_put ({ frames := 1, cells := 0, slots := 0, locals := 21 } : Room) (va_Pc [.ref a0, .int x1, .int x2, .float x3] (PW D Y (mpW Y a0 a1 V))) (va_Qv (S := Unit) (fun _ => True) (fun _ t => va_P D vwCl (mpW Y a0 a1 R) t.heap) (wA (mpW Y a0 a1 V))) 0 0 (wA (mpW Y a0 a1 V)) := by
  refine Met.ofW (cc := cX3_put) (maxL := 4) (ret := none) (by decide) rfl ?_
  intro p e s m args below meth c s₁ B hml hv
  obtain ⟨rfl, hP, hK, hN, hZ, hD⟩ := hv
  have hx := B.exec
  have hb := B.bytes
  have hrt := B.returns
  have hts := atoms_spec (ws := wsX3_put) B.pre
  have hown : s.vm.findClass RX3 = some m.cls := findClass_of_methodNamed B.named
  have hlocks := B.notSynchronized
  have inX3 : ∀ w ∈ u_ws RX3 TX3 1, w ∈ wsX3_put := uin_at 6 rfl
  generalize hAe : wA (mpW Y a0 a1 V) = A at hZ hD ⊢
  have hS : va_S A s.heap s.heap [] := va_S.rf
  have hl := lv_entry ([.ref a0, .int x1, .int x2, .float x3]) (n := 4) (Nat.le_of_ble_eq_true rfl)
  rw [lg_entry_eq]
  generalize (lg_sl ([.ref a0, .int x1, .int x2, .float x3]) ++ List.replicate (4 - (lg_sl ([.ref a0, .int x1, .int x2, .float x3])).length) Slot.unset).toArray = ls at hl ⊢
  have hl : lv_has ls 4 [(0, .ref a0), (1, .int x1), (2, .int x2), (3, .float x3)] := hl
  rw [mf_X3_put] at hr
  suffices KK : ∀ (H : Heap) (locs : List Loc), va_P D vwCl (mpW Y a0 a1 V) H → va_S A s.heap H locs → W p l e ({ frames := 1, cells := 0, slots := 0, locals := 21 } : Room) s m ([.ref a0, .int x1, .int x2, .float x3] : List Value).toArray below meth c H locs 0 0 (MQ below (va_Qv (S := Unit) (fun _ => True) (fun _ t => va_P D vwCl (mpW Y a0 a1 R) t.heap) A) ([.ref a0, .int x1, .int x2, .float x3] : List Value).toArray s 0 0 A) (F0 m 0 ls []) from KK _ _ hP hS
  intro H locs hP hS
  refine lv_iload_n hx hb dX3_put_0 rfl (lv_at hl 1 rfl) ?_
  refine lv_iload_n hx hb dX3_put_1 rfl (lv_at hl 2 rfl) ?_
  refine nmv hr (fun r_1 e_2 hr => ?_)
  refine roS_i (As := [.int x1, .int x2]) (rest := []) ⟨hx, hb, hml, hown, hts⟩ (k_X3_has l D Y  x1 x2 r_1 e_2) (va_cwS 2 hts gX3_put_X3_has rfl rfl rfl (by decide +kernel) ⟨Nat.le_of_ble_eq_true rfl, Nat.le_of_ble_eq_true rfl⟩) (hP.sub (ws' := []) [] rfl) hK hN (hZ.at hS).F rfl hl.1 rfl (Nat.le_of_ble_eq_true rfl) dX3_put_2 ⟨Nat.le_refl 0, Nat.le_refl 0⟩ ?_
  refine lv_if_eq (tgt := 21) hx hb dX3_put_5 (by decide) (fun c_3 => ?_) (fun c_3 => ?_)
  · have hr := hr.trans (if_pos c_3)
    have hr := Option.some.inj hr
    subst hr
    exact W.vret hx hb hrt (fun t ht hW => ⟨⟨(), rfl, trivial, by show va_P D vwCl _ t.heap; rw [ht]; exact hP⟩, hS.F ht⟩) hS.2.2 dX3_put_21
  · have hr := hr.trans (if_neg c_3)
    refine lv_aload_n hx hb dX3_put_8 rfl (lv_at hl 0 rfl) ?_
    refine va_get (D := D) (ci := 3) (v := .ref a1) (C := RX3) (T := TX3) (N := 1) hx hb hts inX3 hown hK hP 0 rfl rfl 0 (by decide) (hts (.fieldLink RX3 15 "ShiftMaps$Maps" "speeds" "[F") (List.mem_of_getElem? (i := 1) rfl)) (fun _ h9 => h9) rfl dX3_put_9 ?_
    refine lv_iload_n hx hb dX3_put_12 rfl (lv_at hl 2 rfl) ?_
    refine lv_iconst (v := (5 : Int32)) hx hb dX3_put_13 (by decide) ?_
    refine lv_imul hx hb dX3_put_14 ?_
    refine lv_iload_n hx hb dX3_put_15 rfl (lv_at hl 1 rfl) ?_
    refine lv_iadd hx hb dX3_put_16 ?_
    refine lv_iconst (v := (1 : Int32)) hx hb dX3_put_17 (by decide) ?_
    refine lv_isub hx hb dX3_put_18 ?_
    refine lv_fload_n hx hb dX3_put_19 rfl (lv_at hl 3 rfl) ?_
    refine gdv hr (fun g_4 hr => ?_)
    refine va_fast (D := D) hx hb hK hP hD hS 1 1 rfl rfl (in_of (y := (20 : Int32)) rfl (by decide) g_4.1 g_4.2) dX3_put_20 (fun H locs hP hD hS => ?_)
    refine nmv hr (fun V_5 e_6 hr => ?_)
    have hP : va_P D vwCl (mpW Y a0 a1 V_5) H := by rw [e_6]; exact hP
    have hD : va_D A (mpW Y a0 a1 V_5) := va_D_adr hD rfl
    have hr := Option.some.inj hr
    subst hr
    exact W.vret hx hb hrt (fun t ht hW => ⟨⟨(), rfl, trivial, by show va_P D vwCl _ t.heap; rw [ht]; exact hP⟩, hS.F ht⟩) hS.2.2 dX3_put_21

set_option maxHeartbeats 4000000 in
set_option maxRecDepth 100000 in
theorem k_X3_upFrom (l : Launch) (D : va_G) (Y : Nat → ClassId) (a0 a1 : Nat) (V : (Nat → UInt32)) (x1 : Int32) (x2 : UInt32) (R : UInt32) (hr : some R = mf_X3_upFrom V x1 x2) : Met l yX3_upFrom wsX3_upFrom ({ frames := 1, cells := 0, slots := 0, locals := 23 } : Room) (va_Pc [.ref a0, .int x1, .float x2] (PR D Y (mpW Y a0 a1 V))) (vp_Sf (fun x => x = R)) 0 0 (fun _ => False) := by
  refine Met.ofW (cc := cX3_upFrom) (maxL := 4) (ret := (some .float)) (by decide) rfl ?_
  intro p e s m args below meth c s₁ B hml hv
  obtain ⟨rfl, hP, hK, hN, hZ⟩ := hv
  have hx := B.exec
  have hb := B.bytes
  have hrt := B.returns
  have hts := atoms_spec (ws := wsX3_upFrom) B.pre
  have hown : s.vm.findClass RX3 = some m.cls := findClass_of_methodNamed B.named
  have hlocks := B.notSynchronized
  have hS : va_S (fun _ => False) s.heap s.heap [] := va_S.rf
  have hl := lv_entry ([.ref a0, .int x1, .float x2]) (n := 4) (Nat.le_of_ble_eq_true rfl)
  rw [lg_entry_eq]
  generalize (lg_sl ([.ref a0, .int x1, .float x2]) ++ List.replicate (4 - (lg_sl ([.ref a0, .int x1, .float x2])).length) Slot.unset).toArray = ls at hl ⊢
  have hl : lv_has ls 4 [(0, .ref a0), (1, .int x1), (2, .float x2)] := hl
  rw [mf_X3_upFrom] at hr
  refine lv_aload_n hx hb dX3_upFrom_0 rfl (lv_at hl 0 rfl) ?_
  refine lv_iload_n hx hb dX3_upFrom_1 rfl (lv_at hl 1 rfl) ?_
  refine lv_iconst (v := (0 : Int32)) hx hb dX3_upFrom_2 (by decide) ?_
  refine nmv hr (fun r_1 e_2 hr => ?_)
  refine roV_f (As := [.int x1, .int (0 : Int32)]) (rest := []) ⟨hx, hb, hml, hown, hts⟩ (k_X3_speed l D Y a0 a1 V x1 (0 : Int32) r_1 e_2) (cwV 2 hts gX3_upFrom_X3_speed rfl rfl rfl (by decide +kernel) ⟨Nat.le_of_ble_eq_true rfl, Nat.le_of_ble_eq_true rfl⟩) hP hK hN hZ 0 3 rfl rfl rfl hl.1 rfl (Nat.le_of_ble_eq_true rfl) dX3_upFrom_3 ⟨Nat.le_refl 0, Nat.le_refl 0⟩ ?_
  refine lv_fstore_n (lv' := [(3, .float r_1), (0, .ref a0), (1, .int x1), (2, .float x2)]) hx hb dX3_upFrom_6 rfl hl (by decide) rfl (fun ls hl => ?_)
  refine lv_fload_n hx hb dX3_upFrom_7 rfl (lv_at hl 0 rfl) ?_
  refine lv_aload_n hx hb dX3_upFrom_8 rfl (lv_at hl 1 rfl) ?_
  refine lv_iload_n hx hb dX3_upFrom_9 rfl (lv_at hl 2 rfl) ?_
  refine lv_iconst (v := (1 : Int32)) hx hb dX3_upFrom_10 (by decide) ?_
  refine nmv hr (fun r_3 e_4 hr => ?_)
  refine roV_f (As := [.int x1, .int (1 : Int32)]) (rest := [.float r_1]) ⟨hx, hb, hml, hown, hts⟩ (k_X3_speed l D Y a0 a1 V x1 (1 : Int32) r_3 e_4) (cwV 2 hts gX3_upFrom_X3_speed rfl rfl rfl (by decide +kernel) ⟨Nat.le_of_ble_eq_true rfl, Nat.le_of_ble_eq_true rfl⟩) hP hK hN hZ 0 3 rfl rfl rfl hl.1 rfl (Nat.le_of_ble_eq_true rfl) dX3_upFrom_11 ⟨Nat.le_refl 0, Nat.le_refl 0⟩ ?_
  refine lv_fload_n hx hb dX3_upFrom_14 rfl (lv_at hl 0 rfl) ?_
  refine gdv hr (fun g_5 hr => ?_)
  refine lv_fsub hx hb dX3_upFrom_15 g_5 ?_
  refine nmv hr (fun f_6 e_7 hr => ?_)
  rw [← e_7]
  refine lv_fload_n hx hb dX3_upFrom_16 rfl (lv_at hl 3 rfl) ?_
  refine gdv hr (fun g_8 hr => ?_)
  refine lv_fmul hx hb dX3_upFrom_17 g_8 ?_
  refine nmv hr (fun f_9 e_10 hr => ?_)
  rw [← e_10]
  refine gdv hr (fun g_11 hr => ?_)
  refine lv_fadd hx hb dX3_upFrom_18 g_11 ?_
  refine nmv hr (fun f_12 e_13 hr => ?_)
  rw [← e_13]
  have hr := Option.some.inj hr
  subst hr
  exact W.fret hx hb hrt (fun t ht hW => ⟨_, rfl, rfl, ht⟩) (fun q hq => absurd hq List.not_mem_nil) dX3_upFrom_19

set_option maxHeartbeats 4000000 in
set_option maxRecDepth 100000 in
theorem k_X3_downTo (l : Launch) (D : va_G) (Y : Nat → ClassId) (a0 a1 : Nat) (V : (Nat → UInt32)) (x1 : Int32) (x2 : UInt32) (R : UInt32) (hr : some R = mf_X3_downTo V x1 x2) : Met l yX3_downTo wsX3_downTo ({ frames := 2, cells := 0, slots := 0, locals := 46 } : Room) (va_Pc [.ref a0, .int x1, .float x2] (PR D Y (mpW Y a0 a1 V))) (vp_Sf (fun x => x = R)) 0 0 (fun _ => False) := by
  refine Met.ofW (cc := cX3_downTo) (maxL := 3) (ret := (some .float)) (by decide) rfl ?_
  intro p e s m args below meth c s₁ B hml hv
  obtain ⟨rfl, hP, hK, hN, hZ⟩ := hv
  have hx := B.exec
  have hb := B.bytes
  have hrt := B.returns
  have hts := atoms_spec (ws := wsX3_downTo) B.pre
  have hown : s.vm.findClass RX3 = some m.cls := findClass_of_methodNamed B.named
  have hlocks := B.notSynchronized
  have hS : va_S (fun _ => False) s.heap s.heap [] := va_S.rf
  have hl := lv_entry ([.ref a0, .int x1, .float x2]) (n := 3) (Nat.le_of_ble_eq_true rfl)
  rw [lg_entry_eq]
  generalize (lg_sl ([.ref a0, .int x1, .float x2]) ++ List.replicate (3 - (lg_sl ([.ref a0, .int x1, .float x2])).length) Slot.unset).toArray = ls at hl ⊢
  have hl : lv_has ls 3 [(0, .ref a0), (1, .int x1), (2, .float x2)] := hl
  rw [mf_X3_downTo] at hr
  refine lv_aload_n hx hb dX3_downTo_0 rfl (lv_at hl 0 rfl) ?_
  refine lv_iload_n hx hb dX3_downTo_1 rfl (lv_at hl 1 rfl) ?_
  refine lv_fload_n hx hb dX3_downTo_2 rfl (lv_at hl 2 rfl) ?_
  refine bdv hr (fun r_1 e_2 hr => ?_)
  refine roV_f (As := [.int x1, .float x2]) (rest := []) ⟨hx, hb, hml, hown, hts⟩ (k_X3_upFrom l D Y a0 a1 V x1 x2 r_1 e_2) (cwV 2 hts gX3_downTo_X3_upFrom rfl rfl rfl (by decide +kernel) ⟨Nat.le_of_ble_eq_true rfl, Nat.le_of_ble_eq_true rfl⟩) hP hK hN hZ 0 3 rfl rfl rfl hl.1 rfl (Nat.le_of_ble_eq_true rfl) dX3_downTo_3 ⟨Nat.le_refl 0, Nat.le_refl 0⟩ ?_
  refine lv_aload_n hx hb dX3_downTo_6 rfl (lv_at hl 0 rfl) ?_
  refine lv_iload_n hx hb dX3_downTo_7 rfl (lv_at hl 1 rfl) ?_
  refine lv_iconst (v := (2 : Int32)) hx hb dX3_downTo_8 (by decide) ?_
  refine nmv hr (fun r_3 e_4 hr => ?_)
  refine roV_f (As := [.int x1, .int (2 : Int32)]) (rest := [.float r_1]) ⟨hx, hb, hml, hown, hts⟩ (k_X3_speed l D Y a0 a1 V x1 (2 : Int32) r_3 e_4) (cwV 2 hts gX3_downTo_X3_speed rfl rfl rfl (by decide +kernel) ⟨Nat.le_of_ble_eq_true rfl, Nat.le_of_ble_eq_true rfl⟩) hP hK hN hZ 0 3 rfl rfl rfl hl.1 rfl (Nat.le_of_ble_eq_true rfl) dX3_downTo_9 ⟨Nat.le_refl 0, Nat.le_refl 0⟩ ?_
  refine gdv hr (fun g_5 hr => ?_)
  refine lv_fsub hx hb dX3_downTo_12 g_5 ?_
  refine nmv hr (fun f_6 e_7 hr => ?_)
  rw [← e_7]
  have hr := Option.some.inj hr
  subst hr
  exact W.fret hx hb hrt (fun t ht hW => ⟨_, rfl, rfl, ht⟩) (fun q hq => absurd hq List.not_mem_nil) dX3_downTo_13

set_option maxHeartbeats 4000000 in
set_option maxRecDepth 100000 in
theorem k_X3_exceeds (l : Launch) (D : va_G) (Y : Nat → ClassId) (a0 a1 : Nat) (V : (Nat → UInt32)) (x1 : UInt32) (x2 : Int32) (R : Int32) (hr : R = mf_X3_exceeds V x1 x2) : Met l yX3_exceeds wsX3_exceeds ({ frames := 1, cells := 0, slots := 0, locals := 23 } : Room) (va_Pc [.ref a0, .float x1, .int x2] (PR D Y (mpW Y a0 a1 V))) (vp_Si (fun x => x = R)) 0 0 (fun _ => False) := by
  refine Met.ofW (cc := cX3_exceeds) (maxL := 3) (ret := (some .boolean)) (by decide) rfl ?_
  intro p e s m args below meth c s₁ B hml hv
  obtain ⟨rfl, hP, hK, hN, hZ⟩ := hv
  have hx := B.exec
  have hb := B.bytes
  have hrt := B.returns
  have hts := atoms_spec (ws := wsX3_exceeds) B.pre
  have hown : s.vm.findClass RX3 = some m.cls := findClass_of_methodNamed B.named
  have hlocks := B.notSynchronized
  have hS : va_S (fun _ => False) s.heap s.heap [] := va_S.rf
  have hl := lv_entry ([.ref a0, .float x1, .int x2]) (n := 3) (Nat.le_of_ble_eq_true rfl)
  rw [lg_entry_eq]
  generalize (lg_sl ([.ref a0, .float x1, .int x2]) ++ List.replicate (3 - (lg_sl ([.ref a0, .float x1, .int x2])).length) Slot.unset).toArray = ls at hl ⊢
  have hl : lv_has ls 3 [(0, .ref a0), (1, .float x1), (2, .int x2)] := hl
  rw [mf_X3_exceeds] at hr
  refine lv_fload_n hx hb dX3_exceeds_0 rfl (lv_at hl 1 rfl) ?_
  refine lv_aload_n hx hb dX3_exceeds_1 rfl (lv_at hl 0 rfl) ?_
  refine lv_iload_n hx hb dX3_exceeds_2 rfl (lv_at hl 2 rfl) ?_
  refine lv_iconst (v := (3 : Int32)) hx hb dX3_exceeds_3 (by decide) ?_
  refine nmv hr (fun r_1 e_2 hr => ?_)
  refine roV_f (As := [.int x2, .int (3 : Int32)]) (rest := [.float x1]) ⟨hx, hb, hml, hown, hts⟩ (k_X3_speed l D Y a0 a1 V x2 (3 : Int32) r_1 e_2) (cwV 2 hts gX3_exceeds_X3_speed rfl rfl rfl (by decide +kernel) ⟨Nat.le_of_ble_eq_true rfl, Nat.le_of_ble_eq_true rfl⟩) hP hK hN hZ 0 3 rfl rfl rfl hl.1 rfl (Nat.le_of_ble_eq_true rfl) dX3_exceeds_4 ⟨Nat.le_refl 0, Nat.le_refl 0⟩ ?_
  refine lv_fcmp hx hb dX3_exceeds_7 ?_
  refine lv_if_le (tgt := 15) hx hb dX3_exceeds_8 (by decide) (fun c_3 => ?_) (fun c_3 => ?_)
  · have hr := hr.trans (if_pos c_3)
    refine lv_iconst (v := (0 : Int32)) hx hb dX3_exceeds_15 (by decide) ?_
    subst hr
    exact W.zret (ty := .boolean) hx hb hrt (by decide) (fun t ht hW => ⟨_, rfl, rfl, ht⟩) (fun q hq => absurd hq List.not_mem_nil) dX3_exceeds_16
  · have hr := hr.trans (if_neg c_3)
    refine lv_iconst (v := (1 : Int32)) hx hb dX3_exceeds_11 (by decide) ?_
    refine lv_goto (tgt := 16) hx hb dX3_exceeds_12 (by decide) ?_
    subst hr
    exact W.zret (ty := .boolean) hx hb hrt (by decide) (fun t ht hW => ⟨_, rfl, rfl, ht⟩) (fun q hq => absurd hq List.not_mem_nil) dX3_exceeds_16

set_option maxHeartbeats 4000000 in
set_option maxRecDepth 100000 in
theorem k_X3_copyFrom (l : Launch) (D : va_G) (Y : Nat → ClassId) (a0 a1 : Nat) (b0 b1 : Nat) (V : (Nat → UInt32)) (U : (Nat → UInt32)) (R : (Nat → UInt32)) (hr : R = mf_X3_copyFrom V U) : Met l yX3_copyFrom wsX3_copyFrom ({ frames := 1, cells := 0, slots := 0, locals := 60 } : Room) (va_Pc [.ref a0, .ref b0] (PW D Y ((mpW Y a0 a1 V) ++ (mpW Y b0 b1 U)))) (va_Qv (S := Unit) (fun _ => True) (fun _ t => va_P D vwCl ((mpW Y a0 a1 R) ++ (mpW Y b0 b1 U)) t.heap) (wA ((mpW Y a0 a1 V) ++ (mpW Y b0 b1 U)))) 0 0 (wA ((mpW Y a0 a1 V) ++ (mpW Y b0 b1 U))) := by
  refine Met.ofW (cc := cX3_copyFrom) (maxL := 2) (ret := none) (by decide) rfl ?_
  intro p e s m args below meth c s₁ B hml hv
  obtain ⟨rfl, hP, hK, hN, hZ, hD⟩ := hv
  have hx := B.exec
  have hb := B.bytes
  have hrt := B.returns
  have hts := atoms_spec (ws := wsX3_copyFrom) B.pre
  have hown : s.vm.findClass RX3 = some m.cls := findClass_of_methodNamed B.named
  have hlocks := B.notSynchronized
  have inX3 : ∀ w ∈ u_ws RX3 TX3 1, w ∈ wsX3_copyFrom := uin_at 6 rfl
  generalize hAe : wA ((mpW Y a0 a1 V) ++ (mpW Y b0 b1 U)) = A at hZ hD ⊢
  have hS : va_S A s.heap s.heap [] := va_S.rf
  have hl := lv_entry ([.ref a0, .ref b0]) (n := 2) (Nat.le_of_ble_eq_true rfl)
  rw [lg_entry_eq]
  generalize (lg_sl ([.ref a0, .ref b0]) ++ List.replicate (2 - (lg_sl ([.ref a0, .ref b0])).length) Slot.unset).toArray = ls at hl ⊢
  have hl : lv_has ls 2 [(0, .ref a0), (1, .ref b0)] := hl
  rw [mf_X3_copyFrom] at hr
  suffices KK : ∀ (H : Heap) (locs : List Loc), va_P D vwCl ((mpW Y a0 a1 V) ++ (mpW Y b0 b1 U)) H → va_S A s.heap H locs → W p l e ({ frames := 1, cells := 0, slots := 0, locals := 60 } : Room) s m ([.ref a0, .ref b0] : List Value).toArray below meth c H locs 0 0 (MQ below (va_Qv (S := Unit) (fun _ => True) (fun _ t => va_P D vwCl ((mpW Y a0 a1 R) ++ (mpW Y b0 b1 U)) t.heap) A) ([.ref a0, .ref b0] : List Value).toArray s 0 0 A) (F0 m 0 ls []) from KK _ _ hP hS
  intro H locs hP hS
  refine lv_aload_n hx hb dX3_copyFrom_0 rfl (lv_at hl 1 rfl) ?_
  refine va_get (D := D) (ci := 3) (v := .ref b1) (C := RX3) (T := TX3) (N := 1) hx hb hts inX3 hown hK hP 2 rfl rfl 0 (by decide) (hts (.fieldLink RX3 15 "ShiftMaps$Maps" "speeds" "[F") (List.mem_of_getElem? (i := 1) rfl)) (fun _ h9 => h9) rfl dX3_copyFrom_1 ?_
  refine lv_iconst (v := (0 : Int32)) hx hb dX3_copyFrom_4 (by decide) ?_
  refine lv_aload_n hx hb dX3_copyFrom_5 rfl (lv_at hl 0 rfl) ?_
  refine va_get (D := D) (ci := 3) (v := .ref a1) (C := RX3) (T := TX3) (N := 1) hx hb hts inX3 hown hK hP 0 rfl rfl 0 (by decide) (hts (.fieldLink RX3 15 "ShiftMaps$Maps" "speeds" "[F") (List.mem_of_getElem? (i := 1) rfl)) (fun _ h9 => h9) rfl dX3_copyFrom_6 ?_
  refine lv_iconst (v := (0 : Int32)) hx hb dX3_copyFrom_9 (by decide) ?_
  refine lv_aload_n hx hb dX3_copyFrom_10 rfl (lv_at hl 0 rfl) ?_
  refine va_get (D := D) (ci := 3) (v := .ref a1) (C := RX3) (T := TX3) (N := 1) hx hb hts inX3 hown hK hP 0 rfl rfl 0 (by decide) (hts (.fieldLink RX3 15 "ShiftMaps$Maps" "speeds" "[F") (List.mem_of_getElem? (i := 1) rfl)) (fun _ h9 => h9) rfl dX3_copyFrom_11 ?_
  refine va_alen (D := D) (v := (20 : Int32)) hx hb hK hP 1 1 rfl rfl rfl dX3_copyFrom_14 ?_
  refine cp_f (D := D) hx hb (hml.trans hl.1.symm) hown (hts (.methodLink RX3 31 arraycopyName) (List.mem_of_getElem? (i := 2) rfl)) (hts (.native arraycopyName) (List.mem_of_getElem? (i := 3) rfl)) (hts (.static arraycopyName) (List.mem_of_getElem? (i := 4) rfl)) (hts (.initialized "java/lang/System") (List.mem_of_getElem? (i := 5) rfl)) hK hP hD hS 3 1 1 rfl rfl rfl (n := (20 : Int32)) rfl (by decide) (Nat.le_of_ble_eq_true rfl) (Nat.le_of_ble_eq_true rfl) dX3_copyFrom_15 (fun H locs hP hD hS => ?_)
  refine nmv hr (fun V_1 e_2 hr => ?_)
  have hP : va_P D vwCl ((mpW Y a0 a1 V_1) ++ (mpW Y b0 b1 U)) H := by rw [e_2]; exact hP
  have hD : va_D A ((mpW Y a0 a1 V_1) ++ (mpW Y b0 b1 U)) := va_D_adr hD rfl
  subst hr
  exact W.vret hx hb hrt (fun t ht hW => ⟨⟨(), rfl, trivial, by show va_P D vwCl _ t.heap; rw [ht]; exact hP⟩, hS.F ht⟩) hS.2.2 dX3_copyFrom_18

set_option maxHeartbeats 4000000 in
set_option maxRecDepth 100000 in
theorem k_X2_told (l : Launch) (D : va_G) (Y : Nat → ClassId) (a0 a1 : Nat) (V : LgV) (x1 : Int32) (x2 : Int32) (R : Int32) (hr : R = mf_X2_told V x1 x2) : Met l yX2_told wsX2_told ({ frames := 0, cells := 0, slots := 0, locals := 0 } : Room) (va_Pc [.ref a0, .int x1, .int x2] (PR D Y (lgW Y a0 a1 V))) (vp_Si (fun x => x = R)) 0 0 (fun _ => False) := by
  refine Met.ofW (cc := cX2_told) (maxL := 5) (ret := (some .int)) (by decide) rfl ?_
  intro p e s m args below meth c s₁ B hml hv
  obtain ⟨rfl, hP, hK, hN, hZ⟩ := hv
  have hx := B.exec
  have hb := B.bytes
  have hrt := B.returns
  have hts := atoms_spec (ws := wsX2_told) B.pre
  have hown : s.vm.findClass RX2 = some m.cls := findClass_of_methodNamed B.named
  have hlocks := B.notSynchronized
  have inX2 : ∀ w ∈ u_ws RX2 TX2 3, w ∈ wsX2_told := uin_at 4 rfl
  have hS : va_S (fun _ => False) s.heap s.heap [] := va_S.rf
  have hl := lv_entry ([.ref a0, .int x1, .int x2]) (n := 5) (Nat.le_of_ble_eq_true rfl)
  rw [lg_entry_eq]
  generalize (lg_sl ([.ref a0, .int x1, .int x2]) ++ List.replicate (5 - (lg_sl ([.ref a0, .int x1, .int x2])).length) Slot.unset).toArray = ls at hl ⊢
  have hl : lv_has ls 5 [(0, .ref a0), (1, .int x1), (2, .int x2)] := hl
  have B45 : ∀ (z2 : Int32) (y0 : Int32) (ls : Array Slot), R = mf_X2_told_B45 V z2 y0 → lv_has ls 5 [(0, .ref a0), (2, .int z2)] → W p l e ({ frames := 0, cells := 0, slots := 0, locals := 0 } : Room) s m ([.ref a0, .int x1, .int x2] : List Value).toArray below meth c s.heap [] 0 0 (MQ below (vp_Si (fun x => x = R)) ([.ref a0, .int x1, .int x2] : List Value).toArray s 0 0 (fun _ => False)) (F0 m 45 ls [.int y0]) := by
    intro z2 y0 ls hr hl
    rw [mf_X2_told_B45] at hr
    refine lv_iconst (v := (5 : Int32)) hx hb dX2_told_45 (by decide) ?_
    refine lv_imul hx hb dX2_told_46 ?_
    refine lv_iload_n hx hb dX2_told_47 rfl (lv_at hl 1 rfl) ?_
    refine lv_iadd hx hb dX2_told_48 ?_
    refine lv_istore (lv' := [(4, .int ((y0 * (5 : Int32)) + z2)), (0, .ref a0), (2, .int z2)]) hx hb dX2_told_49 hl (by decide) rfl (fun ls hl => ?_)
    refine lv_iload hx hb dX2_told_51 (lv_at hl 0 rfl) ?_
    refine lv_if_lt (tgt := 76) hx hb dX2_told_53 (by decide) (fun c_6 => ?_) (fun c_6 => ?_)
    · have hr := hr.trans (if_pos c_6)
      refine lv_bipush (v := (-5 : Int32)) hx hb dX2_told_76 (by decide) ?_
      subst hr
      exact W.iret hx hb hrt (fun t ht hW => ⟨_, rfl, rfl, ht⟩) (fun q hq => absurd hq List.not_mem_nil) dX2_told_78
    · have hr := hr.trans (if_neg c_6)
      refine lv_iload hx hb dX2_told_56 (lv_at hl 0 rfl) ?_
      refine lv_aload_n hx hb dX2_told_58 rfl (lv_at hl 1 rfl) ?_
      refine va_get (D := D) (ci := 2) (v := .ref a1) (C := RX2) (T := TX2) (N := 3) hx hb hts inX2 hown hK hP 0 rfl rfl 0 (by decide) (hts (.fieldLink RX2 11 "ShiftMaps$Log" "cells" "[I") (List.mem_of_getElem? (i := 3) rfl)) (fun _ h9 => h9) rfl dX2_told_59 ?_
      refine va_alen (D := D) (v := (50 : Int32)) hx hb hK hP 1 2 rfl rfl rfl dX2_told_62 ?_
      refine lv_icmp_ge (tgt := 76) hx hb dX2_told_63 (by decide) (fun c_7 => ?_) (fun c_7 => ?_)
      · have hr := hr.trans (if_pos c_7)
        refine lv_bipush (v := (-5 : Int32)) hx hb dX2_told_76 (by decide) ?_
        subst hr
        exact W.iret hx hb hrt (fun t ht hW => ⟨_, rfl, rfl, ht⟩) (fun q hq => absurd hq List.not_mem_nil) dX2_told_78
      · have hr := hr.trans (if_neg c_7)
        refine lv_aload_n hx hb dX2_told_66 rfl (lv_at hl 1 rfl) ?_
        refine va_get (D := D) (ci := 2) (v := .ref a1) (C := RX2) (T := TX2) (N := 3) hx hb hts inX2 hown hK hP 0 rfl rfl 0 (by decide) (hts (.fieldLink RX2 11 "ShiftMaps$Log" "cells" "[I") (List.mem_of_getElem? (i := 3) rfl)) (fun _ h9 => h9) rfl dX2_told_67 ?_
        refine lv_iload hx hb dX2_told_70 (lv_at hl 0 rfl) ?_
        refine va_iald (D := D) hx hb hK hP 1 2 rfl rfl (in_of (y := (50 : Int32)) rfl (by decide) c_6 c_7) dX2_told_72 ?_
        refine lv_goto (tgt := 78) hx hb dX2_told_73 (by decide) ?_
        subst hr
        exact W.iret hx hb hrt (fun t ht hW => ⟨_, rfl, rfl, ht⟩) (fun q hq => absurd hq List.not_mem_nil) dX2_told_78
  rw [mf_X2_told] at hr
  refine lv_iload_n hx hb dX2_told_0 rfl (lv_at hl 1 rfl) ?_
  refine lv_if_lt (tgt := 21) hx hb dX2_told_1 (by decide) (fun c_1 => ?_) (fun c_1 => ?_)
  · have hr := hr.trans (if_pos c_1)
    refine lv_bipush (v := (-5 : Int32)) hx hb dX2_told_21 (by decide) ?_
    subst hr
    exact W.iret hx hb hrt (fun t ht hW => ⟨_, rfl, rfl, ht⟩) (fun q hq => absurd hq List.not_mem_nil) dX2_told_23
  · have hr := hr.trans (if_neg c_1)
    refine lv_iload_n hx hb dX2_told_4 rfl (lv_at hl 1 rfl) ?_
    refine lv_aload_n hx hb dX2_told_5 rfl (lv_at hl 0 rfl) ?_
    refine va_get (D := D) (ci := 2) (v := .int (v2_size V)) (C := RX2) (T := TX2) (N := 3) hx hb hts inX2 hown hK hP 0 rfl rfl 2 (by decide) (hts (.fieldLink RX2 19 "ShiftMaps$Log" "size" "I") (List.mem_of_getElem? (i := 1) rfl)) (fun _ h9 => h9) rfl dX2_told_6 ?_
    refine lv_icmp_ge (tgt := 21) hx hb dX2_told_9 (by decide) (fun c_2 => ?_) (fun c_2 => ?_)
    · have hr := hr.trans (if_pos c_2)
      refine lv_bipush (v := (-5 : Int32)) hx hb dX2_told_21 (by decide) ?_
      subst hr
      exact W.iret hx hb hrt (fun t ht hW => ⟨_, rfl, rfl, ht⟩) (fun q hq => absurd hq List.not_mem_nil) dX2_told_23
    · have hr := hr.trans (if_neg c_2)
      refine lv_iload_n hx hb dX2_told_12 rfl (lv_at hl 2 rfl) ?_
      refine lv_if_lt (tgt := 21) hx hb dX2_told_13 (by decide) (fun c_3 => ?_) (fun c_3 => ?_)
      · have hr := hr.trans (if_pos c_3)
        refine lv_bipush (v := (-5 : Int32)) hx hb dX2_told_21 (by decide) ?_
        subst hr
        exact W.iret hx hb hrt (fun t ht hW => ⟨_, rfl, rfl, ht⟩) (fun q hq => absurd hq List.not_mem_nil) dX2_told_23
      · have hr := hr.trans (if_neg c_3)
        refine lv_iload_n hx hb dX2_told_16 rfl (lv_at hl 2 rfl) ?_
        refine lv_iconst (v := (5 : Int32)) hx hb dX2_told_17 (by decide) ?_
        refine lv_icmp_lt (tgt := 24) hx hb dX2_told_18 (by decide) (fun c_4 => ?_) (fun c_4 => ?_)
        · have hr := hr.trans (if_pos c_4)
          refine lv_aload_n hx hb dX2_told_24 rfl (lv_at hl 0 rfl) ?_
          refine va_get (D := D) (ci := 2) (v := .int (v2_next V)) (C := RX2) (T := TX2) (N := 3) hx hb hts inX2 hown hK hP 0 rfl rfl 1 (by decide) (hts (.fieldLink RX2 15 "ShiftMaps$Log" "next" "I") (List.mem_of_getElem? (i := 2) rfl)) (fun _ h9 => h9) rfl dX2_told_25 ?_
          refine lv_iconst (v := (1 : Int32)) hx hb dX2_told_28 (by decide) ?_
          refine lv_isub hx hb dX2_told_29 ?_
          refine lv_iload_n hx hb dX2_told_30 rfl (lv_at hl 1 rfl) ?_
          refine lv_isub hx hb dX2_told_31 ?_
          refine lv_istore_n (lv' := [(3, .int (((v2_next V) - (1 : Int32)) - x1)), (0, .ref a0), (1, .int x1), (2, .int x2)]) hx hb dX2_told_32 rfl hl (by decide) rfl (fun ls hl => ?_)
          refine lv_iload_n hx hb dX2_told_33 rfl (lv_at hl 0 rfl) ?_
          refine lv_if_ge (tgt := 44) hx hb dX2_told_34 (by decide) (fun c_5 => ?_) (fun c_5 => ?_)
          · have hr := hr.trans (if_pos c_5)
            refine lv_iload_n hx hb dX2_told_44 rfl (lv_at hl 0 rfl) ?_
            exact B45 x2 (((v2_next V) - (1 : Int32)) - x1) _ hr (lv_sub hl [1, 3] rfl)
          · have hr := hr.trans (if_neg c_5)
            refine lv_iload_n hx hb dX2_told_37 rfl (lv_at hl 0 rfl) ?_
            refine lv_bipush (v := (10 : Int32)) hx hb dX2_told_38 (by decide) ?_
            refine lv_iadd hx hb dX2_told_40 ?_
            refine lv_goto (tgt := 45) hx hb dX2_told_41 (by decide) ?_
            exact B45 x2 ((((v2_next V) - (1 : Int32)) - x1) + (10 : Int32)) _ hr (lv_sub hl [1, 3] rfl)
        · have hr := hr.trans (if_neg c_4)
          refine lv_bipush (v := (-5 : Int32)) hx hb dX2_told_21 (by decide) ?_
          subst hr
          exact W.iret hx hb hrt (fun t ht hW => ⟨_, rfl, rfl, ht⟩) (fun q hq => absurd hq List.not_mem_nil) dX2_told_23

set_option maxHeartbeats 4000000 in
set_option maxRecDepth 100000 in
theorem k_X2_add (l : Launch) (D : va_G) (Y : Nat → ClassId) (a0 a1 : Nat) (V : LgV) (x1 : Int32) (x2 : Int32) (x3 : Int32) (x4 : Int32) (x5 : Int32) (R : LgV) (hr : some R = mf_X2_add V x1 x2 x3 x4 x5) : Met l yX2_add wsX2_add ({ frames := 1, cells := 0, slots := 0, locals := 30 } : Room) (va_Pc [.ref a0, .int x1, .int x2, .int x3, .int x4, .int x5] (PW D Y (lgW Y a0 a1 V))) (va_Qv (S := Unit) (fun _ => True) (fun _ t => va_P D vwCl (lgW Y a0 a1 R) t.heap) (wA (lgW Y a0 a1 V))) 0 0 (wA (lgW Y a0 a1 V)) := by
  refine Met.ofW (cc := cX2_add) (maxL := 7) (ret := none) (by decide) rfl ?_
  intro p e s m args below meth c s₁ B hml hv
  obtain ⟨rfl, hP, hK, hN, hZ, hD⟩ := hv
  have hx := B.exec
  have hb := B.bytes
  have hrt := B.returns
  have hts := atoms_spec (ws := wsX2_add) B.pre
  have hown : s.vm.findClass RX2 = some m.cls := findClass_of_methodNamed B.named
  have hlocks := B.notSynchronized
  have inX2 : ∀ w ∈ u_ws RX2 TX2 3, w ∈ wsX2_add := uin_at 8 rfl
  generalize hAe : wA (lgW Y a0 a1 V) = A at hZ hD ⊢
  have hS : va_S A s.heap s.heap [] := va_S.rf
  have hl := lv_entry ([.ref a0, .int x1, .int x2, .int x3, .int x4, .int x5]) (n := 7) (Nat.le_of_ble_eq_true rfl)
  rw [lg_entry_eq]
  generalize (lg_sl ([.ref a0, .int x1, .int x2, .int x3, .int x4, .int x5]) ++ List.replicate (7 - (lg_sl ([.ref a0, .int x1, .int x2, .int x3, .int x4, .int x5])).length) Slot.unset).toArray = ls at hl ⊢
  have hl : lv_has ls 7 [(0, .ref a0), (1, .int x1), (2, .int x2), (3, .int x3), (4, .int x4), (5, .int x5)] := hl
  have B106 : ∀ (W0 : LgV) (y0 : Int32) (H : Heap) (locs : List Loc) (ls : Array Slot), some R = mf_X2_add_B106 W0 y0 → va_P D vwCl (lgW Y a0 a1 W0) H → va_D A (lgW Y a0 a1 W0) → va_S A s.heap H locs → lv_has ls 7 [(0, .ref a0)] → W p l e ({ frames := 1, cells := 0, slots := 0, locals := 30 } : Room) s m ([.ref a0, .int x1, .int x2, .int x3, .int x4, .int x5] : List Value).toArray below meth c H locs 0 0 (MQ below (va_Qv (S := Unit) (fun _ => True) (fun _ t => va_P D vwCl (lgW Y a0 a1 R) t.heap) A) ([.ref a0, .int x1, .int x2, .int x3, .int x4, .int x5] : List Value).toArray s 0 0 A) (F0 m 106 ls [.int y0, .ref a0]) := by
    intro W0 y0 H locs ls hr hP hD hS hl
    rw [mf_X2_add_B106] at hr
    refine va_put (D := D) (ci := 2) (v := .int y0) (ty := .int) (C := RX2) (T := TX2) (N := 3) hx hb hts inX2 tyX2 tyX2_ok nmX2 hown hK hP hD hS 0 rfl rfl 1 (by decide) (hts (.fieldLink RX2 15 "ShiftMaps$Log" "next" "I") (List.mem_of_getElem? (i := 1) rfl)) (fun _ h9 => h9) rfl (by decide +kernel) rfl rfl (Nat.le_of_ble_eq_true rfl) dX2_add_106 (fun H locs hP hD hS => ?_)
    refine nmv hr (fun V_22 e_23 hr => ?_)
    have hP : va_P D vwCl (lgW Y a0 a1 V_22) H := by rw [e_23]; exact hP
    have hD : va_D A (lgW Y a0 a1 V_22) := va_D_adr hD rfl
    refine lv_aload_n hx hb dX2_add_109 rfl (lv_at hl 0 rfl) ?_
    refine lv_aload_n hx hb dX2_add_110 rfl (lv_at hl 0 rfl) ?_
    refine va_get (D := D) (ci := 2) (v := .int (v2_size V_22)) (C := RX2) (T := TX2) (N := 3) hx hb hts inX2 hown hK hP 0 rfl rfl 2 (by decide) (hts (.fieldLink RX2 19 "ShiftMaps$Log" "size" "I") (List.mem_of_getElem? (i := 3) rfl)) (fun _ h9 => h9) rfl dX2_add_111 ?_
    refine lv_iconst (v := (1 : Int32)) hx hb dX2_add_114 (by decide) ?_
    refine lv_iadd hx hb dX2_add_115 ?_
    refine lv_bipush (v := (10 : Int32)) hx hb dX2_add_116 (by decide) ?_
    refine va_mmin hx hb (hml.trans hl.1.symm) hown (hts (.methodLink RX2 22 Lib.Math.min.name) (List.mem_of_getElem? (i := 4) rfl)) (hts (.static Lib.Math.min.name) (List.mem_of_getElem? (i := 5) rfl)) (hts (.initialized "java/lang/Math") (List.mem_of_getElem? (i := 6) rfl)) (hts (.code Lib.Math.min.name Lib.Math.min.code 2 (some .int)) (List.mem_of_getElem? (i := 7) rfl)) (Nat.le_of_ble_eq_true rfl) (Nat.le_of_ble_eq_true rfl) (Nat.le_refl 0) (Nat.le_refl 0) dX2_add_118 ?_
    refine nmv hr (fun n_24 e_25 hr => ?_)
    rw [← e_25]
    refine va_put (D := D) (ci := 2) (v := .int n_24) (ty := .int) (C := RX2) (T := TX2) (N := 3) hx hb hts inX2 tyX2 tyX2_ok nmX2 hown hK hP hD hS 0 rfl rfl 2 (by decide) (hts (.fieldLink RX2 19 "ShiftMaps$Log" "size" "I") (List.mem_of_getElem? (i := 3) rfl)) (fun _ h9 => h9) rfl (by decide +kernel) rfl rfl (Nat.le_of_ble_eq_true rfl) dX2_add_121 (fun H locs hP hD hS => ?_)
    refine nmv hr (fun V_28 e_29 hr => ?_)
    have hP : va_P D vwCl (lgW Y a0 a1 V_28) H := by rw [e_29]; exact hP
    have hD : va_D A (lgW Y a0 a1 V_28) := va_D_adr hD rfl
    have hr := Option.some.inj hr
    subst hr
    exact W.vret hx hb hrt (fun t ht hW => ⟨⟨(), rfl, trivial, by show va_P D vwCl _ t.heap; rw [ht]; exact hP⟩, hS.F ht⟩) hS.2.2 dX2_add_124
  have B83 : ∀ (W0 : LgV) (y0 : Int32) (y1 : Int32) (H : Heap) (locs : List Loc) (ls : Array Slot), some R = mf_X2_add_B83 W0 y0 y1 → va_P D vwCl (lgW Y a0 a1 W0) H → va_D A (lgW Y a0 a1 W0) → va_S A s.heap H locs → lv_has ls 7 [(0, .ref a0)] → W p l e ({ frames := 1, cells := 0, slots := 0, locals := 30 } : Room) s m ([.ref a0, .int x1, .int x2, .int x3, .int x4, .int x5] : List Value).toArray below meth c H locs 0 0 (MQ below (va_Qv (S := Unit) (fun _ => True) (fun _ t => va_P D vwCl (lgW Y a0 a1 R) t.heap) A) ([.ref a0, .int x1, .int x2, .int x3, .int x4, .int x5] : List Value).toArray s 0 0 A) (F0 m 83 ls [.int y0, .int y1, .ref a1]) := by
    intro W0 y0 y1 H locs ls hr hP hD hS hl
    rw [mf_X2_add_B83] at hr
    refine gdv hr (fun g_16 hr => ?_)
    refine va_iast (D := D) hx hb hK hP hD hS 1 2 rfl rfl (in_of (y := (50 : Int32)) rfl (by decide) g_16.1 g_16.2) dX2_add_83 (fun H locs hP hD hS => ?_)
    refine nmv hr (fun V_17 e_18 hr => ?_)
    have hP : va_P D vwCl (lgW Y a0 a1 V_17) H := by rw [e_18]; exact hP
    have hD : va_D A (lgW Y a0 a1 V_17) := va_D_adr hD rfl
    refine lv_aload_n hx hb dX2_add_84 rfl (lv_at hl 0 rfl) ?_
    refine lv_aload_n hx hb dX2_add_85 rfl (lv_at hl 0 rfl) ?_
    refine va_get (D := D) (ci := 2) (v := .int (v2_next V_17)) (C := RX2) (T := TX2) (N := 3) hx hb hts inX2 hown hK hP 0 rfl rfl 1 (by decide) (hts (.fieldLink RX2 15 "ShiftMaps$Log" "next" "I") (List.mem_of_getElem? (i := 1) rfl)) (fun _ h9 => h9) rfl dX2_add_86 ?_
    refine lv_iconst (v := (1 : Int32)) hx hb dX2_add_89 (by decide) ?_
    refine lv_iadd hx hb dX2_add_90 ?_
    refine lv_bipush (v := (10 : Int32)) hx hb dX2_add_91 (by decide) ?_
    refine lv_icmp_ge (tgt := 105) hx hb dX2_add_93 (by decide) (fun c_19 => ?_) (fun c_19 => ?_)
    · have hr := hr.trans (if_pos c_19)
      refine lv_iconst (v := (0 : Int32)) hx hb dX2_add_105 (by decide) ?_
      exact B106 V_17 (0 : Int32) _ _ _ hr hP hD hS (lv_sub hl [0] rfl)
    · have hr := hr.trans (if_neg c_19)
      refine lv_aload_n hx hb dX2_add_96 rfl (lv_at hl 0 rfl) ?_
      refine va_get (D := D) (ci := 2) (v := .int (v2_next V_17)) (C := RX2) (T := TX2) (N := 3) hx hb hts inX2 hown hK hP 0 rfl rfl 1 (by decide) (hts (.fieldLink RX2 15 "ShiftMaps$Log" "next" "I") (List.mem_of_getElem? (i := 1) rfl)) (fun _ h9 => h9) rfl dX2_add_97 ?_
      refine lv_iconst (v := (1 : Int32)) hx hb dX2_add_100 (by decide) ?_
      refine lv_iadd hx hb dX2_add_101 ?_
      refine lv_goto (tgt := 106) hx hb dX2_add_102 (by decide) ?_
      exact B106 V_17 ((v2_next V_17) + (1 : Int32)) _ _ _ hr hP hD hS (lv_sub hl [0] rfl)
  rw [mf_X2_add] at hr
  suffices KK : ∀ (H : Heap) (locs : List Loc), va_P D vwCl (lgW Y a0 a1 V) H → va_S A s.heap H locs → W p l e ({ frames := 1, cells := 0, slots := 0, locals := 30 } : Room) s m ([.ref a0, .int x1, .int x2, .int x3, .int x4, .int x5] : List Value).toArray below meth c H locs 0 0 (MQ below (va_Qv (S := Unit) (fun _ => True) (fun _ t => va_P D vwCl (lgW Y a0 a1 R) t.heap) A) ([.ref a0, .int x1, .int x2, .int x3, .int x4, .int x5] : List Value).toArray s 0 0 A) (F0 m 0 ls []) from KK _ _ hP hS
  intro H locs hP hS
  refine lv_aload_n hx hb dX2_add_0 rfl (lv_at hl 0 rfl) ?_
  refine va_get (D := D) (ci := 2) (v := .int (v2_next V)) (C := RX2) (T := TX2) (N := 3) hx hb hts inX2 hown hK hP 0 rfl rfl 1 (by decide) (hts (.fieldLink RX2 15 "ShiftMaps$Log" "next" "I") (List.mem_of_getElem? (i := 1) rfl)) (fun _ h9 => h9) rfl dX2_add_1 ?_
  refine lv_iconst (v := (5 : Int32)) hx hb dX2_add_4 (by decide) ?_
  refine lv_imul hx hb dX2_add_5 ?_
  refine lv_istore (lv' := [(6, .int ((v2_next V) * (5 : Int32))), (0, .ref a0), (1, .int x1), (2, .int x2), (3, .int x3), (4, .int x4), (5, .int x5)]) hx hb dX2_add_6 hl (by decide) rfl (fun ls hl => ?_)
  refine lv_iload hx hb dX2_add_8 (lv_at hl 0 rfl) ?_
  refine lv_if_lt (tgt := 25) hx hb dX2_add_10 (by decide) (fun c_1 => ?_) (fun c_1 => ?_)
  · have hr := hr.trans (if_pos c_1)
    have hr := Option.some.inj hr
    subst hr
    exact W.vret hx hb hrt (fun t ht hW => ⟨⟨(), rfl, trivial, by show va_P D vwCl _ t.heap; rw [ht]; exact hP⟩, hS.F ht⟩) hS.2.2 dX2_add_25
  · have hr := hr.trans (if_neg c_1)
    refine lv_iload hx hb dX2_add_13 (lv_at hl 0 rfl) ?_
    refine lv_iconst (v := (5 : Int32)) hx hb dX2_add_15 (by decide) ?_
    refine lv_iadd hx hb dX2_add_16 ?_
    refine lv_aload_n hx hb dX2_add_17 rfl (lv_at hl 1 rfl) ?_
    refine va_get (D := D) (ci := 2) (v := .ref a1) (C := RX2) (T := TX2) (N := 3) hx hb hts inX2 hown hK hP 0 rfl rfl 0 (by decide) (hts (.fieldLink RX2 11 "ShiftMaps$Log" "cells" "[I") (List.mem_of_getElem? (i := 2) rfl)) (fun _ h9 => h9) rfl dX2_add_18 ?_
    refine va_alen (D := D) (v := (50 : Int32)) hx hb hK hP 1 2 rfl rfl rfl dX2_add_21 ?_
    refine lv_icmp_le (tgt := 26) hx hb dX2_add_22 (by decide) (fun c_2 => ?_) (fun c_2 => ?_)
    · have hr := hr.trans (if_pos c_2)
      refine lv_aload_n hx hb dX2_add_26 rfl (lv_at hl 1 rfl) ?_
      refine va_get (D := D) (ci := 2) (v := .ref a1) (C := RX2) (T := TX2) (N := 3) hx hb hts inX2 hown hK hP 0 rfl rfl 0 (by decide) (hts (.fieldLink RX2 11 "ShiftMaps$Log" "cells" "[I") (List.mem_of_getElem? (i := 2) rfl)) (fun _ h9 => h9) rfl dX2_add_27 ?_
      refine lv_iload hx hb dX2_add_30 (lv_at hl 0 rfl) ?_
      refine lv_iload_n hx hb dX2_add_32 rfl (lv_at hl 2 rfl) ?_
      refine gdv hr (fun g_3 hr => ?_)
      refine va_iast (D := D) hx hb hK hP hD hS 1 2 rfl rfl (in_of (y := (50 : Int32)) rfl (by decide) g_3.1 g_3.2) dX2_add_33 (fun H locs hP hD hS => ?_)
      refine nmv hr (fun V_4 e_5 hr => ?_)
      have hP : va_P D vwCl (lgW Y a0 a1 V_4) H := by rw [e_5]; exact hP
      have hD : va_D A (lgW Y a0 a1 V_4) := va_D_adr hD rfl
      refine lv_aload_n hx hb dX2_add_34 rfl (lv_at hl 1 rfl) ?_
      refine va_get (D := D) (ci := 2) (v := .ref a1) (C := RX2) (T := TX2) (N := 3) hx hb hts inX2 hown hK hP 0 rfl rfl 0 (by decide) (hts (.fieldLink RX2 11 "ShiftMaps$Log" "cells" "[I") (List.mem_of_getElem? (i := 2) rfl)) (fun _ h9 => h9) rfl dX2_add_35 ?_
      refine lv_iload hx hb dX2_add_38 (lv_at hl 0 rfl) ?_
      refine lv_iconst (v := (1 : Int32)) hx hb dX2_add_40 (by decide) ?_
      refine lv_iadd hx hb dX2_add_41 ?_
      refine lv_iload_n hx hb dX2_add_42 rfl (lv_at hl 3 rfl) ?_
      refine gdv hr (fun g_6 hr => ?_)
      refine va_iast (D := D) hx hb hK hP hD hS 1 2 rfl rfl (in_of (y := (50 : Int32)) rfl (by decide) g_6.1 g_6.2) dX2_add_43 (fun H locs hP hD hS => ?_)
      refine nmv hr (fun V_7 e_8 hr => ?_)
      have hP : va_P D vwCl (lgW Y a0 a1 V_7) H := by rw [e_8]; exact hP
      have hD : va_D A (lgW Y a0 a1 V_7) := va_D_adr hD rfl
      refine lv_aload_n hx hb dX2_add_44 rfl (lv_at hl 1 rfl) ?_
      refine va_get (D := D) (ci := 2) (v := .ref a1) (C := RX2) (T := TX2) (N := 3) hx hb hts inX2 hown hK hP 0 rfl rfl 0 (by decide) (hts (.fieldLink RX2 11 "ShiftMaps$Log" "cells" "[I") (List.mem_of_getElem? (i := 2) rfl)) (fun _ h9 => h9) rfl dX2_add_45 ?_
      refine lv_iload hx hb dX2_add_48 (lv_at hl 0 rfl) ?_
      refine lv_iconst (v := (2 : Int32)) hx hb dX2_add_50 (by decide) ?_
      refine lv_iadd hx hb dX2_add_51 ?_
      refine lv_iload_n hx hb dX2_add_52 rfl (lv_at hl 4 rfl) ?_
      refine gdv hr (fun g_9 hr => ?_)
      refine va_iast (D := D) hx hb hK hP hD hS 1 2 rfl rfl (in_of (y := (50 : Int32)) rfl (by decide) g_9.1 g_9.2) dX2_add_53 (fun H locs hP hD hS => ?_)
      refine nmv hr (fun V_10 e_11 hr => ?_)
      have hP : va_P D vwCl (lgW Y a0 a1 V_10) H := by rw [e_11]; exact hP
      have hD : va_D A (lgW Y a0 a1 V_10) := va_D_adr hD rfl
      refine lv_aload_n hx hb dX2_add_54 rfl (lv_at hl 1 rfl) ?_
      refine va_get (D := D) (ci := 2) (v := .ref a1) (C := RX2) (T := TX2) (N := 3) hx hb hts inX2 hown hK hP 0 rfl rfl 0 (by decide) (hts (.fieldLink RX2 11 "ShiftMaps$Log" "cells" "[I") (List.mem_of_getElem? (i := 2) rfl)) (fun _ h9 => h9) rfl dX2_add_55 ?_
      refine lv_iload hx hb dX2_add_58 (lv_at hl 0 rfl) ?_
      refine lv_iconst (v := (3 : Int32)) hx hb dX2_add_60 (by decide) ?_
      refine lv_iadd hx hb dX2_add_61 ?_
      refine lv_iload hx hb dX2_add_62 (lv_at hl 5 rfl) ?_
      refine gdv hr (fun g_12 hr => ?_)
      refine va_iast (D := D) hx hb hK hP hD hS 1 2 rfl rfl (in_of (y := (50 : Int32)) rfl (by decide) g_12.1 g_12.2) dX2_add_64 (fun H locs hP hD hS => ?_)
      refine nmv hr (fun V_13 e_14 hr => ?_)
      have hP : va_P D vwCl (lgW Y a0 a1 V_13) H := by rw [e_14]; exact hP
      have hD : va_D A (lgW Y a0 a1 V_13) := va_D_adr hD rfl
      refine lv_aload_n hx hb dX2_add_65 rfl (lv_at hl 1 rfl) ?_
      refine va_get (D := D) (ci := 2) (v := .ref a1) (C := RX2) (T := TX2) (N := 3) hx hb hts inX2 hown hK hP 0 rfl rfl 0 (by decide) (hts (.fieldLink RX2 11 "ShiftMaps$Log" "cells" "[I") (List.mem_of_getElem? (i := 2) rfl)) (fun _ h9 => h9) rfl dX2_add_66 ?_
      refine lv_iload hx hb dX2_add_69 (lv_at hl 0 rfl) ?_
      refine lv_iconst (v := (4 : Int32)) hx hb dX2_add_71 (by decide) ?_
      refine lv_iadd hx hb dX2_add_72 ?_
      refine lv_iload hx hb dX2_add_73 (lv_at hl 6 rfl) ?_
      refine lv_if_eq (tgt := 82) hx hb dX2_add_75 (by decide) (fun c_15 => ?_) (fun c_15 => ?_)
      · have hr := hr.trans (if_pos c_15)
        refine lv_iconst (v := (0 : Int32)) hx hb dX2_add_82 (by decide) ?_
        exact B83 V_13 (0 : Int32) (((v2_next V) * (5 : Int32)) + (4 : Int32)) _ _ _ hr hP hD hS (lv_sub hl [1] rfl)
      · have hr := hr.trans (if_neg c_15)
        refine lv_iconst (v := (1 : Int32)) hx hb dX2_add_78 (by decide) ?_
        refine lv_goto (tgt := 83) hx hb dX2_add_79 (by decide) ?_
        exact B83 V_13 (1 : Int32) (((v2_next V) * (5 : Int32)) + (4 : Int32)) _ _ _ hr hP hD hS (lv_sub hl [1] rfl)
    · have hr := hr.trans (if_neg c_2)
      have hr := Option.some.inj hr
      subst hr
      exact W.vret hx hb hrt (fun t ht hW => ⟨⟨(), rfl, trivial, by show va_P D vwCl _ t.heap; rw [ht]; exact hP⟩, hS.F ht⟩) hS.2.2 dX2_add_25

set_option maxHeartbeats 4000000 in
set_option maxRecDepth 100000 in
theorem k_X2_copyFrom (l : Launch) (D : va_G) (Y : Nat → ClassId) (a0 a1 : Nat) (b0 b1 : Nat) (V : LgV) (U : LgV) (R : LgV) (hr : R = mf_X2_copyFrom V U) : Met l yX2_copyFrom wsX2_copyFrom ({ frames := 1, cells := 0, slots := 0, locals := 60 } : Room) (va_Pc [.ref a0, .ref b0] (PW D Y ((lgW Y a0 a1 V) ++ (lgW Y b0 b1 U)))) (va_Qv (S := Unit) (fun _ => True) (fun _ t => va_P D vwCl ((lgW Y a0 a1 R) ++ (lgW Y b0 b1 U)) t.heap) (wA ((lgW Y a0 a1 V) ++ (lgW Y b0 b1 U)))) 0 0 (wA ((lgW Y a0 a1 V) ++ (lgW Y b0 b1 U))) := by
  refine Met.ofW (cc := cX2_copyFrom) (maxL := 2) (ret := none) (by decide) rfl ?_
  intro p e s m args below meth c s₁ B hml hv
  obtain ⟨rfl, hP, hK, hN, hZ, hD⟩ := hv
  have hx := B.exec
  have hb := B.bytes
  have hrt := B.returns
  have hts := atoms_spec (ws := wsX2_copyFrom) B.pre
  have hown : s.vm.findClass RX2 = some m.cls := findClass_of_methodNamed B.named
  have hlocks := B.notSynchronized
  have inX2 : ∀ w ∈ u_ws RX2 TX2 3, w ∈ wsX2_copyFrom := uin_at 8 rfl
  generalize hAe : wA ((lgW Y a0 a1 V) ++ (lgW Y b0 b1 U)) = A at hZ hD ⊢
  have hS : va_S A s.heap s.heap [] := va_S.rf
  have hl := lv_entry ([.ref a0, .ref b0]) (n := 2) (Nat.le_of_ble_eq_true rfl)
  rw [lg_entry_eq]
  generalize (lg_sl ([.ref a0, .ref b0]) ++ List.replicate (2 - (lg_sl ([.ref a0, .ref b0])).length) Slot.unset).toArray = ls at hl ⊢
  have hl : lv_has ls 2 [(0, .ref a0), (1, .ref b0)] := hl
  rw [mf_X2_copyFrom] at hr
  suffices KK : ∀ (H : Heap) (locs : List Loc), va_P D vwCl ((lgW Y a0 a1 V) ++ (lgW Y b0 b1 U)) H → va_S A s.heap H locs → W p l e ({ frames := 1, cells := 0, slots := 0, locals := 60 } : Room) s m ([.ref a0, .ref b0] : List Value).toArray below meth c H locs 0 0 (MQ below (va_Qv (S := Unit) (fun _ => True) (fun _ t => va_P D vwCl ((lgW Y a0 a1 R) ++ (lgW Y b0 b1 U)) t.heap) A) ([.ref a0, .ref b0] : List Value).toArray s 0 0 A) (F0 m 0 ls []) from KK _ _ hP hS
  intro H locs hP hS
  refine lv_aload_n hx hb dX2_copyFrom_0 rfl (lv_at hl 1 rfl) ?_
  refine va_get (D := D) (ci := 2) (v := .ref b1) (C := RX2) (T := TX2) (N := 3) hx hb hts inX2 hown hK hP 2 rfl rfl 0 (by decide) (hts (.fieldLink RX2 11 "ShiftMaps$Log" "cells" "[I") (List.mem_of_getElem? (i := 1) rfl)) (fun _ h9 => h9) rfl dX2_copyFrom_1 ?_
  refine lv_iconst (v := (0 : Int32)) hx hb dX2_copyFrom_4 (by decide) ?_
  refine lv_aload_n hx hb dX2_copyFrom_5 rfl (lv_at hl 0 rfl) ?_
  refine va_get (D := D) (ci := 2) (v := .ref a1) (C := RX2) (T := TX2) (N := 3) hx hb hts inX2 hown hK hP 0 rfl rfl 0 (by decide) (hts (.fieldLink RX2 11 "ShiftMaps$Log" "cells" "[I") (List.mem_of_getElem? (i := 1) rfl)) (fun _ h9 => h9) rfl dX2_copyFrom_6 ?_
  refine lv_iconst (v := (0 : Int32)) hx hb dX2_copyFrom_9 (by decide) ?_
  refine lv_aload_n hx hb dX2_copyFrom_10 rfl (lv_at hl 0 rfl) ?_
  refine va_get (D := D) (ci := 2) (v := .ref a1) (C := RX2) (T := TX2) (N := 3) hx hb hts inX2 hown hK hP 0 rfl rfl 0 (by decide) (hts (.fieldLink RX2 11 "ShiftMaps$Log" "cells" "[I") (List.mem_of_getElem? (i := 1) rfl)) (fun _ h9 => h9) rfl dX2_copyFrom_11 ?_
  refine va_alen (D := D) (v := (50 : Int32)) hx hb hK hP 1 2 rfl rfl rfl dX2_copyFrom_14 ?_
  refine cp_i (D := D) hx hb (hml.trans hl.1.symm) hown (hts (.methodLink RX2 28 arraycopyName) (List.mem_of_getElem? (i := 2) rfl)) (hts (.native arraycopyName) (List.mem_of_getElem? (i := 3) rfl)) (hts (.static arraycopyName) (List.mem_of_getElem? (i := 4) rfl)) (hts (.initialized "java/lang/System") (List.mem_of_getElem? (i := 5) rfl)) hK hP hD hS 3 1 2 rfl rfl rfl (n := (50 : Int32)) rfl (by decide) (Nat.le_of_ble_eq_true rfl) (Nat.le_of_ble_eq_true rfl) dX2_copyFrom_15 (fun H locs hP hD hS => ?_)
  refine nmv hr (fun V_1 e_2 hr => ?_)
  have hP : va_P D vwCl ((lgW Y a0 a1 V_1) ++ (lgW Y b0 b1 U)) H := by rw [e_2]; exact hP
  have hD : va_D A ((lgW Y a0 a1 V_1) ++ (lgW Y b0 b1 U)) := va_D_adr hD rfl
  refine lv_aload_n hx hb dX2_copyFrom_18 rfl (lv_at hl 0 rfl) ?_
  refine lv_aload_n hx hb dX2_copyFrom_19 rfl (lv_at hl 1 rfl) ?_
  refine va_get (D := D) (ci := 2) (v := .int (v2_next U)) (C := RX2) (T := TX2) (N := 3) hx hb hts inX2 hown hK hP 2 rfl rfl 1 (by decide) (hts (.fieldLink RX2 15 "ShiftMaps$Log" "next" "I") (List.mem_of_getElem? (i := 6) rfl)) (fun _ h9 => h9) rfl dX2_copyFrom_20 ?_
  refine va_put (D := D) (ci := 2) (v := .int (v2_next U)) (ty := .int) (C := RX2) (T := TX2) (N := 3) hx hb hts inX2 tyX2 tyX2_ok nmX2 hown hK hP hD hS 0 rfl rfl 1 (by decide) (hts (.fieldLink RX2 15 "ShiftMaps$Log" "next" "I") (List.mem_of_getElem? (i := 6) rfl)) (fun _ h9 => h9) rfl (by decide +kernel) rfl rfl (Nat.le_of_ble_eq_true rfl) dX2_copyFrom_23 (fun H locs hP hD hS => ?_)
  refine nmv hr (fun V_5 e_6 hr => ?_)
  have hP : va_P D vwCl ((lgW Y a0 a1 V_5) ++ (lgW Y b0 b1 U)) H := by rw [e_6]; exact hP
  have hD : va_D A ((lgW Y a0 a1 V_5) ++ (lgW Y b0 b1 U)) := va_D_adr hD rfl
  refine lv_aload_n hx hb dX2_copyFrom_26 rfl (lv_at hl 0 rfl) ?_
  refine lv_aload_n hx hb dX2_copyFrom_27 rfl (lv_at hl 1 rfl) ?_
  refine va_get (D := D) (ci := 2) (v := .int (v2_size U)) (C := RX2) (T := TX2) (N := 3) hx hb hts inX2 hown hK hP 2 rfl rfl 2 (by decide) (hts (.fieldLink RX2 19 "ShiftMaps$Log" "size" "I") (List.mem_of_getElem? (i := 7) rfl)) (fun _ h9 => h9) rfl dX2_copyFrom_28 ?_
  refine va_put (D := D) (ci := 2) (v := .int (v2_size U)) (ty := .int) (C := RX2) (T := TX2) (N := 3) hx hb hts inX2 tyX2 tyX2_ok nmX2 hown hK hP hD hS 0 rfl rfl 2 (by decide) (hts (.fieldLink RX2 19 "ShiftMaps$Log" "size" "I") (List.mem_of_getElem? (i := 7) rfl)) (fun _ h9 => h9) rfl (by decide +kernel) rfl rfl (Nat.le_of_ble_eq_true rfl) dX2_copyFrom_31 (fun H locs hP hD hS => ?_)
  refine nmv hr (fun V_9 e_10 hr => ?_)
  have hP : va_P D vwCl ((lgW Y a0 a1 V_9) ++ (lgW Y b0 b1 U)) H := by rw [e_10]; exact hP
  have hD : va_D A ((lgW Y a0 a1 V_9) ++ (lgW Y b0 b1 U)) := va_D_adr hD rfl
  subst hr
  exact W.vret hx hb hrt (fun t ht hW => ⟨⟨(), rfl, trivial, by show va_P D vwCl _ t.heap; rw [ht]; exact hP⟩, hS.F ht⟩) hS.2.2 dX2_copyFrom_34
