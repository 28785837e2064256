set_option maxHeartbeats 4000000 in
set_option maxRecDepth 100000 in
theorem k_L_tick (l : Launch) (D : va_G) (Y : Nat → ClassId) (ad : Nat → Nat) (V : CarV) (x1 : Int32) (x2 : Int32) (R : Int32 × CarV) (hr : some R = mf_L_tick V x1 x2) : Met l yL_tick wsL_tick ({ frames := 7, cells := 0, slots := 0, locals := 161 } : Room) (va_Pc [.ref (ad 0), .int x1, .int x2] (PW D Y (carW Y ad V))) (va_Qi (S := Unit) (fun r _ => r = R.1) (fun _ t => va_P D vwCl (carW Y ad R.2) t.heap) (wA (carW Y ad V))) 0 0 (wA (carW Y ad V)) := by
  refine Met.ofW (cc := cL_tick) (maxL := 31) (ret := (some .boolean)) (by decide) rfl ?_
  intro p e s m args below meth c s₁ B hml hv
  obtain ⟨rfl, hP, hK, hN, hZ, hD⟩ := hv
  have hx := B.exec
  have hb := B.bytes
  have hrt := B.returns
  have hts := atoms_spec (ws := wsL_tick) B.pre
  have hown : s.vm.findClass RL = some m.cls := findClass_of_methodNamed B.named
  have hlocks := B.notSynchronized
  generalize hAe : wA (carW Y ad V) = A at hZ hD ⊢
  have hS : va_S A s.heap s.heap [] := va_S.rf
  have hl := lv_entry ([.ref (ad 0), .int x1, .int x2]) (n := 31) (Nat.le_of_ble_eq_true rfl)
  rw [lg_entry_eq]
  generalize (lg_sl ([.ref (ad 0), .int x1, .int x2]) ++ List.replicate (31 - (lg_sl ([.ref (ad 0), .int x1, .int x2])).length) Slot.unset).toArray = ls at hl ⊢
  have hl : lv_has ls 31 [(0, .ref (ad 0)), (1, .int x1), (2, .int x2)] := hl
  have B817 : ∀ (W0 : CarV) (H : Heap) (locs : List Loc) (ls : Array Slot), some R = mf_L_tick_B817 W0 → va_P D vwCl (carW Y ad W0) H → va_D A (carW Y ad W0) → va_S A s.heap H locs → lv_has ls 31 [] → W p l e ({ frames := 7, cells := 0, slots := 0, locals := 161 } : Room) s m ([.ref (ad 0), .int x1, .int x2] : List Value).toArray below meth c H locs 0 0 (MQ below (va_Qi (S := Unit) (fun r _ => r = R.1) (fun _ t => va_P D vwCl (carW Y ad R.2) t.heap) A) ([.ref (ad 0), .int x1, .int x2] : List Value).toArray s 0 0 A) (F0 m 817 ls []) := by
    intro W0 H locs ls hr hP hD hS hl
    rw [mf_L_tick_B817] at hr
    refine lv_iconst (v := (1 : Int32)) hx hb dL_tick_817 (by decide) ?_
    refine lv_goto (tgt := 822) hx hb dL_tick_818 (by decide) ?_
    have hr := Option.some.inj hr
    subst hr
    exact W.zret (ty := .boolean) hx hb hrt (by decide) (fun t ht hW => ⟨⟨_, (), rfl, rfl, by show va_P D vwCl _ t.heap; rw [ht]; exact hP⟩, hS.F ht⟩) hS.2.2 dL_tick_822
  have B810 : ∀ (W0 : CarV) (H : Heap) (locs : List Loc) (ls : Array Slot), some R = mf_L_tick_B810 W0 → va_P D vwCl (carW Y ad W0) H → va_D A (carW Y ad W0) → va_S A s.heap H locs → lv_has ls 31 [(0, .ref (ad 0))] → W p l e ({ frames := 7, cells := 0, slots := 0, locals := 161 } : Room) s m ([.ref (ad 0), .int x1, .int x2] : List Value).toArray below meth c H locs 0 0 (MQ below (va_Qi (S := Unit) (fun r _ => r = R.1) (fun _ t => va_P D vwCl (carW Y ad R.2) t.heap) A) ([.ref (ad 0), .int x1, .int x2] : List Value).toArray s 0 0 A) (F0 m 810 ls []) := by
    intro W0 H locs ls hr hP hD hS hl
    rw [mf_L_tick_B810] at hr
    refine lv_aload_n hx hb dL_tick_810 rfl (lv_at hl 0 rfl) ?_
    refine bdv hr (fun r_75 e_76 hr => ?_)
    refine roS_i (As := [.ref (ad 0)]) (rest := []) ⟨hx, hb, hml, hown, hts⟩ (k_L_wentToAndFro l D Y ad W0 r_75 e_76) (va_cwS 1 hts gL_tick_L_wentToAndFro rfl rfl rfl (by decide +kernel) ⟨Nat.le_of_ble_eq_true rfl, Nat.le_of_ble_eq_true rfl⟩) hP hK hN (hZ.at hS).F rfl hl.1 rfl (Nat.le_of_ble_eq_true rfl) dL_tick_811 ⟨Nat.le_refl 0, Nat.le_refl 0⟩ ?_
    refine lv_if_ne (tgt := 821) hx hb dL_tick_814 (by decide) (fun c_77 => ?_) (fun c_77 => ?_)
    · have hr := hr.trans (if_neg c_77)
      refine lv_iconst (v := (0 : Int32)) hx hb dL_tick_821 (by decide) ?_
      have hr := Option.some.inj hr
      subst hr
      exact W.zret (ty := .boolean) hx hb hrt (by decide) (fun t ht hW => ⟨⟨_, (), rfl, rfl, by show va_P D vwCl _ t.heap; rw [ht]; exact hP⟩, hS.F ht⟩) hS.2.2 dL_tick_822
    · have hr := hr.trans (if_pos c_77)
      exact B817 W0 _ _ _ hr hP hD hS (lv_sub hl [] rfl)
  have B755 : ∀ (W0 : CarV) (z10 : Int32) (z15 : Int32) (z19 : Int32) (z22 : Int32) (z23 : Int32) (z26 : Int32) (z27 : Int32) (z29 : Int32) (y0 : Int32) (H : Heap) (locs : List Loc) (ls : Array Slot), some R = mf_L_tick_B755 W0 z10 z15 z19 z22 z23 z26 z27 z29 y0 → va_P D vwCl (carW Y ad W0) H → va_D A (carW Y ad W0) → va_S A s.heap H locs → lv_has ls 31 [(0, .ref (ad 0)), (10, .int z10), (15, .int z15), (19, .int z19), (22, .int z22), (23, .int z23), (26, .int z26), (27, .int z27), (29, .int z29)] → W p l e ({ frames := 7, cells := 0, slots := 0, locals := 161 } : Room) s m ([.ref (ad 0), .int x1, .int x2] : List Value).toArray below meth c H locs 0 0 (MQ below (va_Qi (S := Unit) (fun r _ => r = R.1) (fun _ t => va_P D vwCl (carW Y ad R.2) t.heap) A) ([.ref (ad 0), .int x1, .int x2] : List Value).toArray s 0 0 A) (F0 m 755 ls [.int y0]) := by
    intro W0 z10 z15 z19 z22 z23 z26 z27 z29 y0 H locs ls hr hP hD hS hl
    rw [mf_L_tick_B755] at hr
    refine lv_istore (lv' := [(30, .int y0), (0, .ref (ad 0)), (10, .int z10), (15, .int z15), (19, .int z19), (22, .int z22), (23, .int z23), (26, .int z26), (27, .int z27), (29, .int z29)]) hx hb dL_tick_755 hl (by decide) rfl (fun ls hl => ?_)
    refine lv_iload hx hb dL_tick_757 (lv_at hl 2 rfl) ?_
    refine lv_iload hx hb dL_tick_759 (lv_at hl 7 rfl) ?_
    refine lv_icmp_ne (tgt := 821) hx hb dL_tick_761 (by decide) (fun c_64 => ?_) (fun c_64 => ?_)
    · have hr := hr.trans (if_neg c_64)
      refine lv_iconst (v := (0 : Int32)) hx hb dL_tick_821 (by decide) ?_
      have hr := Option.some.inj hr
      subst hr
      exact W.zret (ty := .boolean) hx hb hrt (by decide) (fun t ht hW => ⟨⟨_, (), rfl, rfl, by show va_P D vwCl _ t.heap; rw [ht]; exact hP⟩, hS.F ht⟩) hS.2.2 dL_tick_822
    · have hr := hr.trans (if_pos c_64)
      refine lv_iload hx hb dL_tick_764 (lv_at hl 8 rfl) ?_
      refine lv_if_eq (tgt := 821) hx hb dL_tick_766 (by decide) (fun c_65 => ?_) (fun c_65 => ?_)
      · have hr := hr.trans (if_pos c_65)
        refine lv_iconst (v := (0 : Int32)) hx hb dL_tick_821 (by decide) ?_
        have hr := Option.some.inj hr
        subst hr
        exact W.zret (ty := .boolean) hx hb hrt (by decide) (fun t ht hW => ⟨⟨_, (), rfl, rfl, by show va_P D vwCl _ t.heap; rw [ht]; exact hP⟩, hS.F ht⟩) hS.2.2 dL_tick_822
      · have hr := hr.trans (if_neg c_65)
        refine lv_iload hx hb dL_tick_769 (lv_at hl 9 rfl) ?_
        refine lv_if_eq (tgt := 821) hx hb dL_tick_771 (by decide) (fun c_66 => ?_) (fun c_66 => ?_)
        · have hr := hr.trans (if_pos c_66)
          refine lv_iconst (v := (0 : Int32)) hx hb dL_tick_821 (by decide) ?_
          have hr := Option.some.inj hr
          subst hr
          exact W.zret (ty := .boolean) hx hb hrt (by decide) (fun t ht hW => ⟨⟨_, (), rfl, rfl, by show va_P D vwCl _ t.heap; rw [ht]; exact hP⟩, hS.F ht⟩) hS.2.2 dL_tick_822
        · have hr := hr.trans (if_neg c_66)
          refine lv_iload hx hb dL_tick_774 (lv_at hl 0 rfl) ?_
          refine lv_if_eq (tgt := 821) hx hb dL_tick_776 (by decide) (fun c_67 => ?_) (fun c_67 => ?_)
          · have hr := hr.trans (if_pos c_67)
            refine lv_iconst (v := (0 : Int32)) hx hb dL_tick_821 (by decide) ?_
            have hr := Option.some.inj hr
            subst hr
            exact W.zret (ty := .boolean) hx hb hrt (by decide) (fun t ht hW => ⟨⟨_, (), rfl, rfl, by show va_P D vwCl _ t.heap; rw [ht]; exact hP⟩, hS.F ht⟩) hS.2.2 dL_tick_822
          · have hr := hr.trans (if_neg c_67)
            refine lv_aload_n hx hb dL_tick_779 rfl (lv_at hl 1 rfl) ?_
            refine lv_iconst (v := (0 : Int32)) hx hb dL_tick_780 (by decide) ?_
            refine nmv hr (fun r_68 e_69 hr => ?_)
            refine roV_i (As := [.int (0 : Int32)]) (rest := []) ⟨hx, hb, hml, hown, hts⟩ (k_X5_car l D Y ad W0 (0 : Int32) r_68 e_69) (cwV 1 hts gL_tick_X5_car rfl rfl rfl (by decide +kernel) ⟨Nat.le_of_ble_eq_true rfl, Nat.le_of_ble_eq_true rfl⟩) hP hK hN (hZ.at hS).F 0 5 rfl rfl rfl hl.1 rfl (Nat.le_of_ble_eq_true rfl) dL_tick_781 ⟨Nat.le_refl 0, Nat.le_refl 0⟩ ?_
            refine lv_iload hx hb dL_tick_784 (lv_at hl 4 rfl) ?_
            refine lv_icmp_ne (tgt := 821) hx hb dL_tick_786 (by decide) (fun c_70 => ?_) (fun c_70 => ?_)
            · have hr := hr.trans (if_neg c_70)
              refine lv_iconst (v := (0 : Int32)) hx hb dL_tick_821 (by decide) ?_
              have hr := Option.some.inj hr
              subst hr
              exact W.zret (ty := .boolean) hx hb hrt (by decide) (fun t ht hW => ⟨⟨_, (), rfl, rfl, by show va_P D vwCl _ t.heap; rw [ht]; exact hP⟩, hS.F ht⟩) hS.2.2 dL_tick_822
            · have hr := hr.trans (if_pos c_70)
              refine lv_aload_n hx hb dL_tick_789 rfl (lv_at hl 1 rfl) ?_
              refine lv_bipush (v := (6 : Int32)) hx hb dL_tick_790 (by decide) ?_
              refine nmv hr (fun r_71 e_72 hr => ?_)
              refine roV_i (As := [.int (6 : Int32)]) (rest := []) ⟨hx, hb, hml, hown, hts⟩ (k_X5_count l D Y ad W0 (6 : Int32) r_71 e_72) (cwV 1 hts gL_tick_X5_count rfl rfl rfl (by decide +kernel) ⟨Nat.le_of_ble_eq_true rfl, Nat.le_of_ble_eq_true rfl⟩) hP hK hN (hZ.at hS).F 0 5 rfl rfl rfl hl.1 rfl (Nat.le_of_ble_eq_true rfl) dL_tick_792 ⟨Nat.le_refl 0, Nat.le_refl 0⟩ ?_
              refine lv_iload hx hb dL_tick_795 (lv_at hl 3 rfl) ?_
              refine lv_icmp_gt (tgt := 817) hx hb dL_tick_797 (by decide) (fun c_73 => ?_) (fun c_73 => ?_)
              · have hr := hr.trans (if_pos c_73)
                exact B817 W0 _ _ _ hr hP hD hS (lv_sub hl [] rfl)
              · have hr := hr.trans (if_neg c_73)
                refine lv_iload hx hb dL_tick_800 (lv_at hl 5 rfl) ?_
                refine lv_if_ne (tgt := 810) hx hb dL_tick_802 (by decide) (fun c_74 => ?_) (fun c_74 => ?_)
                · have hr := hr.trans (if_neg c_74)
                  exact B810 W0 _ _ _ hr hP hD hS (lv_sub hl [1] rfl)
                · have hr := hr.trans (if_pos c_74)
                  refine lv_iload hx hb dL_tick_805 (lv_at hl 6 rfl) ?_
                  refine lv_if_eq (tgt := 817) hx hb dL_tick_807 (by decide) (fun c_78 => ?_) (fun c_78 => ?_)
                  · have hr := hr.trans (if_pos c_78)
                    exact B817 W0 _ _ _ hr hP hD hS (lv_sub hl [] rfl)
                  · have hr := hr.trans (if_neg c_78)
                    exact B810 W0 _ _ _ hr hP hD hS (lv_sub hl [1] rfl)
  have B754 : ∀ (W0 : CarV) (z10 : Int32) (z15 : Int32) (z19 : Int32) (z22 : Int32) (z23 : Int32) (z26 : Int32) (z27 : Int32) (z29 : Int32) (H : Heap) (locs : List Loc) (ls : Array Slot), some R = mf_L_tick_B754 W0 z10 z15 z19 z22 z23 z26 z27 z29 → va_P D vwCl (carW Y ad W0) H → va_D A (carW Y ad W0) → va_S A s.heap H locs → lv_has ls 31 [(0, .ref (ad 0)), (10, .int z10), (15, .int z15), (19, .int z19), (22, .int z22), (23, .int z23), (26, .int z26), (27, .int z27), (29, .int z29)] → W p l e ({ frames := 7, cells := 0, slots := 0, locals := 161 } : Room) s m ([.ref (ad 0), .int x1, .int x2] : List Value).toArray below meth c H locs 0 0 (MQ below (va_Qi (S := Unit) (fun r _ => r = R.1) (fun _ t => va_P D vwCl (carW Y ad R.2) t.heap) A) ([.ref (ad 0), .int x1, .int x2] : List Value).toArray s 0 0 A) (F0 m 754 ls []) := by
    intro W0 z10 z15 z19 z22 z23 z26 z27 z29 H locs ls hr hP hD hS hl
    rw [mf_L_tick_B754] at hr
    refine lv_iconst (v := (0 : Int32)) hx hb dL_tick_754 (by decide) ?_
    exact B755 W0 z10 z15 z19 z22 z23 z26 z27 z29 (0 : Int32) _ _ _ hr hP hD hS (lv_sub hl [0, 1, 2, 3, 4, 5, 6, 7, 8] rfl)
  have B711 : ∀ (W0 : CarV) (z10 : Int32) (z15 : Int32) (z19 : Int32) (z22 : Int32) (z23 : Int32) (z26 : Int32) (z27 : Int32) (z29 : Int32) (H : Heap) (locs : List Loc) (ls : Array Slot), some R = mf_L_tick_B711 W0 z10 z15 z19 z22 z23 z26 z27 z29 → va_P D vwCl (carW Y ad W0) H → va_D A (carW Y ad W0) → va_S A s.heap H locs → lv_has ls 31 [(0, .ref (ad 0)), (10, .int z10), (15, .int z15), (19, .int z19), (22, .int z22), (23, .int z23), (26, .int z26), (27, .int z27), (29, .int z29)] → W p l e ({ frames := 7, cells := 0, slots := 0, locals := 161 } : Room) s m ([.ref (ad 0), .int x1, .int x2] : List Value).toArray below meth c H locs 0 0 (MQ below (va_Qi (S := Unit) (fun r _ => r = R.1) (fun _ t => va_P D vwCl (carW Y ad R.2) t.heap) A) ([.ref (ad 0), .int x1, .int x2] : List Value).toArray s 0 0 A) (F0 m 711 ls []) := by
    intro W0 z10 z15 z19 z22 z23 z26 z27 z29 H locs ls hr hP hD hS hl
    rw [mf_L_tick_B711] at hr
    refine lv_iconst (v := (0 : Int32)) hx hb dL_tick_711 (by decide) ?_
    refine lv_goto (tgt := 755) hx hb dL_tick_712 (by decide) ?_
    exact B755 W0 z10 z15 z19 z22 z23 z26 z27 z29 (0 : Int32) _ _ _ hr hP hD hS (lv_sub hl [0, 1, 2, 3, 4, 5, 6, 7, 8] rfl)
  have B704 : ∀ (W0 : CarV) (z10 : Int32) (z15 : Int32) (z19 : Int32) (z22 : Int32) (z23 : Int32) (z26 : Int32) (z27 : Int32) (z29 : Int32) (y0 : Int32) (y1 : Int32) (H : Heap) (locs : List Loc) (ls : Array Slot), some R = mf_L_tick_B704 W0 z10 z15 z19 z22 z23 z26 z27 z29 y0 y1 → va_P D vwCl (carW Y ad W0) H → va_D A (carW Y ad W0) → va_S A s.heap H locs → lv_has ls 31 [(0, .ref (ad 0)), (10, .int z10), (15, .int z15), (19, .int z19), (22, .int z22), (23, .int z23), (26, .int z26), (27, .int z27), (29, .int z29)] → W p l e ({ frames := 7, cells := 0, slots := 0, locals := 161 } : Room) s m ([.ref (ad 0), .int x1, .int x2] : List Value).toArray below meth c H locs 0 0 (MQ below (va_Qi (S := Unit) (fun r _ => r = R.1) (fun _ t => va_P D vwCl (carW Y ad R.2) t.heap) A) ([.ref (ad 0), .int x1, .int x2] : List Value).toArray s 0 0 A) (F0 m 704 ls [.int y0, .int y1]) := by
    intro W0 z10 z15 z19 z22 z23 z26 z27 z29 y0 y1 H locs ls hr hP hD hS hl
    rw [mf_L_tick_B704] at hr
    refine lv_icmp_ne (tgt := 711) hx hb dL_tick_704 (by decide) (fun c_92 => ?_) (fun c_92 => ?_)
    · have hr := hr.trans (if_neg c_92)
      exact B711 W0 z10 z15 z19 z22 z23 z26 z27 z29 _ _ _ hr hP hD hS (lv_sub hl [0, 1, 2, 3, 4, 5, 6, 7, 8] rfl)
    · have hr := hr.trans (if_pos c_92)
      refine lv_iconst (v := (1 : Int32)) hx hb dL_tick_707 (by decide) ?_
      refine lv_goto (tgt := 755) hx hb dL_tick_708 (by decide) ?_
      exact B755 W0 z10 z15 z19 z22 z23 z26 z27 z29 (1 : Int32) _ _ _ hr hP hD hS (lv_sub hl [0, 1, 2, 3, 4, 5, 6, 7, 8] rfl)
  have B673 : ∀ (W0 : CarV) (z6 : Int32) (z10 : Int32) (z15 : Int32) (z16 : Int32) (z18 : Int32) (z19 : Int32) (z22 : Int32) (z23 : Int32) (z24 : Int32) (z26 : Int32) (z27 : Int32) (y0 : Int32) (H : Heap) (locs : List Loc) (ls : Array Slot), some R = mf_L_tick_B673 W0 z6 z10 z15 z16 z18 z19 z22 z23 z24 z26 z27 y0 → va_P D vwCl (carW Y ad W0) H → va_D A (carW Y ad W0) → va_S A s.heap H locs → lv_has ls 31 [(0, .ref (ad 0)), (6, .int z6), (10, .int z10), (15, .int z15), (16, .int z16), (18, .int z18), (19, .int z19), (22, .int z22), (23, .int z23), (24, .int z24), (26, .int z26), (27, .int z27)] → W p l e ({ frames := 7, cells := 0, slots := 0, locals := 161 } : Room) s m ([.ref (ad 0), .int x1, .int x2] : List Value).toArray below meth c H locs 0 0 (MQ below (va_Qi (S := Unit) (fun r _ => r = R.1) (fun _ t => va_P D vwCl (carW Y ad R.2) t.heap) A) ([.ref (ad 0), .int x1, .int x2] : List Value).toArray s 0 0 A) (F0 m 673 ls [.int y0]) := by
    intro W0 z6 z10 z15 z16 z18 z19 z22 z23 z24 z26 z27 y0 H locs ls hr hP hD hS hl
    rw [mf_L_tick_B673] at hr
    refine lv_istore (lv' := [(29, .int y0), (0, .ref (ad 0)), (6, .int z6), (10, .int z10), (15, .int z15), (16, .int z16), (18, .int z18), (19, .int z19), (22, .int z22), (23, .int z23), (24, .int z24), (26, .int z26), (27, .int z27)]) hx hb dL_tick_673 hl (by decide) rfl (fun ls hl => ?_)
    refine lv_iload hx hb dL_tick_675 (lv_at hl 11 rfl) ?_
    refine lv_bipush (v := (-5 : Int32)) hx hb dL_tick_677 (by decide) ?_
    refine lv_icmp_ne (tgt := 715) hx hb dL_tick_679 (by decide) (fun c_62 => ?_) (fun c_62 => ?_)
    · have hr := hr.trans (if_neg c_62)
      refine lv_iload hx hb dL_tick_715 (lv_at hl 10 rfl) ?_
      refine lv_iconst (v := (1 : Int32)) hx hb dL_tick_717 (by decide) ?_
      refine lv_icmp_ne (tgt := 754) hx hb dL_tick_718 (by decide) (fun c_63 => ?_) (fun c_63 => ?_)
      · have hr := hr.trans (if_neg c_63)
        exact B754 W0 z10 z15 z19 z22 z23 z26 z27 y0 _ _ _ hr hP hD hS (lv_sub hl [1, 3, 4, 7, 8, 9, 11, 12, 0] rfl)
      · have hr := hr.trans (if_pos c_63)
        refine lv_aload_n hx hb dL_tick_721 rfl (lv_at hl 1 rfl) ?_
        refine lv_iconst (v := (1 : Int32)) hx hb dL_tick_722 (by decide) ?_
        refine nmv hr (fun r_79 e_80 hr => ?_)
        refine roV_i (As := [.int (1 : Int32)]) (rest := []) ⟨hx, hb, hml, hown, hts⟩ (k_X5_car l D Y ad W0 (1 : Int32) r_79 e_80) (cwV 1 hts gL_tick_X5_car rfl rfl rfl (by decide +kernel) ⟨Nat.le_of_ble_eq_true rfl, Nat.le_of_ble_eq_true rfl⟩) hP hK hN (hZ.at hS).F 0 5 rfl rfl rfl hl.1 rfl (Nat.le_of_ble_eq_true rfl) dL_tick_723 ⟨Nat.le_refl 0, Nat.le_refl 0⟩ ?_
        refine lv_iload hx hb dL_tick_726 (lv_at hl 11 rfl) ?_
        refine lv_icmp_ne (tgt := 754) hx hb dL_tick_728 (by decide) (fun c_81 => ?_) (fun c_81 => ?_)
        · have hr := hr.trans (if_neg c_81)
          exact B754 W0 z10 z15 z19 z22 z23 z26 z27 y0 _ _ _ hr hP hD hS (lv_sub hl [1, 3, 4, 7, 8, 9, 11, 12, 0] rfl)
        · have hr := hr.trans (if_pos c_81)
          refine lv_aload_n hx hb dL_tick_731 rfl (lv_at hl 1 rfl) ?_
          refine lv_iconst (v := (2 : Int32)) hx hb dL_tick_732 (by decide) ?_
          refine nmv hr (fun r_82 e_83 hr => ?_)
          refine roV_i (As := [.int (2 : Int32)]) (rest := []) ⟨hx, hb, hml, hown, hts⟩ (k_X5_car l D Y ad W0 (2 : Int32) r_82 e_83) (cwV 1 hts gL_tick_X5_car rfl rfl rfl (by decide +kernel) ⟨Nat.le_of_ble_eq_true rfl, Nat.le_of_ble_eq_true rfl⟩) hP hK hN (hZ.at hS).F 0 5 rfl rfl rfl hl.1 rfl (Nat.le_of_ble_eq_true rfl) dL_tick_733 ⟨Nat.le_refl 0, Nat.le_refl 0⟩ ?_
          refine lv_if_ne (tgt := 754) hx hb dL_tick_736 (by decide) (fun c_84 => ?_) (fun c_84 => ?_)
          · have hr := hr.trans (if_neg c_84)
            exact B754 W0 z10 z15 z19 z22 z23 z26 z27 y0 _ _ _ hr hP hD hS (lv_sub hl [1, 3, 4, 7, 8, 9, 11, 12, 0] rfl)
          · have hr := hr.trans (if_pos c_84)
            refine lv_aload_n hx hb dL_tick_739 rfl (lv_at hl 1 rfl) ?_
            refine lv_iconst (v := (0 : Int32)) hx hb dL_tick_740 (by decide) ?_
            refine lv_iconst (v := (0 : Int32)) hx hb dL_tick_741 (by decide) ?_
            refine nmv hr (fun r_85 e_86 hr => ?_)
            refine roV_i (As := [.int (0 : Int32), .int (0 : Int32)]) (rest := []) ⟨hx, hb, hml, hown, hts⟩ (k_X5_change l D Y ad W0 (0 : Int32) (0 : Int32) r_85 e_86) (cwV 2 hts gL_tick_X5_change rfl rfl rfl (by decide +kernel) ⟨Nat.le_of_ble_eq_true rfl, Nat.le_of_ble_eq_true rfl⟩) hP hK hN (hZ.at hS).F 0 5 rfl rfl rfl hl.1 rfl (Nat.le_of_ble_eq_true rfl) dL_tick_742 ⟨Nat.le_refl 0, Nat.le_refl 0⟩ ?_
            refine lv_iload hx hb dL_tick_745 (lv_at hl 5 rfl) ?_
            refine lv_icmp_ne (tgt := 754) hx hb dL_tick_747 (by decide) (fun c_87 => ?_) (fun c_87 => ?_)
            · have hr := hr.trans (if_neg c_87)
              exact B754 W0 z10 z15 z19 z22 z23 z26 z27 y0 _ _ _ hr hP hD hS (lv_sub hl [1, 3, 4, 7, 8, 9, 11, 12, 0] rfl)
            · have hr := hr.trans (if_pos c_87)
              refine lv_iconst (v := (1 : Int32)) hx hb dL_tick_750 (by decide) ?_
              refine lv_goto (tgt := 755) hx hb dL_tick_751 (by decide) ?_
              exact B755 W0 z10 z15 z19 z22 z23 z26 z27 y0 (1 : Int32) _ _ _ hr hP hD hS (lv_sub hl [1, 3, 4, 7, 8, 9, 11, 12, 0] rfl)
    · have hr := hr.trans (if_pos c_62)
      refine lv_iload hx hb dL_tick_682 (lv_at hl 10 rfl) ?_
      refine lv_if_ne (tgt := 711) hx hb dL_tick_684 (by decide) (fun c_88 => ?_) (fun c_88 => ?_)
      · have hr := hr.trans (if_neg c_88)
        exact B711 W0 z10 z15 z19 z22 z23 z26 z27 y0 _ _ _ hr hP hD hS (lv_sub hl [1, 3, 4, 7, 8, 9, 11, 12, 0] rfl)
      · have hr := hr.trans (if_pos c_88)
        refine lv_aload_n hx hb dL_tick_687 rfl (lv_at hl 1 rfl) ?_
        refine lv_iconst (v := (1 : Int32)) hx hb dL_tick_688 (by decide) ?_
        refine nmv hr (fun r_89 e_90 hr => ?_)
        refine roV_i (As := [.int (1 : Int32)]) (rest := []) ⟨hx, hb, hml, hown, hts⟩ (k_X5_car l D Y ad W0 (1 : Int32) r_89 e_90) (cwV 1 hts gL_tick_X5_car rfl rfl rfl (by decide +kernel) ⟨Nat.le_of_ble_eq_true rfl, Nat.le_of_ble_eq_true rfl⟩) hP hK hN (hZ.at hS).F 0 5 rfl rfl rfl hl.1 rfl (Nat.le_of_ble_eq_true rfl) dL_tick_689 ⟨Nat.le_refl 0, Nat.le_refl 0⟩ ?_
        refine lv_iload hx hb dL_tick_692 (lv_at hl 6 rfl) ?_
        refine lv_if_eq (tgt := 702) hx hb dL_tick_694 (by decide) (fun c_91 => ?_) (fun c_91 => ?_)
        · have hr := hr.trans (if_pos c_91)
          refine lv_iload hx hb dL_tick_702 (lv_at hl 2 rfl) ?_
          exact B704 W0 z10 z15 z19 z22 z23 z26 z27 y0 z6 r_89 _ _ _ hr hP hD hS (lv_sub hl [1, 3, 4, 7, 8, 9, 11, 12, 0] rfl)
        · have hr := hr.trans (if_neg c_91)
          refine lv_bipush (v := (-5 : Int32)) hx hb dL_tick_697 (by decide) ?_
          refine lv_goto (tgt := 704) hx hb dL_tick_699 (by decide) ?_
          exact B704 W0 z10 z15 z19 z22 z23 z26 z27 y0 (-5 : Int32) r_89 _ _ _ hr hP hD hS (lv_sub hl [1, 3, 4, 7, 8, 9, 11, 12, 0] rfl)
  have B672 : ∀ (W0 : CarV) (z6 : Int32) (z10 : Int32) (z15 : Int32) (z16 : Int32) (z18 : Int32) (z19 : Int32) (z22 : Int32) (z23 : Int32) (z24 : Int32) (z26 : Int32) (z27 : Int32) (H : Heap) (locs : List Loc) (ls : Array Slot), some R = mf_L_tick_B672 W0 z6 z10 z15 z16 z18 z19 z22 z23 z24 z26 z27 → va_P D vwCl (carW Y ad W0) H → va_D A (carW Y ad W0) → va_S A s.heap H locs → lv_has ls 31 [(0, .ref (ad 0)), (6, .int z6), (10, .int z10), (15, .int z15), (16, .int z16), (18, .int z18), (19, .int z19), (22, .int z22), (23, .int z23), (24, .int z24), (26, .int z26), (27, .int z27)] → W p l e ({ frames := 7, cells := 0, slots := 0, locals := 161 } : Room) s m ([.ref (ad 0), .int x1, .int x2] : List Value).toArray below meth c H locs 0 0 (MQ below (va_Qi (S := Unit) (fun r _ => r = R.1) (fun _ t => va_P D vwCl (carW Y ad R.2) t.heap) A) ([.ref (ad 0), .int x1, .int x2] : List Value).toArray s 0 0 A) (F0 m 672 ls []) := by
    intro W0 z6 z10 z15 z16 z18 z19 z22 z23 z24 z26 z27 H locs ls hr hP hD hS hl
    rw [mf_L_tick_B672] at hr
    refine lv_iconst (v := (0 : Int32)) hx hb dL_tick_672 (by decide) ?_
    exact B673 W0 z6 z10 z15 z16 z18 z19 z22 z23 z24 z26 z27 (0 : Int32) _ _ _ hr hP hD hS (lv_sub hl [0, 1, 2, 3, 4, 5, 6, 7, 8, 9, 10, 11] rfl)
  have B651 : ∀ (W0 : CarV) (z6 : Int32) (z10 : Int32) (z15 : Int32) (z16 : Int32) (z18 : Int32) (z19 : Int32) (z22 : Int32) (z23 : Int32) (z24 : Int32) (z26 : Int32) (z27 : Int32) (H : Heap) (locs : List Loc) (ls : Array Slot), some R = mf_L_tick_B651 W0 z6 z10 z15 z16 z18 z19 z22 z23 z24 z26 z27 → va_P D vwCl (carW Y ad W0) H → va_D A (carW Y ad W0) → va_S A s.heap H locs → lv_has ls 31 [(0, .ref (ad 0)), (6, .int z6), (10, .int z10), (15, .int z15), (16, .int z16), (18, .int z18), (19, .int z19), (22, .int z22), (23, .int z23), (24, .int z24), (26, .int z26), (27, .int z27)] → W p l e ({ frames := 7, cells := 0, slots := 0, locals := 161 } : Room) s m ([.ref (ad 0), .int x1, .int x2] : List Value).toArray below meth c H locs 0 0 (MQ below (va_Qi (S := Unit) (fun r _ => r = R.1) (fun _ t => va_P D vwCl (carW Y ad R.2) t.heap) A) ([.ref (ad 0), .int x1, .int x2] : List Value).toArray s 0 0 A) (F0 m 651 ls []) := by
    intro W0 z6 z10 z15 z16 z18 z19 z22 z23 z24 z26 z27 H locs ls hr hP hD hS hl
    rw [mf_L_tick_B651] at hr
    refine lv_aload_n hx hb dL_tick_651 rfl (lv_at hl 0 rfl) ?_
    refine lv_iconst (v := (0 : Int32)) hx hb dL_tick_652 (by decide) ?_
    refine lv_iconst (v := (4 : Int32)) hx hb dL_tick_653 (by decide) ?_
    refine nmv hr (fun r_99 e_100 hr => ?_)
    refine roV_i (As := [.int (0 : Int32), .int (4 : Int32)]) (rest := []) ⟨hx, hb, hml, hown, hts⟩ (k_X5_change l D Y ad W0 (0 : Int32) (4 : Int32) r_99 e_100) (cwV 2 hts gL_tick_X5_change rfl rfl rfl (by decide +kernel) ⟨Nat.le_of_ble_eq_true rfl, Nat.le_of_ble_eq_true rfl⟩) hP hK hN (hZ.at hS).F 0 5 rfl rfl rfl hl.1 rfl (Nat.le_of_ble_eq_true rfl) dL_tick_654 ⟨Nat.le_refl 0, Nat.le_refl 0⟩ ?_
    refine lv_iconst (v := (1 : Int32)) hx hb dL_tick_657 (by decide) ?_
    refine lv_icmp_ne (tgt := 672) hx hb dL_tick_658 (by decide) (fun c_101 => ?_) (fun c_101 => ?_)
    · have hr := hr.trans (if_neg c_101)
      exact B672 W0 z6 z10 z15 z16 z18 z19 z22 z23 z24 z26 z27 _ _ _ hr hP hD hS (lv_sub hl [0, 1, 2, 3, 4, 5, 6, 7, 8, 9, 10, 11] rfl)
    · have hr := hr.trans (if_pos c_101)
      refine lv_aload_n hx hb dL_tick_661 rfl (lv_at hl 0 rfl) ?_
      refine bdv hr (fun r_102 e_103 hr => ?_)
      refine roS_i (As := [.ref (ad 0)]) (rest := []) ⟨hx, hb, hml, hown, hts⟩ (k_L_wentToAndFro l D Y ad W0 r_102 e_103) (va_cwS 1 hts gL_tick_L_wentToAndFro rfl rfl rfl (by decide +kernel) ⟨Nat.le_of_ble_eq_true rfl, Nat.le_of_ble_eq_true rfl⟩) hP hK hN (hZ.at hS).F rfl hl.1 rfl (Nat.le_of_ble_eq_true rfl) dL_tick_662 ⟨Nat.le_refl 0, Nat.le_refl 0⟩ ?_
      refine lv_if_eq (tgt := 672) hx hb dL_tick_665 (by decide) (fun c_104 => ?_) (fun c_104 => ?_)
      · have hr := hr.trans (if_pos c_104)
        exact B672 W0 z6 z10 z15 z16 z18 z19 z22 z23 z24 z26 z27 _ _ _ hr hP hD hS (lv_sub hl [0, 1, 2, 3, 4, 5, 6, 7, 8, 9, 10, 11] rfl)
      · have hr := hr.trans (if_neg c_104)
        refine lv_iconst (v := (1 : Int32)) hx hb dL_tick_668 (by decide) ?_
        refine lv_goto (tgt := 673) hx hb dL_tick_669 (by decide) ?_
        exact B673 W0 z6 z10 z15 z16 z18 z19 z22 z23 z24 z26 z27 (1 : Int32) _ _ _ hr hP hD hS (lv_sub hl [0, 1, 2, 3, 4, 5, 6, 7, 8, 9, 10, 11] rfl)
  have B584 : ∀ (W0 : CarV) (z6 : Int32) (z10 : Int32) (z15 : Int32) (z16 : Int32) (z18 : Int32) (z19 : Int32) (z22 : Int32) (z23 : Int32) (z24 : Int32) (z26 : Int32) (z27 : Int32) (y0 : Int32) (H : Heap) (locs : List Loc) (ls : Array Slot), some R = mf_L_tick_B584 W0 z6 z10 z15 z16 z18 z19 z22 z23 z24 z26 z27 y0 → va_P D vwCl (carW Y ad W0) H → va_D A (carW Y ad W0) → va_S A s.heap H locs → lv_has ls 31 [(0, .ref (ad 0)), (6, .int z6), (10, .int z10), (15, .int z15), (16, .int z16), (18, .int z18), (19, .int z19), (22, .int z22), (23, .int z23), (24, .int z24), (26, .int z26), (27, .int z27)] → W p l e ({ frames := 7, cells := 0, slots := 0, locals := 161 } : Room) s m ([.ref (ad 0), .int x1, .int x2] : List Value).toArray below meth c H locs 0 0 (MQ below (va_Qi (S := Unit) (fun r _ => r = R.1) (fun _ t => va_P D vwCl (carW Y ad R.2) t.heap) A) ([.ref (ad 0), .int x1, .int x2] : List Value).toArray s 0 0 A) (F0 m 584 ls [.int y0]) := by
    intro W0 z6 z10 z15 z16 z18 z19 z22 z23 z24 z26 z27 y0 H locs ls hr hP hD hS hl
    rw [mf_L_tick_B584] at hr
    refine lv_istore (lv' := [(28, .int y0), (0, .ref (ad 0)), (6, .int z6), (10, .int z10), (15, .int z15), (16, .int z16), (18, .int z18), (19, .int z19), (22, .int z22), (23, .int z23), (24, .int z24), (26, .int z26), (27, .int z27)]) hx hb dL_tick_584 hl (by decide) rfl (fun ls hl => ?_)
    refine lv_aload_n hx hb dL_tick_586 rfl (lv_at hl 1 rfl) ?_
    refine lv_bipush (v := (6 : Int32)) hx hb dL_tick_587 (by decide) ?_
    refine nmv hr (fun r_56 e_57 hr => ?_)
    refine roV_i (As := [.int (6 : Int32)]) (rest := []) ⟨hx, hb, hml, hown, hts⟩ (k_X5_count l D Y ad W0 (6 : Int32) r_56 e_57) (cwV 1 hts gL_tick_X5_count rfl rfl rfl (by decide +kernel) ⟨Nat.le_of_ble_eq_true rfl, Nat.le_of_ble_eq_true rfl⟩) hP hK hN (hZ.at hS).F 0 5 rfl rfl rfl hl.1 rfl (Nat.le_of_ble_eq_true rfl) dL_tick_589 ⟨Nat.le_refl 0, Nat.le_refl 0⟩ ?_
    refine lv_iload hx hb dL_tick_592 (lv_at hl 4 rfl) ?_
    refine lv_icmp_ne (tgt := 615) hx hb dL_tick_594 (by decide) (fun c_58 => ?_) (fun c_58 => ?_)
    · have hr := hr.trans (if_neg c_58)
      refine lv_aload_n hx hb dL_tick_615 rfl (lv_at hl 1 rfl) ?_
      refine lv_bipush (v := (6 : Int32)) hx hb dL_tick_616 (by decide) ?_
      refine nmv hr (fun r_59 e_60 hr => ?_)
      refine roV_i (As := [.int (6 : Int32)]) (rest := []) ⟨hx, hb, hml, hown, hts⟩ (k_X5_count l D Y ad W0 (6 : Int32) r_59 e_60) (cwV 1 hts gL_tick_X5_count rfl rfl rfl (by decide +kernel) ⟨Nat.le_of_ble_eq_true rfl, Nat.le_of_ble_eq_true rfl⟩) hP hK hN (hZ.at hS).F 0 5 rfl rfl rfl hl.1 rfl (Nat.le_of_ble_eq_true rfl) dL_tick_618 ⟨Nat.le_refl 0, Nat.le_refl 0⟩ ?_
      refine lv_iload hx hb dL_tick_621 (lv_at hl 4 rfl) ?_
      refine lv_iconst (v := (1 : Int32)) hx hb dL_tick_623 (by decide) ?_
      refine lv_iadd hx hb dL_tick_624 ?_
      refine lv_icmp_ne (tgt := 672) hx hb dL_tick_625 (by decide) (fun c_61 => ?_) (fun c_61 => ?_)
      · have hr := hr.trans (if_neg c_61)
        exact B672 W0 z6 z10 z15 z16 z18 z19 z22 z23 z24 z26 z27 _ _ _ hr hP hD hS (lv_sub hl [1, 2, 3, 4, 5, 6, 7, 8, 9, 10, 11, 12] rfl)
      · have hr := hr.trans (if_pos c_61)
        refine lv_aload_n hx hb dL_tick_628 rfl (lv_at hl 1 rfl) ?_
        refine lv_iconst (v := (3 : Int32)) hx hb dL_tick_629 (by decide) ?_
        refine nmv hr (fun r_93 e_94 hr => ?_)
        refine roV_i (As := [.int (3 : Int32)]) (rest := []) ⟨hx, hb, hml, hown, hts⟩ (k_X5_car l D Y ad W0 (3 : Int32) r_93 e_94) (cwV 1 hts gL_tick_X5_car rfl rfl rfl (by decide +kernel) ⟨Nat.le_of_ble_eq_true rfl, Nat.le_of_ble_eq_true rfl⟩) hP hK hN (hZ.at hS).F 0 5 rfl rfl rfl hl.1 rfl (Nat.le_of_ble_eq_true rfl) dL_tick_630 ⟨Nat.le_refl 0, Nat.le_refl 0⟩ ?_
        refine lv_aload_n hx hb dL_tick_633 rfl (lv_at hl 1 rfl) ?_
        refine lv_iconst (v := (3 : Int32)) hx hb dL_tick_634 (by decide) ?_
        refine nmv hr (fun r_95 e_96 hr => ?_)
        refine roV_i (As := [.int (3 : Int32)]) (rest := [.int r_93]) ⟨hx, hb, hml, hown, hts⟩ (k_X5_number l D Y ad W0 (3 : Int32) r_95 e_96) (cwV 1 hts gL_tick_X5_number rfl rfl rfl (by decide +kernel) ⟨Nat.le_of_ble_eq_true rfl, Nat.le_of_ble_eq_true rfl⟩) hP hK hN (hZ.at hS).F 0 5 rfl rfl rfl hl.1 rfl (Nat.le_of_ble_eq_true rfl) dL_tick_635 ⟨Nat.le_refl 0, Nat.le_refl 0⟩ ?_
        refine lv_icmp_ne (tgt := 672) hx hb dL_tick_638 (by decide) (fun c_97 => ?_) (fun c_97 => ?_)
        · have hr := hr.trans (if_neg c_97)
          exact B672 W0 z6 z10 z15 z16 z18 z19 z22 z23 z24 z26 z27 _ _ _ hr hP hD hS (lv_sub hl [1, 2, 3, 4, 5, 6, 7, 8, 9, 10, 11, 12] rfl)
        · have hr := hr.trans (if_pos c_97)
          refine lv_iload hx hb dL_tick_641 (lv_at hl 8 rfl) ?_
          refine lv_if_ne (tgt := 651) hx hb dL_tick_643 (by decide) (fun c_98 => ?_) (fun c_98 => ?_)
          · have hr := hr.trans (if_neg c_98)
            exact B651 W0 z6 z10 z15 z16 z18 z19 z22 z23 z24 z26 z27 _ _ _ hr hP hD hS (lv_sub hl [1, 2, 3, 4, 5, 6, 7, 8, 9, 10, 11, 12] rfl)
          · have hr := hr.trans (if_pos c_98)
            refine lv_iload hx hb dL_tick_646 (lv_at hl 9 rfl) ?_
            refine lv_if_eq (tgt := 672) hx hb dL_tick_648 (by decide) (fun c_105 => ?_) (fun c_105 => ?_)
            · have hr := hr.trans (if_pos c_105)
              exact B672 W0 z6 z10 z15 z16 z18 z19 z22 z23 z24 z26 z27 _ _ _ hr hP hD hS (lv_sub hl [1, 2, 3, 4, 5, 6, 7, 8, 9, 10, 11, 12] rfl)
            · have hr := hr.trans (if_neg c_105)
              exact B651 W0 z6 z10 z15 z16 z18 z19 z22 z23 z24 z26 z27 _ _ _ hr hP hD hS (lv_sub hl [1, 2, 3, 4, 5, 6, 7, 8, 9, 10, 11, 12] rfl)
    · have hr := hr.trans (if_pos c_58)
      refine lv_aload_n hx hb dL_tick_597 rfl (lv_at hl 1 rfl) ?_
      refine lv_iconst (v := (3 : Int32)) hx hb dL_tick_598 (by decide) ?_
      refine nmv hr (fun r_106 e_107 hr => ?_)
      refine roV_i (As := [.int (3 : Int32)]) (rest := []) ⟨hx, hb, hml, hown, hts⟩ (k_X5_car l D Y ad W0 (3 : Int32) r_106 e_107) (cwV 1 hts gL_tick_X5_car rfl rfl rfl (by decide +kernel) ⟨Nat.le_of_ble_eq_true rfl, Nat.le_of_ble_eq_true rfl⟩) hP hK hN (hZ.at hS).F 0 5 rfl rfl rfl hl.1 rfl (Nat.le_of_ble_eq_true rfl) dL_tick_599 ⟨Nat.le_refl 0, Nat.le_refl 0⟩ ?_
      refine lv_iload hx hb dL_tick_602 (lv_at hl 0 rfl) ?_
      refine lv_icmp_ne (tgt := 611) hx hb dL_tick_604 (by decide) (fun c_108 => ?_) (fun c_108 => ?_)
      · have hr := hr.trans (if_neg c_108)
        refine lv_iconst (v := (0 : Int32)) hx hb dL_tick_611 (by decide) ?_
        refine lv_goto (tgt := 673) hx hb dL_tick_612 (by decide) ?_
        exact B673 W0 z6 z10 z15 z16 z18 z19 z22 z23 z24 z26 z27 (0 : Int32) _ _ _ hr hP hD hS (lv_sub hl [1, 2, 3, 4, 5, 6, 7, 8, 9, 10, 11, 12] rfl)
      · have hr := hr.trans (if_pos c_108)
        refine lv_iconst (v := (1 : Int32)) hx hb dL_tick_607 (by decide) ?_
        refine lv_goto (tgt := 673) hx hb dL_tick_608 (by decide) ?_
        exact B673 W0 z6 z10 z15 z16 z18 z19 z22 z23 z24 z26 z27 (1 : Int32) _ _ _ hr hP hD hS (lv_sub hl [1, 2, 3, 4, 5, 6, 7, 8, 9, 10, 11, 12] rfl)
  have B569 : ∀ (W0 : CarV) (z6 : Int32) (z8 : Int32) (z10 : Int32) (z15 : Int32) (z16 : Int32) (z18 : Int32) (z19 : Int32) (z22 : Int32) (z23 : Int32) (z24 : Int32) (z26 : Int32) (y0 : Int32) (H : Heap) (locs : List Loc) (ls : Array Slot), some R = mf_L_tick_B569 W0 z6 z8 z10 z15 z16 z18 z19 z22 z23 z24 z26 y0 → va_P D vwCl (carW Y ad W0) H → va_D A (carW Y ad W0) → va_S A s.heap H locs → lv_has ls 31 [(0, .ref (ad 0)), (6, .int z6), (8, .int z8), (10, .int z10), (15, .int z15), (16, .int z16), (18, .int z18), (19, .int z19), (22, .int z22), (23, .int z23), (24, .int z24), (26, .int z26)] → W p l e ({ frames := 7, cells := 0, slots := 0, locals := 161 } : Room) s m ([.ref (ad 0), .int x1, .int x2] : List Value).toArray below meth c H locs 0 0 (MQ below (va_Qi (S := Unit) (fun r _ => r = R.1) (fun _ t => va_P D vwCl (carW Y ad R.2) t.heap) A) ([.ref (ad 0), .int x1, .int x2] : List Value).toArray s 0 0 A) (F0 m 569 ls [.int y0]) := by
    intro W0 z6 z8 z10 z15 z16 z18 z19 z22 z23 z24 z26 y0 H locs ls hr hP hD hS hl
    rw [mf_L_tick_B569] at hr
    refine lv_istore (lv' := [(27, .int y0), (0, .ref (ad 0)), (6, .int z6), (8, .int z8), (10, .int z10), (15, .int z15), (16, .int z16), (18, .int z18), (19, .int z19), (22, .int z22), (23, .int z23), (24, .int z24), (26, .int z26)]) hx hb dL_tick_569 hl (by decide) rfl (fun ls hl => ?_)
    refine lv_iload hx hb dL_tick_571 (lv_at hl 3 rfl) ?_
    refine lv_if_le (tgt := 583) hx hb dL_tick_573 (by decide) (fun c_55 => ?_) (fun c_55 => ?_)
    · have hr := hr.trans (if_pos c_55)
      refine lv_iconst (v := (0 : Int32)) hx hb dL_tick_583 (by decide) ?_
      exact B584 W0 z6 z10 z15 z16 z18 z19 z22 z23 z24 z26 y0 (0 : Int32) _ _ _ hr hP hD hS (lv_sub hl [1, 2, 4, 5, 6, 7, 8, 9, 10, 11, 12, 0] rfl)
    · have hr := hr.trans (if_neg c_55)
      refine lv_iload hx hb dL_tick_576 (lv_at hl 3 rfl) ?_
      refine lv_iconst (v := (1 : Int32)) hx hb dL_tick_578 (by decide) ?_
      refine lv_isub hx hb dL_tick_579 ?_
      refine lv_goto (tgt := 584) hx hb dL_tick_580 (by decide) ?_
      exact B584 W0 z6 z10 z15 z16 z18 z19 z22 z23 z24 z26 y0 (z8 - (1 : Int32)) _ _ _ hr hP hD hS (lv_sub hl [1, 2, 4, 5, 6, 7, 8, 9, 10, 11, 12, 0] rfl)
  have B568 : ∀ (W0 : CarV) (z6 : Int32) (z8 : Int32) (z10 : Int32) (z15 : Int32) (z16 : Int32) (z18 : Int32) (z19 : Int32) (z22 : Int32) (z23 : Int32) (z24 : Int32) (z26 : Int32) (H : Heap) (locs : List Loc) (ls : Array Slot), some R = mf_L_tick_B568 W0 z6 z8 z10 z15 z16 z18 z19 z22 z23 z24 z26 → va_P D vwCl (carW Y ad W0) H → va_D A (carW Y ad W0) → va_S A s.heap H locs → lv_has ls 31 [(0, .ref (ad 0)), (6, .int z6), (8, .int z8), (10, .int z10), (15, .int z15), (16, .int z16), (18, .int z18), (19, .int z19), (22, .int z22), (23, .int z23), (24, .int z24), (26, .int z26)] → W p l e ({ frames := 7, cells := 0, slots := 0, locals := 161 } : Room) s m ([.ref (ad 0), .int x1, .int x2] : List Value).toArray below meth c H locs 0 0 (MQ below (va_Qi (S := Unit) (fun r _ => r = R.1) (fun _ t => va_P D vwCl (carW Y ad R.2) t.heap) A) ([.ref (ad 0), .int x1, .int x2] : List Value).toArray s 0 0 A) (F0 m 568 ls []) := by
    intro W0 z6 z8 z10 z15 z16 z18 z19 z22 z23 z24 z26 H locs ls hr hP hD hS hl
    rw [mf_L_tick_B568] at hr
    refine lv_iconst (v := (0 : Int32)) hx hb dL_tick_568 (by decide) ?_
    exact B569 W0 z6 z8 z10 z15 z16 z18 z19 z22 z23 z24 z26 (0 : Int32) _ _ _ hr hP hD hS (lv_sub hl [0, 1, 2, 3, 4, 5, 6, 7, 8, 9, 10, 11] rfl)
  have B560 : ∀ (W0 : CarV) (z6 : Int32) (z8 : Int32) (z10 : Int32) (z15 : Int32) (z16 : Int32) (z18 : Int32) (z19 : Int32) (z22 : Int32) (z23 : Int32) (z24 : Int32) (z26 : Int32) (y0 : Int32) (y1 : Int32) (y2 : Int32) (H : Heap) (locs : List Loc) (ls : Array Slot), some R = mf_L_tick_B560 W0 z6 z8 z10 z15 z16 z18 z19 z22 z23 z24 z26 y0 y1 y2 → va_P D vwCl (carW Y ad W0) H → va_D A (carW Y ad W0) → va_S A s.heap H locs → lv_has ls 31 [(0, .ref (ad 0)), (6, .int z6), (8, .int z8), (10, .int z10), (15, .int z15), (16, .int z16), (18, .int z18), (19, .int z19), (22, .int z22), (23, .int z23), (24, .int z24), (26, .int z26)] → W p l e ({ frames := 7, cells := 0, slots := 0, locals := 161 } : Room) s m ([.ref (ad 0), .int x1, .int x2] : List Value).toArray below meth c H locs 0 0 (MQ below (va_Qi (S := Unit) (fun r _ => r = R.1) (fun _ t => va_P D vwCl (carW Y ad R.2) t.heap) A) ([.ref (ad 0), .int x1, .int x2] : List Value).toArray s 0 0 A) (F0 m 560 ls [.int y0, .int y1, .int y2]) := by
    intro W0 z6 z8 z10 z15 z16 z18 z19 z22 z23 z24 z26 y0 y1 y2 H locs ls hr hP hD hS hl
    rw [mf_L_tick_B560] at hr
    refine lv_iadd hx hb dL_tick_560 ?_
    refine lv_icmp_ne (tgt := 568) hx hb dL_tick_561 (by decide) (fun c_116 => ?_) (fun c_116 => ?_)
    · have hr := hr.trans (if_neg c_116)
      exact B568 W0 z6 z8 z10 z15 z16 z18 z19 z22 z23 z24 z26 _ _ _ hr hP hD hS (lv_sub hl [0, 1, 2, 3, 4, 5, 6, 7, 8, 9, 10, 11] rfl)
    · have hr := hr.trans (if_pos c_116)
      refine lv_iconst (v := (1 : Int32)) hx hb dL_tick_564 (by decide) ?_
      refine lv_goto (tgt := 569) hx hb dL_tick_565 (by decide) ?_
      exact B569 W0 z6 z8 z10 z15 z16 z18 z19 z22 z23 z24 z26 (1 : Int32) _ _ _ hr hP hD hS (lv_sub hl [0, 1, 2, 3, 4, 5, 6, 7, 8, 9, 10, 11] rfl)
  have B539 : ∀ (W0 : CarV) (z6 : Int32) (z8 : Int32) (z10 : Int32) (z12 : Int32) (z15 : Int32) (z16 : Int32) (z18 : Int32) (z19 : Int32) (z22 : Int32) (z23 : Int32) (z24 : Int32) (z26 : Int32) (y0 : Int32) (y1 : Int32) (y2 : Int32) (H : Heap) (locs : List Loc) (ls : Array Slot), some R = mf_L_tick_B539 W0 z6 z8 z10 z12 z15 z16 z18 z19 z22 z23 z24 z26 y0 y1 y2 → va_P D vwCl (carW Y ad W0) H → va_D A (carW Y ad W0) → va_S A s.heap H locs → lv_has ls 31 [(0, .ref (ad 0)), (6, .int z6), (8, .int z8), (10, .int z10), (12, .int z12), (15, .int z15), (16, .int z16), (18, .int z18), (19, .int z19), (22, .int z22), (23, .int z23), (24, .int z24), (26, .int z26)] → W p l e ({ frames := 7, cells := 0, slots := 0, locals := 161 } : Room) s m ([.ref (ad 0), .int x1, .int x2] : List Value).toArray below meth c H locs 0 0 (MQ below (va_Qi (S := Unit) (fun r _ => r = R.1) (fun _ t => va_P D vwCl (carW Y ad R.2) t.heap) A) ([.ref (ad 0), .int x1, .int x2] : List Value).toArray s 0 0 A) (F0 m 539 ls [.int y0, .int y1, .int y2]) := by
    intro W0 z6 z8 z10 z12 z15 z16 z18 z19 z22 z23 z24 z26 y0 y1 y2 H locs ls hr hP hD hS hl
    rw [mf_L_tick_B539] at hr
    refine lv_iadd hx hb dL_tick_539 ?_
    refine lv_icmp_ne (tgt := 568) hx hb dL_tick_540 (by decide) (fun c_112 => ?_) (fun c_112 => ?_)
    · have hr := hr.trans (if_neg c_112)
      exact B568 W0 z6 z8 z10 z15 z16 z18 z19 z22 z23 z24 z26 _ _ _ hr hP hD hS (lv_sub hl [0, 1, 2, 3, 5, 6, 7, 8, 9, 10, 11, 12] rfl)
    · have hr := hr.trans (if_pos c_112)
      refine lv_aload_n hx hb dL_tick_543 rfl (lv_at hl 0 rfl) ?_
      refine lv_iconst (v := (2 : Int32)) hx hb dL_tick_544 (by decide) ?_
      refine nmv hr (fun r_113 e_114 hr => ?_)
      refine roV_i (As := [.int (2 : Int32)]) (rest := []) ⟨hx, hb, hml, hown, hts⟩ (k_X5_count l D Y ad W0 (2 : Int32) r_113 e_114) (cwV 1 hts gL_tick_X5_count rfl rfl rfl (by decide +kernel) ⟨Nat.le_of_ble_eq_true rfl, Nat.le_of_ble_eq_true rfl⟩) hP hK hN (hZ.at hS).F 0 5 rfl rfl rfl hl.1 rfl (Nat.le_of_ble_eq_true rfl) dL_tick_545 ⟨Nat.le_refl 0, Nat.le_refl 0⟩ ?_
      refine lv_iload hx hb dL_tick_548 (lv_at hl 4 rfl) ?_
      refine lv_iload hx hb dL_tick_550 (lv_at hl 10 rfl) ?_
      refine lv_if_eq (tgt := 559) hx hb dL_tick_552 (by decide) (fun c_115 => ?_) (fun c_115 => ?_)
      · have hr := hr.trans (if_pos c_115)
        refine lv_iconst (v := (0 : Int32)) hx hb dL_tick_559 (by decide) ?_
        exact B560 W0 z6 z8 z10 z15 z16 z18 z19 z22 z23 z24 z26 (0 : Int32) z12 r_113 _ _ _ hr hP hD hS (lv_sub hl [0, 1, 2, 3, 5, 6, 7, 8, 9, 10, 11, 12] rfl)
      · have hr := hr.trans (if_neg c_115)
        refine lv_iconst (v := (1 : Int32)) hx hb dL_tick_555 (by decide) ?_
        refine lv_goto (tgt := 560) hx hb dL_tick_556 (by decide) ?_
        exact B560 W0 z6 z8 z10 z15 z16 z18 z19 z22 z23 z24 z26 (1 : Int32) z12 r_113 _ _ _ hr hP hD hS (lv_sub hl [0, 1, 2, 3, 5, 6, 7, 8, 9, 10, 11, 12] rfl)
  have B518 : ∀ (W0 : CarV) (z6 : Int32) (z8 : Int32) (z10 : Int32) (z11 : Int32) (z12 : Int32) (z15 : Int32) (z16 : Int32) (z18 : Int32) (z19 : Int32) (z22 : Int32) (z23 : Int32) (z24 : Int32) (z26 : Int32) (y0 : Int32) (y1 : Int32) (y2 : Int32) (H : Heap) (locs : List Loc) (ls : Array Slot), some R = mf_L_tick_B518 W0 z6 z8 z10 z11 z12 z15 z16 z18 z19 z22 z23 z24 z26 y0 y1 y2 → va_P D vwCl (carW Y ad W0) H → va_D A (carW Y ad W0) → va_S A s.heap H locs → lv_has ls 31 [(0, .ref (ad 0)), (6, .int z6), (8, .int z8), (10, .int z10), (11, .int z11), (12, .int z12), (15, .int z15), (16, .int z16), (18, .int z18), (19, .int z19), (22, .int z22), (23, .int z23), (24, .int z24), (26, .int z26)] → W p l e ({ frames := 7, cells := 0, slots := 0, locals := 161 } : Room) s m ([.ref (ad 0), .int x1, .int x2] : List Value).toArray below meth c H locs 0 0 (MQ below (va_Qi (S := Unit) (fun r _ => r = R.1) (fun _ t => va_P D vwCl (carW Y ad R.2) t.heap) A) ([.ref (ad 0), .int x1, .int x2] : List Value).toArray s 0 0 A) (F0 m 518 ls [.int y0, .int y1, .int y2]) := by
    intro W0 z6 z8 z10 z11 z12 z15 z16 z18 z19 z22 z23 z24 z26 y0 y1 y2 H locs ls hr hP hD hS hl
    rw [mf_L_tick_B518] at hr
    refine lv_iadd hx hb dL_tick_518 ?_
    refine lv_icmp_ne (tgt := 568) hx hb dL_tick_519 (by decide) (fun c_54 => ?_) (fun c_54 => ?_)
    · have hr := hr.trans (if_neg c_54)
      exact B568 W0 z6 z8 z10 z15 z16 z18 z19 z22 z23 z24 z26 _ _ _ hr hP hD hS (lv_sub hl [0, 1, 2, 3, 6, 7, 8, 9, 10, 11, 12, 13] rfl)
    · have hr := hr.trans (if_pos c_54)
      refine lv_aload_n hx hb dL_tick_522 rfl (lv_at hl 0 rfl) ?_
      refine lv_iconst (v := (1 : Int32)) hx hb dL_tick_523 (by decide) ?_
      refine nmv hr (fun r_109 e_110 hr => ?_)
      refine roV_i (As := [.int (1 : Int32)]) (rest := []) ⟨hx, hb, hml, hown, hts⟩ (k_X5_count l D Y ad W0 (1 : Int32) r_109 e_110) (cwV 1 hts gL_tick_X5_count rfl rfl rfl (by decide +kernel) ⟨Nat.le_of_ble_eq_true rfl, Nat.le_of_ble_eq_true rfl⟩) hP hK hN (hZ.at hS).F 0 5 rfl rfl rfl hl.1 rfl (Nat.le_of_ble_eq_true rfl) dL_tick_524 ⟨Nat.le_refl 0, Nat.le_refl 0⟩ ?_
      refine lv_iload hx hb dL_tick_527 (lv_at hl 4 rfl) ?_
      refine lv_iload hx hb dL_tick_529 (lv_at hl 10 rfl) ?_
      refine lv_if_eq (tgt := 538) hx hb dL_tick_531 (by decide) (fun c_111 => ?_) (fun c_111 => ?_)
      · have hr := hr.trans (if_pos c_111)
        refine lv_iconst (v := (0 : Int32)) hx hb dL_tick_538 (by decide) ?_
        exact B539 W0 z6 z8 z10 z12 z15 z16 z18 z19 z22 z23 z24 z26 (0 : Int32) z11 r_109 _ _ _ hr hP hD hS (lv_sub hl [0, 1, 2, 3, 5, 6, 7, 8, 9, 10, 11, 12, 13] rfl)
      · have hr := hr.trans (if_neg c_111)
        refine lv_iconst (v := (1 : Int32)) hx hb dL_tick_534 (by decide) ?_
        refine lv_goto (tgt := 539) hx hb dL_tick_535 (by decide) ?_
        exact B539 W0 z6 z8 z10 z12 z15 z16 z18 z19 z22 z23 z24 z26 (1 : Int32) z11 r_109 _ _ _ hr hP hD hS (lv_sub hl [0, 1, 2, 3, 5, 6, 7, 8, 9, 10, 11, 12, 13] rfl)
  have B499 : ∀ (W0 : CarV) (z6 : Int32) (z8 : Int32) (z10 : Int32) (z11 : Int32) (z12 : Int32) (z14 : Int32) (z15 : Int32) (z16 : Int32) (z18 : Int32) (z19 : Int32) (z20 : Int32) (z22 : Int32) (z23 : Int32) (z24 : Int32) (y0 : Int32) (H : Heap) (locs : List Loc) (ls : Array Slot), some R = mf_L_tick_B499 W0 z6 z8 z10 z11 z12 z14 z15 z16 z18 z19 z20 z22 z23 z24 y0 → va_P D vwCl (carW Y ad W0) H → va_D A (carW Y ad W0) → va_S A s.heap H locs → lv_has ls 31 [(0, .ref (ad 0)), (6, .int z6), (8, .int z8), (10, .int z10), (11, .int z11), (12, .int z12), (14, .int z14), (15, .int z15), (16, .int z16), (18, .int z18), (19, .int z19), (20, .int z20), (22, .int z22), (23, .int z23), (24, .int z24)] → W p l e ({ frames := 7, cells := 0, slots := 0, locals := 161 } : Room) s m ([.ref (ad 0), .int x1, .int x2] : List Value).toArray below meth c H locs 0 0 (MQ below (va_Qi (S := Unit) (fun r _ => r = R.1) (fun _ t => va_P D vwCl (carW Y ad R.2) t.heap) A) ([.ref (ad 0), .int x1, .int x2] : List Value).toArray s 0 0 A) (F0 m 499 ls [.int y0]) := by
    intro W0 z6 z8 z10 z11 z12 z14 z15 z16 z18 z19 z20 z22 z23 z24 y0 H locs ls hr hP hD hS hl
    rw [mf_L_tick_B499] at hr
    refine lv_istore (lv' := [(26, .int y0), (0, .ref (ad 0)), (6, .int z6), (8, .int z8), (10, .int z10), (11, .int z11), (12, .int z12), (14, .int z14), (15, .int z15), (16, .int z16), (18, .int z18), (19, .int z19), (20, .int z20), (22, .int z22), (23, .int z23), (24, .int z24)]) hx hb dL_tick_499 hl (by decide) rfl (fun ls hl => ?_)
    refine lv_aload_n hx hb dL_tick_501 rfl (lv_at hl 1 rfl) ?_
    refine lv_iconst (v := (5 : Int32)) hx hb dL_tick_502 (by decide) ?_
    refine nmv hr (fun r_51 e_52 hr => ?_)
    refine roV_i (As := [.int (5 : Int32)]) (rest := []) ⟨hx, hb, hml, hown, hts⟩ (k_X5_count l D Y ad W0 (5 : Int32) r_51 e_52) (cwV 1 hts gL_tick_X5_count rfl rfl rfl (by decide +kernel) ⟨Nat.le_of_ble_eq_true rfl, Nat.le_of_ble_eq_true rfl⟩) hP hK hN (hZ.at hS).F 0 5 rfl rfl rfl hl.1 rfl (Nat.le_of_ble_eq_true rfl) dL_tick_503 ⟨Nat.le_refl 0, Nat.le_refl 0⟩ ?_
    refine lv_iload hx hb dL_tick_506 (lv_at hl 7 rfl) ?_
    refine lv_iload hx hb dL_tick_508 (lv_at hl 12 rfl) ?_
    refine lv_if_eq (tgt := 517) hx hb dL_tick_510 (by decide) (fun c_53 => ?_) (fun c_53 => ?_)
    · have hr := hr.trans (if_pos c_53)
      refine lv_iconst (v := (0 : Int32)) hx hb dL_tick_517 (by decide) ?_
      exact B518 W0 z6 z8 z10 z11 z12 z15 z16 z18 z19 z22 z23 z24 y0 (0 : Int32) z14 r_51 _ _ _ hr hP hD hS (lv_sub hl [1, 2, 3, 4, 5, 6, 8, 9, 10, 11, 13, 14, 15, 0] rfl)
    · have hr := hr.trans (if_neg c_53)
      refine lv_iconst (v := (1 : Int32)) hx hb dL_tick_513 (by decide) ?_
      refine lv_goto (tgt := 518) hx hb dL_tick_514 (by decide) ?_
      exact B518 W0 z6 z8 z10 z11 z12 z15 z16 z18 z19 z22 z23 z24 y0 (1 : Int32) z14 r_51 _ _ _ hr hP hD hS (lv_sub hl [1, 2, 3, 4, 5, 6, 8, 9, 10, 11, 13, 14, 15, 0] rfl)
  have B478 : ∀ (W0 : CarV) (z6 : Int32) (z8 : Int32) (z10 : Int32) (z11 : Int32) (z12 : Int32) (z14 : Int32) (z15 : Int32) (z16 : Int32) (z18 : Int32) (z19 : Int32) (z20 : Int32) (z22 : Int32) (z23 : Int32) (z24 : Int32) (H : Heap) (locs : List Loc) (ls : Array Slot), some R = mf_L_tick_B478 W0 z6 z8 z10 z11 z12 z14 z15 z16 z18 z19 z20 z22 z23 z24 → va_P D vwCl (carW Y ad W0) H → va_D A (carW Y ad W0) → va_S A s.heap H locs → lv_has ls 31 [(0, .ref (ad 0)), (6, .int z6), (8, .int z8), (10, .int z10), (11, .int z11), (12, .int z12), (14, .int z14), (15, .int z15), (16, .int z16), (18, .int z18), (19, .int z19), (20, .int z20), (22, .int z22), (23, .int z23), (24, .int z24)] → W p l e ({ frames := 7, cells := 0, slots := 0, locals := 161 } : Room) s m ([.ref (ad 0), .int x1, .int x2] : List Value).toArray below meth c H locs 0 0 (MQ below (va_Qi (S := Unit) (fun r _ => r = R.1) (fun _ t => va_P D vwCl (carW Y ad R.2) t.heap) A) ([.ref (ad 0), .int x1, .int x2] : List Value).toArray s 0 0 A) (F0 m 478 ls []) := by
    intro W0 z6 z8 z10 z11 z12 z14 z15 z16 z18 z19 z20 z22 z23 z24 H locs ls hr hP hD hS hl
    rw [mf_L_tick_B478] at hr
    refine lv_iload hx hb dL_tick_478 (lv_at hl 10 rfl) ?_
    refine lv_iconst (v := (1 : Int32)) hx hb dL_tick_480 (by decide) ?_
    refine lv_iadd hx hb dL_tick_481 ?_
    refine lv_goto (tgt := 499) hx hb dL_tick_482 (by decide) ?_
    exact B499 W0 z6 z8 z10 z11 z12 z14 z15 z16 z18 z19 z20 z22 z23 z24 (z19 + (1 : Int32)) _ _ _ hr hP hD hS (lv_sub hl [0, 1, 2, 3, 4, 5, 6, 7, 8, 9, 10, 11, 12, 13, 14] rfl)
  have B402 : ∀ (W0 : CarV) (z4 : UInt32) (z10 : Int32) (z16 : Int32) (z18 : Int32) (z19 : Int32) (z20 : Int32) (z24 : Int32) (z26 : Int32) (y0 : Int32) (H : Heap) (locs : List Loc) (ls : Array Slot), some R = mf_L_tick_B402 W0 z4 z10 z16 z18 z19 z20 z24 z26 y0 → va_P D vwCl (carW Y ad W0) H → va_D A (carW Y ad W0) → va_S A s.heap H locs → lv_has ls 31 [(0, .ref (ad 0)), (4, .float z4), (10, .int z10), (16, .int z16), (18, .int z18), (19, .int z19), (20, .int z20), (24, .int z24), (26, .int z26)] → W p l e ({ frames := 7, cells := 0, slots := 0, locals := 161 } : Room) s m ([.ref (ad 0), .int x1, .int x2] : List Value).toArray below meth c H locs 0 0 (MQ below (va_Qi (S := Unit) (fun r _ => r = R.1) (fun _ t => va_P D vwCl (carW Y ad R.2) t.heap) A) ([.ref (ad 0), .int x1, .int x2] : List Value).toArray s 0 0 A) (F0 m 402 ls [.int y0]) := by
    intro W0 z4 z10 z16 z18 z19 z20 z24 z26 y0 H locs ls hr hP hD hS hl
    rw [mf_L_tick_B402] at hr
    refine lv_istore (lv' := [(27, .int y0), (0, .ref (ad 0)), (4, .float z4), (10, .int z10), (16, .int z16), (18, .int z18), (19, .int z19), (20, .int z20), (24, .int z24), (26, .int z26)]) hx hb dL_tick_402 hl (by decide) rfl (fun ls hl => ?_)
    refine lv_iload hx hb dL_tick_404 (lv_at hl 7 rfl) ?_
    refine lv_if_ne (tgt := 466) hx hb dL_tick_406 (by decide) (fun c_122 => ?_) (fun c_122 => ?_)
    · have hr := hr.trans (if_neg c_122)
      refine lv_iconst (v := (0 : Int32)) hx hb dL_tick_466 (by decide) ?_
      have hr := Option.some.inj hr
      subst hr
      exact W.zret (ty := .boolean) hx hb hrt (by decide) (fun t ht hW => ⟨⟨_, (), rfl, rfl, by show va_P D vwCl _ t.heap; rw [ht]; exact hP⟩, hS.F ht⟩) hS.2.2 dL_tick_467
    · have hr := hr.trans (if_pos c_122)
      refine lv_iload hx hb dL_tick_409 (lv_at hl 5 rfl) ?_
      refine lv_if_eq (tgt := 466) hx hb dL_tick_411 (by decide) (fun c_123 => ?_) (fun c_123 => ?_)
      · have hr := hr.trans (if_pos c_123)
        refine lv_iconst (v := (0 : Int32)) hx hb dL_tick_466 (by decide) ?_
        have hr := Option.some.inj hr
        subst hr
        exact W.zret (ty := .boolean) hx hb hrt (by decide) (fun t ht hW => ⟨⟨_, (), rfl, rfl, by show va_P D vwCl _ t.heap; rw [ht]; exact hP⟩, hS.F ht⟩) hS.2.2 dL_tick_467
      · have hr := hr.trans (if_neg c_123)
        refine lv_fload hx hb dL_tick_414 (lv_at hl 2 rfl) ?_
        refine lv_ldcf hx hb hown (hts (.constantFloat RL 37 (1064514355)) (List.mem_of_getElem? (i := 1) rfl)) dL_tick_416 ?_
        refine lv_fcmp hx hb dL_tick_418 ?_
        refine lv_if_lt (tgt := 466) hx hb dL_tick_419 (by decide) (fun c_124 => ?_) (fun c_124 => ?_)
        · have hr := hr.trans (if_pos c_124)
          refine lv_iconst (v := (0 : Int32)) hx hb dL_tick_466 (by decide) ?_
          have hr := Option.some.inj hr
          subst hr
          exact W.zret (ty := .boolean) hx hb hrt (by decide) (fun t ht hW => ⟨⟨_, (), rfl, rfl, by show va_P D vwCl _ t.heap; rw [ht]; exact hP⟩, hS.F ht⟩) hS.2.2 dL_tick_467
        · have hr := hr.trans (if_neg c_124)
          refine lv_iload hx hb dL_tick_422 (lv_at hl 0 rfl) ?_
          refine lv_if_eq (tgt := 466) hx hb dL_tick_424 (by decide) (fun c_125 => ?_) (fun c_125 => ?_)
          · have hr := hr.trans (if_pos c_125)
            refine lv_iconst (v := (0 : Int32)) hx hb dL_tick_466 (by decide) ?_
            have hr := Option.some.inj hr
            subst hr
            exact W.zret (ty := .boolean) hx hb hrt (by decide) (fun t ht hW => ⟨⟨_, (), rfl, rfl, by show va_P D vwCl _ t.heap; rw [ht]; exact hP⟩, hS.F ht⟩) hS.2.2 dL_tick_467
          · have hr := hr.trans (if_neg c_125)
            refine lv_iload hx hb dL_tick_427 (lv_at hl 3 rfl) ?_
            refine lv_iload hx hb dL_tick_429 (lv_at hl 9 rfl) ?_
            refine lv_icmp_ne (tgt := 466) hx hb dL_tick_431 (by decide) (fun c_126 => ?_) (fun c_126 => ?_)
            · have hr := hr.trans (if_neg c_126)
              refine lv_iconst (v := (0 : Int32)) hx hb dL_tick_466 (by decide) ?_
              have hr := Option.some.inj hr
              subst hr
              exact W.zret (ty := .boolean) hx hb hrt (by decide) (fun t ht hW => ⟨⟨_, (), rfl, rfl, by show va_P D vwCl _ t.heap; rw [ht]; exact hP⟩, hS.F ht⟩) hS.2.2 dL_tick_467
            · have hr := hr.trans (if_pos c_126)
              refine lv_iload hx hb dL_tick_434 (lv_at hl 8 rfl) ?_
              refine lv_iconst (v := (1 : Int32)) hx hb dL_tick_436 (by decide) ?_
              refine lv_icmp_ne (tgt := 466) hx hb dL_tick_437 (by decide) (fun c_127 => ?_) (fun c_127 => ?_)
              · have hr := hr.trans (if_neg c_127)
                refine lv_iconst (v := (0 : Int32)) hx hb dL_tick_466 (by decide) ?_
                have hr := Option.some.inj hr
                subst hr
                exact W.zret (ty := .boolean) hx hb hrt (by decide) (fun t ht hW => ⟨⟨_, (), rfl, rfl, by show va_P D vwCl _ t.heap; rw [ht]; exact hP⟩, hS.F ht⟩) hS.2.2 dL_tick_467
              · have hr := hr.trans (if_pos c_127)
                refine lv_aload_n hx hb dL_tick_440 rfl (lv_at hl 1 rfl) ?_
                refine lv_iconst (v := (0 : Int32)) hx hb dL_tick_441 (by decide) ?_
                refine nmv hr (fun r_128 e_129 hr => ?_)
                refine roV_i (As := [.int (0 : Int32)]) (rest := []) ⟨hx, hb, hml, hown, hts⟩ (k_X5_car l D Y ad W0 (0 : Int32) r_128 e_129) (cwV 1 hts gL_tick_X5_car rfl rfl rfl (by decide +kernel) ⟨Nat.le_of_ble_eq_true rfl, Nat.le_of_ble_eq_true rfl⟩) hP hK hN (hZ.at hS).F 0 5 rfl rfl rfl hl.1 rfl (Nat.le_of_ble_eq_true rfl) dL_tick_442 ⟨Nat.le_refl 0, Nat.le_refl 0⟩ ?_
                refine lv_iload hx hb dL_tick_445 (lv_at hl 6 rfl) ?_
                refine lv_icmp_ne (tgt := 466) hx hb dL_tick_447 (by decide) (fun c_130 => ?_) (fun c_130 => ?_)
                · have hr := hr.trans (if_neg c_130)
                  refine lv_iconst (v := (0 : Int32)) hx hb dL_tick_466 (by decide) ?_
                  have hr := Option.some.inj hr
                  subst hr
                  exact W.zret (ty := .boolean) hx hb hrt (by decide) (fun t ht hW => ⟨⟨_, (), rfl, rfl, by show va_P D vwCl _ t.heap; rw [ht]; exact hP⟩, hS.F ht⟩) hS.2.2 dL_tick_467
                · have hr := hr.trans (if_pos c_130)
                  refine lv_aload_n hx hb dL_tick_450 rfl (lv_at hl 1 rfl) ?_
                  refine lv_iconst (v := (0 : Int32)) hx hb dL_tick_451 (by decide) ?_
                  refine nmv hr (fun r_131 e_132 hr => ?_)
                  refine roV_i (As := [.int (0 : Int32)]) (rest := []) ⟨hx, hb, hml, hown, hts⟩ (k_X5_count l D Y ad W0 (0 : Int32) r_131 e_132) (cwV 1 hts gL_tick_X5_count rfl rfl rfl (by decide +kernel) ⟨Nat.le_of_ble_eq_true rfl, Nat.le_of_ble_eq_true rfl⟩) hP hK hN (hZ.at hS).F 0 5 rfl rfl rfl hl.1 rfl (Nat.le_of_ble_eq_true rfl) dL_tick_452 ⟨Nat.le_refl 0, Nat.le_refl 0⟩ ?_
                  refine lv_iload hx hb dL_tick_455 (lv_at hl 4 rfl) ?_
                  refine lv_iconst (v := (1 : Int32)) hx hb dL_tick_457 (by decide) ?_
                  refine lv_iadd hx hb dL_tick_458 ?_
                  refine lv_icmp_ne (tgt := 466) hx hb dL_tick_459 (by decide) (fun c_133 => ?_) (fun c_133 => ?_)
                  · have hr := hr.trans (if_neg c_133)
                    refine lv_iconst (v := (0 : Int32)) hx hb dL_tick_466 (by decide) ?_
                    have hr := Option.some.inj hr
                    subst hr
                    exact W.zret (ty := .boolean) hx hb hrt (by decide) (fun t ht hW => ⟨⟨_, (), rfl, rfl, by show va_P D vwCl _ t.heap; rw [ht]; exact hP⟩, hS.F ht⟩) hS.2.2 dL_tick_467
                  · have hr := hr.trans (if_pos c_133)
                    refine lv_iconst (v := (1 : Int32)) hx hb dL_tick_462 (by decide) ?_
                    refine lv_goto (tgt := 467) hx hb dL_tick_463 (by decide) ?_
                    have hr := Option.some.inj hr
                    subst hr
                    exact W.zret (ty := .boolean) hx hb hrt (by decide) (fun t ht hW => ⟨⟨_, (), rfl, rfl, by show va_P D vwCl _ t.heap; rw [ht]; exact hP⟩, hS.F ht⟩) hS.2.2 dL_tick_467
  have B401 : ∀ (W0 : CarV) (z4 : UInt32) (z10 : Int32) (z16 : Int32) (z18 : Int32) (z19 : Int32) (z20 : Int32) (z24 : Int32) (z26 : Int32) (H : Heap) (locs : List Loc) (ls : Array Slot), some R = mf_L_tick_B401 W0 z4 z10 z16 z18 z19 z20 z24 z26 → va_P D vwCl (carW Y ad W0) H → va_D A (carW Y ad W0) → va_S A s.heap H locs → lv_has ls 31 [(0, .ref (ad 0)), (4, .float z4), (10, .int z10), (16, .int z16), (18, .int z18), (19, .int z19), (20, .int z20), (24, .int z24), (26, .int z26)] → W p l e ({ frames := 7, cells := 0, slots := 0, locals := 161 } : Room) s m ([.ref (ad 0), .int x1, .int x2] : List Value).toArray below meth c H locs 0 0 (MQ below (va_Qi (S := Unit) (fun r _ => r = R.1) (fun _ t => va_P D vwCl (carW Y ad R.2) t.heap) A) ([.ref (ad 0), .int x1, .int x2] : List Value).toArray s 0 0 A) (F0 m 401 ls []) := by
    intro W0 z4 z10 z16 z18 z19 z20 z24 z26 H locs ls hr hP hD hS hl
    rw [mf_L_tick_B401] at hr
    refine lv_iconst (v := (0 : Int32)) hx hb dL_tick_401 (by decide) ?_
    exact B402 W0 z4 z10 z16 z18 z19 z20 z24 z26 (0 : Int32) _ _ _ hr hP hD hS (lv_sub hl [0, 1, 2, 3, 4, 5, 6, 7, 8] rfl)
  have B397 : ∀ (W0 : CarV) (z4 : UInt32) (z10 : Int32) (z16 : Int32) (z18 : Int32) (z19 : Int32) (z20 : Int32) (z24 : Int32) (z26 : Int32) (H : Heap) (locs : List Loc) (ls : Array Slot), some R = mf_L_tick_B397 W0 z4 z10 z16 z18 z19 z20 z24 z26 → va_P D vwCl (carW Y ad W0) H → va_D A (carW Y ad W0) → va_S A s.heap H locs → lv_has ls 31 [(0, .ref (ad 0)), (4, .float z4), (10, .int z10), (16, .int z16), (18, .int z18), (19, .int z19), (20, .int z20), (24, .int z24), (26, .int z26)] → W p l e ({ frames := 7, cells := 0, slots := 0, locals := 161 } : Room) s m ([.ref (ad 0), .int x1, .int x2] : List Value).toArray below meth c H locs 0 0 (MQ below (va_Qi (S := Unit) (fun r _ => r = R.1) (fun _ t => va_P D vwCl (carW Y ad R.2) t.heap) A) ([.ref (ad 0), .int x1, .int x2] : List Value).toArray s 0 0 A) (F0 m 397 ls []) := by
    intro W0 z4 z10 z16 z18 z19 z20 z24 z26 H locs ls hr hP hD hS hl
    rw [mf_L_tick_B397] at hr
    refine lv_iconst (v := (1 : Int32)) hx hb dL_tick_397 (by decide) ?_
    refine lv_goto (tgt := 402) hx hb dL_tick_398 (by decide) ?_
    exact B402 W0 z4 z10 z16 z18 z19 z20 z24 z26 (1 : Int32) _ _ _ hr hP hD hS (lv_sub hl [0, 1, 2, 3, 4, 5, 6, 7, 8] rfl)
  have B326 : ∀ (W0 : CarV) (z3 : UInt32) (z4 : UInt32) (z6 : Int32) (z8 : Int32) (z10 : Int32) (z11 : Int32) (z12 : Int32) (z14 : Int32) (z15 : Int32) (z16 : Int32) (z18 : Int32) (z19 : Int32) (z20 : Int32) (z22 : Int32) (z23 : Int32) (z24 : Int32) (y0 : Int32) (H : Heap) (locs : List Loc) (ls : Array Slot), some R = mf_L_tick_B326 W0 z3 z4 z6 z8 z10 z11 z12 z14 z15 z16 z18 z19 z20 z22 z23 z24 y0 → va_P D vwCl (carW Y ad W0) H → va_D A (carW Y ad W0) → va_S A s.heap H locs → lv_has ls 31 [(0, .ref (ad 0)), (3, .float z3), (4, .float z4), (6, .int z6), (8, .int z8), (10, .int z10), (11, .int z11), (12, .int z12), (14, .int z14), (15, .int z15), (16, .int z16), (18, .int z18), (19, .int z19), (20, .int z20), (22, .int z22), (23, .int z23), (24, .int z24)] → W p l e ({ frames := 7, cells := 0, slots := 0, locals := 161 } : Room) s m ([.ref (ad 0), .int x1, .int x2] : List Value).toArray below meth c H locs 0 0 (MQ below (va_Qi (S := Unit) (fun r _ => r = R.1) (fun _ t => va_P D vwCl (carW Y ad R.2) t.heap) A) ([.ref (ad 0), .int x1, .int x2] : List Value).toArray s 0 0 A) (F0 m 326 ls [.int y0]) := by
    intro W0 z3 z4 z6 z8 z10 z11 z12 z14 z15 z16 z18 z19 z20 z22 z23 z24 y0 H locs ls hr hP hD hS hl
    rw [mf_L_tick_B326] at hr
    refine lv_istore (lv' := [(25, .int y0), (0, .ref (ad 0)), (3, .float z3), (4, .float z4), (6, .int z6), (8, .int z8), (10, .int z10), (11, .int z11), (12, .int z12), (14, .int z14), (15, .int z15), (16, .int z16), (18, .int z18), (19, .int z19), (20, .int z20), (22, .int z22), (23, .int z23), (24, .int z24)]) hx hb dL_tick_326 hl (by decide) rfl (fun ls hl => ?_)
    refine lv_iload hx hb dL_tick_328 (lv_at hl 0 rfl) ?_
    refine lv_if_eq (tgt := 468) hx hb dL_tick_330 (by decide) (fun c_49 => ?_) (fun c_49 => ?_)
    · have hr := hr.trans (if_pos c_49)
      refine lv_iload hx hb dL_tick_468 (lv_at hl 14 rfl) ?_
      refine lv_if_ne (tgt := 478) hx hb dL_tick_470 (by decide) (fun c_50 => ?_) (fun c_50 => ?_)
      · have hr := hr.trans (if_neg c_50)
        exact B478 W0 z6 z8 z10 z11 z12 z14 z15 z16 z18 z19 z20 z22 z23 z24 _ _ _ hr hP hD hS (lv_sub hl [1, 4, 5, 6, 7, 8, 9, 10, 11, 12, 13, 14, 15, 16, 17] rfl)
      · have hr := hr.trans (if_pos c_50)
        refine lv_iload hx hb dL_tick_473 (lv_at hl 15 rfl) ?_
        refine lv_if_eq (tgt := 485) hx hb dL_tick_475 (by decide) (fun c_117 => ?_) (fun c_117 => ?_)
        · have hr := hr.trans (if_pos c_117)
          refine lv_iload hx hb dL_tick_485 (lv_at hl 16 rfl) ?_
          refine lv_if_eq (tgt := 497) hx hb dL_tick_487 (by decide) (fun c_118 => ?_) (fun c_118 => ?_)
          · have hr := hr.trans (if_pos c_118)
            refine lv_bipush (v := (-5 : Int32)) hx hb dL_tick_497 (by decide) ?_
            exact B499 W0 z6 z8 z10 z11 z12 z14 z15 z16 z18 z19 z20 z22 z23 z24 (-5 : Int32) _ _ _ hr hP hD hS (lv_sub hl [1, 4, 5, 6, 7, 8, 9, 10, 11, 12, 13, 14, 15, 16, 17] rfl)
          · have hr := hr.trans (if_neg c_118)
            refine lv_iload hx hb dL_tick_490 (lv_at hl 13 rfl) ?_
            refine lv_iconst (v := (1 : Int32)) hx hb dL_tick_492 (by decide) ?_
            refine lv_isub hx hb dL_tick_493 ?_
            refine lv_goto (tgt := 499) hx hb dL_tick_494 (by decide) ?_
            exact B499 W0 z6 z8 z10 z11 z12 z14 z15 z16 z18 z19 z20 z22 z23 z24 (z19 - (1 : Int32)) _ _ _ hr hP hD hS (lv_sub hl [1, 4, 5, 6, 7, 8, 9, 10, 11, 12, 13, 14, 15, 16, 17] rfl)
        · have hr := hr.trans (if_neg c_117)
          exact B478 W0 z6 z8 z10 z11 z12 z14 z15 z16 z18 z19 z20 z22 z23 z24 _ _ _ hr hP hD hS (lv_sub hl [1, 4, 5, 6, 7, 8, 9, 10, 11, 12, 13, 14, 15, 16, 17] rfl)
    · have hr := hr.trans (if_neg c_49)
      refine lv_aload_n hx hb dL_tick_333 rfl (lv_at hl 1 rfl) ?_
      refine lv_iconst (v := (1 : Int32)) hx hb dL_tick_334 (by decide) ?_
      refine nmv hr (fun r_119 e_120 hr => ?_)
      refine roV_i (As := [.int (1 : Int32)]) (rest := []) ⟨hx, hb, hml, hown, hts⟩ (k_X5_car l D Y ad W0 (1 : Int32) r_119 e_120) (cwV 1 hts gL_tick_X5_car rfl rfl rfl (by decide +kernel) ⟨Nat.le_of_ble_eq_true rfl, Nat.le_of_ble_eq_true rfl⟩) hP hK hN (hZ.at hS).F 0 5 rfl rfl rfl hl.1 rfl (Nat.le_of_ble_eq_true rfl) dL_tick_335 ⟨Nat.le_refl 0, Nat.le_refl 0⟩ ?_
      refine lv_istore (lv' := [(26, .int r_119), (25, .int y0), (0, .ref (ad 0)), (3, .float z3), (4, .float z4), (6, .int z6), (8, .int z8), (10, .int z10), (11, .int z11), (12, .int z12), (14, .int z14), (15, .int z15), (16, .int z16), (18, .int z18), (19, .int z19), (20, .int z20), (22, .int z22), (23, .int z23), (24, .int z24)]) hx hb dL_tick_338 hl (by decide) rfl (fun ls hl => ?_)
      refine lv_iload hx hb dL_tick_340 (lv_at hl 0 rfl) ?_
      refine lv_iload hx hb dL_tick_342 (lv_at hl 14 rfl) ?_
      refine lv_iconst (v := (2 : Int32)) hx hb dL_tick_344 (by decide) ?_
      refine lv_isub hx hb dL_tick_345 ?_
      refine lv_icmp_lt (tgt := 401) hx hb dL_tick_346 (by decide) (fun c_121 => ?_) (fun c_121 => ?_)
      · have hr := hr.trans (if_pos c_121)
        exact B401 W0 z4 z10 z16 z18 z19 z20 z24 r_119 _ _ _ hr hP hD hS (lv_sub hl [2, 4, 7, 12, 13, 14, 15, 18, 0] rfl)
      · have hr := hr.trans (if_neg c_121)
        refine lv_iload hx hb dL_tick_349 (lv_at hl 0 rfl) ?_
        refine lv_iload hx hb dL_tick_351 (lv_at hl 14 rfl) ?_
        refine lv_icmp_ge (tgt := 401) hx hb dL_tick_353 (by decide) (fun c_134 => ?_) (fun c_134 => ?_)
        · have hr := hr.trans (if_pos c_134)
          exact B401 W0 z4 z10 z16 z18 z19 z20 z24 r_119 _ _ _ hr hP hD hS (lv_sub hl [2, 4, 7, 12, 13, 14, 15, 18, 0] rfl)
        · have hr := hr.trans (if_neg c_134)
          refine lv_aload_n hx hb dL_tick_356 rfl (lv_at hl 2 rfl) ?_
          refine lv_iload hx hb dL_tick_357 (lv_at hl 0 rfl) ?_
          refine lv_iconst (v := (3 : Int32)) hx hb dL_tick_359 (by decide) ?_
          refine nmv hr (fun r_135 e_136 hr => ?_)
          refine roV_f (As := [.int r_119, .int (3 : Int32)]) (rest := []) ⟨hx, hb, hml, hown, hts⟩ (k_X5_map l D Y ad W0 r_119 (3 : Int32) r_135 e_136) (cwV 2 hts gL_tick_X5_map rfl rfl rfl (by decide +kernel) ⟨Nat.le_of_ble_eq_true rfl, Nat.le_of_ble_eq_true rfl⟩) hP hK hN (hZ.at hS).F 0 5 rfl rfl rfl hl.1 rfl (Nat.le_of_ble_eq_true rfl) dL_tick_360 ⟨Nat.le_refl 0, Nat.le_refl 0⟩ ?_
          refine lv_fload_n hx hb dL_tick_363 rfl (lv_at hl 3 rfl) ?_
          refine lv_fcmp hx hb dL_tick_364 ?_
          refine lv_if_lt (tgt := 401) hx hb dL_tick_365 (by decide) (fun c_137 => ?_) (fun c_137 => ?_)
          · have hr := hr.trans (if_pos c_137)
            exact B401 W0 z4 z10 z16 z18 z19 z20 z24 r_119 _ _ _ hr hP hD hS (lv_sub hl [2, 4, 7, 12, 13, 14, 15, 18, 0] rfl)
          · have hr := hr.trans (if_neg c_137)
            refine lv_iload hx hb dL_tick_368 (lv_at hl 0 rfl) ?_
            refine lv_iconst (v := (1 : Int32)) hx hb dL_tick_370 (by decide) ?_
            refine lv_icmp_eq (tgt := 397) hx hb dL_tick_371 (by decide) (fun c_138 => ?_) (fun c_138 => ?_)
            · have hr := hr.trans (if_pos c_138)
              exact B397 W0 z4 z10 z16 z18 z19 z20 z24 r_119 _ _ _ hr hP hD hS (lv_sub hl [2, 4, 7, 12, 13, 14, 15, 18, 0] rfl)
            · have hr := hr.trans (if_neg c_138)
              refine lv_iload hx hb dL_tick_374 (lv_at hl 0 rfl) ?_
              refine lv_iload hx hb dL_tick_376 (lv_at hl 14 rfl) ?_
              refine lv_iconst (v := (2 : Int32)) hx hb dL_tick_378 (by decide) ?_
              refine lv_isub hx hb dL_tick_379 ?_
              refine lv_icmp_eq (tgt := 397) hx hb dL_tick_380 (by decide) (fun c_139 => ?_) (fun c_139 => ?_)
              · have hr := hr.trans (if_pos c_139)
                exact B397 W0 z4 z10 z16 z18 z19 z20 z24 r_119 _ _ _ hr hP hD hS (lv_sub hl [2, 4, 7, 12, 13, 14, 15, 18, 0] rfl)
              · have hr := hr.trans (if_neg c_139)
                refine lv_aload_n hx hb dL_tick_383 rfl (lv_at hl 2 rfl) ?_
                refine lv_iload hx hb dL_tick_384 (lv_at hl 0 rfl) ?_
                refine lv_iconst (v := (1 : Int32)) hx hb dL_tick_386 (by decide) ?_
                refine lv_isub hx hb dL_tick_387 ?_
                refine lv_iconst (v := (3 : Int32)) hx hb dL_tick_388 (by decide) ?_
                refine nmv hr (fun r_140 e_141 hr => ?_)
                refine roV_f (As := [.int (r_119 - (1 : Int32)), .int (3 : Int32)]) (rest := []) ⟨hx, hb, hml, hown, hts⟩ (k_X5_map l D Y ad W0 (r_119 - (1 : Int32)) (3 : Int32) r_140 e_141) (cwV 2 hts gL_tick_X5_map rfl rfl rfl (by decide +kernel) ⟨Nat.le_of_ble_eq_true rfl, Nat.le_of_ble_eq_true rfl⟩) hP hK hN (hZ.at hS).F 0 5 rfl rfl rfl hl.1 rfl (Nat.le_of_ble_eq_true rfl) dL_tick_389 ⟨Nat.le_refl 0, Nat.le_refl 0⟩ ?_
                refine lv_fload_n hx hb dL_tick_392 rfl (lv_at hl 3 rfl) ?_
                refine lv_fcmp hx hb dL_tick_393 ?_
                refine lv_if_ge (tgt := 401) hx hb dL_tick_394 (by decide) (fun c_142 => ?_) (fun c_142 => ?_)
                · have hr := hr.trans (if_pos c_142)
                  exact B401 W0 z4 z10 z16 z18 z19 z20 z24 r_119 _ _ _ hr hP hD hS (lv_sub hl [2, 4, 7, 12, 13, 14, 15, 18, 0] rfl)
                · have hr := hr.trans (if_neg c_142)
                  exact B397 W0 z4 z10 z16 z18 z19 z20 z24 r_119 _ _ _ hr hP hD hS (lv_sub hl [2, 4, 7, 12, 13, 14, 15, 18, 0] rfl)
  have B292 : ∀ (W0 : CarV) (z1 : Int32) (z2 : Int32) (z3 : UInt32) (z4 : UInt32) (z6 : Int32) (z8 : Int32) (z10 : Int32) (z11 : Int32) (z12 : Int32) (z13 : Int32) (z14 : Int32) (z15 : Int32) (z16 : Int32) (z18 : Int32) (z19 : Int32) (z20 : Int32) (z22 : Int32) (y0 : Int32) (H : Heap) (locs : List Loc) (ls : Array Slot), some R = mf_L_tick_B292 W0 z1 z2 z3 z4 z6 z8 z10 z11 z12 z13 z14 z15 z16 z18 z19 z20 z22 y0 → va_P D vwCl (carW Y ad W0) H → va_D A (carW Y ad W0) → va_S A s.heap H locs → lv_has ls 31 [(0, .ref (ad 0)), (1, .int z1), (2, .int z2), (3, .float z3), (4, .float z4), (6, .int z6), (8, .int z8), (10, .int z10), (11, .int z11), (12, .int z12), (13, .int z13), (14, .int z14), (15, .int z15), (16, .int z16), (18, .int z18), (19, .int z19), (20, .int z20), (22, .int z22)] → W p l e ({ frames := 7, cells := 0, slots := 0, locals := 161 } : Room) s m ([.ref (ad 0), .int x1, .int x2] : List Value).toArray below meth c H locs 0 0 (MQ below (va_Qi (S := Unit) (fun r _ => r = R.1) (fun _ t => va_P D vwCl (carW Y ad R.2) t.heap) A) ([.ref (ad 0), .int x1, .int x2] : List Value).toArray s 0 0 A) (F0 m 292 ls [.int y0]) := by
    intro W0 z1 z2 z3 z4 z6 z8 z10 z11 z12 z13 z14 z15 z16 z18 z19 z20 z22 y0 H locs ls hr hP hD hS hl
    rw [mf_L_tick_B292] at hr
    refine lv_istore (lv' := [(23, .int y0), (0, .ref (ad 0)), (1, .int z1), (2, .int z2), (3, .float z3), (4, .float z4), (6, .int z6), (8, .int z8), (10, .int z10), (11, .int z11), (12, .int z12), (13, .int z13), (14, .int z14), (15, .int z15), (16, .int z16), (18, .int z18), (19, .int z19), (20, .int z20), (22, .int z22)]) hx hb dL_tick_292 hl (by decide) rfl (fun ls hl => ?_)
    refine lv_aload_n hx hb dL_tick_294 rfl (lv_at hl 1 rfl) ?_
    refine lv_iload_n hx hb dL_tick_295 rfl (lv_at hl 2 rfl) ?_
    refine nmv hr (fun r_40 e_41 hr => ?_)
    refine roS_i (As := [.int z1]) (rest := [.ref (ad 0)]) ⟨hx, hb, hml, hown, hts⟩ (k_L_speed l D Y  z1 r_40 e_41) (va_cwS 1 hts gL_tick_L_speed rfl rfl rfl (by decide +kernel) ⟨Nat.le_of_ble_eq_true rfl, Nat.le_of_ble_eq_true rfl⟩) (hP.sub (ws' := []) [] rfl) hK hN (hZ.at hS).F rfl hl.1 rfl (Nat.le_of_ble_eq_true rfl) dL_tick_296 ⟨Nat.le_refl 0, Nat.le_refl 0⟩ ?_
    refine lv_iload_n hx hb dL_tick_299 rfl (lv_at hl 3 rfl) ?_
    refine nmv hr (fun r_42 e_43 hr => ?_)
    refine roS_i (As := [.int z2]) (rest := [.int r_40, .ref (ad 0)]) ⟨hx, hb, hml, hown, hts⟩ (k_L_pedal l D Y  z2 r_42 e_43) (va_cwS 1 hts gL_tick_L_pedal rfl rfl rfl (by decide +kernel) ⟨Nat.le_of_ble_eq_true rfl, Nat.le_of_ble_eq_true rfl⟩) (hP.sub (ws' := []) [] rfl) hK hN (hZ.at hS).F rfl hl.1 rfl (Nat.le_of_ble_eq_true rfl) dL_tick_300 ⟨Nat.le_refl 0, Nat.le_refl 0⟩ ?_
    refine lv_iconst (v := (1 : Int32)) hx hb dL_tick_303 (by decide) ?_
    refine bdv hr (fun r_44 e_45 hr => ?_)
    refine rwV_iw (As := [.int r_40, .int r_42, .int (1 : Int32)]) (rest := []) ⟨hx, hb, hml, hown, hts⟩ (k_X5_drive l D Y ad W0 r_40 r_42 (1 : Int32) r_44 e_45) (cwV 3 hts gL_tick_X5_drive rfl rfl rfl (by decide +kernel) ⟨Nat.le_of_ble_eq_true rfl, Nat.le_of_ble_eq_true rfl⟩) hP hK hN hZ hD hS rfl 0 5 rfl rfl rfl hl.1 rfl (Nat.le_of_ble_eq_true rfl) dL_tick_304 ⟨Nat.le_refl 0, Nat.le_refl 0⟩ (fun H locs hP hD hS => ?_)
    refine lv_istore (lv' := [(24, .int r_44.1), (23, .int y0), (0, .ref (ad 0)), (1, .int z1), (2, .int z2), (3, .float z3), (4, .float z4), (6, .int z6), (8, .int z8), (10, .int z10), (11, .int z11), (12, .int z12), (13, .int z13), (14, .int z14), (15, .int z15), (16, .int z16), (18, .int z18), (19, .int z19), (20, .int z20), (22, .int z22)]) hx hb dL_tick_307 hl (by decide) rfl (fun ls hl => ?_)
    refine lv_aload_n hx hb dL_tick_309 rfl (lv_at hl 2 rfl) ?_
    refine lv_iconst (v := (3 : Int32)) hx hb dL_tick_310 (by decide) ?_
    refine nmv hr (fun r_46 e_47 hr => ?_)
    refine roV_i (As := [.int (3 : Int32)]) (rest := []) ⟨hx, hb, hml, hown, hts⟩ (k_X5_count l D Y ad r_44.2 (3 : Int32) r_46 e_47) (cwV 1 hts gL_tick_X5_count rfl rfl rfl (by decide +kernel) ⟨Nat.le_of_ble_eq_true rfl, Nat.le_of_ble_eq_true rfl⟩) hP hK hN (hZ.at hS).F 0 5 rfl rfl rfl hl.1 rfl (Nat.le_of_ble_eq_true rfl) dL_tick_311 ⟨Nat.le_refl 0, Nat.le_refl 0⟩ ?_
    refine lv_iload hx hb dL_tick_314 (lv_at hl 12 rfl) ?_
    refine lv_iconst (v := (1 : Int32)) hx hb dL_tick_316 (by decide) ?_
    refine lv_iadd hx hb dL_tick_317 ?_
    refine lv_icmp_ne (tgt := 325) hx hb dL_tick_318 (by decide) (fun c_48 => ?_) (fun c_48 => ?_)
    · have hr := hr.trans (if_neg c_48)
      refine lv_iconst (v := (0 : Int32)) hx hb dL_tick_325 (by decide) ?_
      exact B326 r_44.2 z3 z4 z6 z8 z10 z11 z12 z14 z15 z16 z18 z19 z20 z22 y0 r_44.1 (0 : Int32) _ _ _ hr hP hD hS (lv_sub hl [2, 5, 6, 7, 8, 9, 10, 11, 13, 14, 15, 16, 17, 18, 19, 1, 0] rfl)
    · have hr := hr.trans (if_pos c_48)
      refine lv_iconst (v := (1 : Int32)) hx hb dL_tick_321 (by decide) ?_
      refine lv_goto (tgt := 326) hx hb dL_tick_322 (by decide) ?_
      exact B326 r_44.2 z3 z4 z6 z8 z10 z11 z12 z14 z15 z16 z18 z19 z20 z22 y0 r_44.1 (1 : Int32) _ _ _ hr hP hD hS (lv_sub hl [2, 5, 6, 7, 8, 9, 10, 11, 13, 14, 15, 16, 17, 18, 19, 1, 0] rfl)
  have B291 : ∀ (W0 : CarV) (z1 : Int32) (z2 : Int32) (z3 : UInt32) (z4 : UInt32) (z6 : Int32) (z8 : Int32) (z10 : Int32) (z11 : Int32) (z12 : Int32) (z13 : Int32) (z14 : Int32) (z15 : Int32) (z16 : Int32) (z18 : Int32) (z19 : Int32) (z20 : Int32) (z22 : Int32) (H : Heap) (locs : List Loc) (ls : Array Slot), some R = mf_L_tick_B291 W0 z1 z2 z3 z4 z6 z8 z10 z11 z12 z13 z14 z15 z16 z18 z19 z20 z22 → va_P D vwCl (carW Y ad W0) H → va_D A (carW Y ad W0) → va_S A s.heap H locs → lv_has ls 31 [(0, .ref (ad 0)), (1, .int z1), (2, .int z2), (3, .float z3), (4, .float z4), (6, .int z6), (8, .int z8), (10, .int z10), (11, .int z11), (12, .int z12), (13, .int z13), (14, .int z14), (15, .int z15), (16, .int z16), (18, .int z18), (19, .int z19), (20, .int z20), (22, .int z22)] → W p l e ({ frames := 7, cells := 0, slots := 0, locals := 161 } : Room) s m ([.ref (ad 0), .int x1, .int x2] : List Value).toArray below meth c H locs 0 0 (MQ below (va_Qi (S := Unit) (fun r _ => r = R.1) (fun _ t => va_P D vwCl (carW Y ad R.2) t.heap) A) ([.ref (ad 0), .int x1, .int x2] : List Value).toArray s 0 0 A) (F0 m 291 ls []) := by
    intro W0 z1 z2 z3 z4 z6 z8 z10 z11 z12 z13 z14 z15 z16 z18 z19 z20 z22 H locs ls hr hP hD hS hl
    rw [mf_L_tick_B291] at hr
    refine lv_iconst (v := (0 : Int32)) hx hb dL_tick_291 (by decide) ?_
    exact B292 W0 z1 z2 z3 z4 z6 z8 z10 z11 z12 z13 z14 z15 z16 z18 z19 z20 z22 (0 : Int32) _ _ _ hr hP hD hS (lv_sub hl [0, 1, 2, 3, 4, 5, 6, 7, 8, 9, 10, 11, 12, 13, 14, 15, 16, 17] rfl)
  have B251 : ∀ (W0 : CarV) (z1 : Int32) (z2 : Int32) (z3 : UInt32) (z4 : UInt32) (z6 : Int32) (z8 : Int32) (z10 : Int32) (z11 : Int32) (z12 : Int32) (z13 : Int32) (z14 : Int32) (z15 : Int32) (z16 : Int32) (z18 : Int32) (z19 : Int32) (z20 : Int32) (z21 : Int32) (y0 : Int32) (H : Heap) (locs : List Loc) (ls : Array Slot), some R = mf_L_tick_B251 W0 z1 z2 z3 z4 z6 z8 z10 z11 z12 z13 z14 z15 z16 z18 z19 z20 z21 y0 → va_P D vwCl (carW Y ad W0) H → va_D A (carW Y ad W0) → va_S A s.heap H locs → lv_has ls 31 [(0, .ref (ad 0)), (1, .int z1), (2, .int z2), (3, .float z3), (4, .float z4), (6, .int z6), (8, .int z8), (10, .int z10), (11, .int z11), (12, .int z12), (13, .int z13), (14, .int z14), (15, .int z15), (16, .int z16), (18, .int z18), (19, .int z19), (20, .int z20), (21, .int z21)] → W p l e ({ frames := 7, cells := 0, slots := 0, locals := 161 } : Room) s m ([.ref (ad 0), .int x1, .int x2] : List Value).toArray below meth c H locs 0 0 (MQ below (va_Qi (S := Unit) (fun r _ => r = R.1) (fun _ t => va_P D vwCl (carW Y ad R.2) t.heap) A) ([.ref (ad 0), .int x1, .int x2] : List Value).toArray s 0 0 A) (F0 m 251 ls [.int y0]) := by
    intro W0 z1 z2 z3 z4 z6 z8 z10 z11 z12 z13 z14 z15 z16 z18 z19 z20 z21 y0 H locs ls hr hP hD hS hl
    rw [mf_L_tick_B251] at hr
    refine lv_istore (lv' := [(22, .int y0), (0, .ref (ad 0)), (1, .int z1), (2, .int z2), (3, .float z3), (4, .float z4), (6, .int z6), (8, .int z8), (10, .int z10), (11, .int z11), (12, .int z12), (13, .int z13), (14, .int z14), (15, .int z15), (16, .int z16), (18, .int z18), (19, .int z19), (20, .int z20), (21, .int z21)]) hx hb dL_tick_251 hl (by decide) rfl (fun ls hl => ?_)
    refine lv_iload hx hb dL_tick_253 (lv_at hl 18 rfl) ?_
    refine lv_if_eq (tgt := 291) hx hb dL_tick_255 (by decide) (fun c_39 => ?_) (fun c_39 => ?_)
    · have hr := hr.trans (if_pos c_39)
      exact B291 W0 z1 z2 z3 z4 z6 z8 z10 z11 z12 z13 z14 z15 z16 z18 z19 z20 y0 _ _ _ hr hP hD hS (lv_sub hl [1, 2, 3, 4, 5, 6, 7, 8, 9, 10, 11, 12, 13, 14, 15, 16, 17, 0] rfl)
    · have hr := hr.trans (if_neg c_39)
      refine lv_iload hx hb dL_tick_258 (lv_at hl 0 rfl) ?_
      refine lv_if_ne (tgt := 291) hx hb dL_tick_260 (by decide) (fun c_143 => ?_) (fun c_143 => ?_)
      · have hr := hr.trans (if_neg c_143)
        exact B291 W0 z1 z2 z3 z4 z6 z8 z10 z11 z12 z13 z14 z15 z16 z18 z19 z20 y0 _ _ _ hr hP hD hS (lv_sub hl [1, 2, 3, 4, 5, 6, 7, 8, 9, 10, 11, 12, 13, 14, 15, 16, 17, 0] rfl)
      · have hr := hr.trans (if_pos c_143)
        refine lv_iload hx hb dL_tick_263 (lv_at hl 16 rfl) ?_
        refine lv_iconst (v := (1 : Int32)) hx hb dL_tick_265 (by decide) ?_
        refine lv_icmp_le (tgt := 291) hx hb dL_tick_266 (by decide) (fun c_144 => ?_) (fun c_144 => ?_)
        · have hr := hr.trans (if_pos c_144)
          exact B291 W0 z1 z2 z3 z4 z6 z8 z10 z11 z12 z13 z14 z15 z16 z18 z19 z20 y0 _ _ _ hr hP hD hS (lv_sub hl [1, 2, 3, 4, 5, 6, 7, 8, 9, 10, 11, 12, 13, 14, 15, 16, 17, 0] rfl)
        · have hr := hr.trans (if_neg c_144)
          refine lv_fload_n hx hb dL_tick_269 rfl (lv_at hl 4 rfl) ?_
          refine lv_aload_n hx hb dL_tick_270 rfl (lv_at hl 1 rfl) ?_
          refine lv_iload hx hb dL_tick_271 (lv_at hl 16 rfl) ?_
          refine lv_iconst (v := (1 : Int32)) hx hb dL_tick_273 (by decide) ?_
          refine lv_isub hx hb dL_tick_274 ?_
          refine lv_iload_n hx hb dL_tick_275 rfl (lv_at hl 3 rfl) ?_
          refine nmv hr (fun r_145 e_146 hr => ?_)
          refine roS_i (As := [.int z2]) (rest := [.int (z19 - (1 : Int32)), .ref (ad 0), .float z3]) ⟨hx, hb, hml, hown, hts⟩ (k_L_pedal l D Y  z2 r_145 e_146) (va_cwS 1 hts gL_tick_L_pedal rfl rfl rfl (by decide +kernel) ⟨Nat.le_of_ble_eq_true rfl, Nat.le_of_ble_eq_true rfl⟩) (hP.sub (ws' := []) [] rfl) hK hN (hZ.at hS).F rfl hl.1 rfl (Nat.le_of_ble_eq_true rfl) dL_tick_276 ⟨Nat.le_refl 0, Nat.le_refl 0⟩ ?_
          refine lv_iconst (v := (0 : Int32)) hx hb dL_tick_279 (by decide) ?_
          refine bdv hr (fun r_147 e_148 hr => ?_)
          refine roV_f (As := [.int (z19 - (1 : Int32)), .int r_145, .int (0 : Int32)]) (rest := [.float z3]) ⟨hx, hb, hml, hown, hts⟩ (k_X5_border l D Y ad W0 (z19 - (1 : Int32)) r_145 (0 : Int32) r_147 e_148) (cwV 3 hts gL_tick_X5_border rfl rfl rfl (by decide +kernel) ⟨Nat.le_of_ble_eq_true rfl, Nat.le_of_ble_eq_true rfl⟩) hP hK hN (hZ.at hS).F 0 5 rfl rfl rfl hl.1 rfl (Nat.le_of_ble_eq_true rfl) dL_tick_280 ⟨Nat.le_refl 0, Nat.le_refl 0⟩ ?_
          refine lv_fcmp hx hb dL_tick_283 ?_
          refine lv_if_ge (tgt := 291) hx hb dL_tick_284 (by decide) (fun c_149 => ?_) (fun c_149 => ?_)
          · have hr := hr.trans (if_pos c_149)
            exact B291 W0 z1 z2 z3 z4 z6 z8 z10 z11 z12 z13 z14 z15 z16 z18 z19 z20 y0 _ _ _ hr hP hD hS (lv_sub hl [1, 2, 3, 4, 5, 6, 7, 8, 9, 10, 11, 12, 13, 14, 15, 16, 17, 0] rfl)
          · have hr := hr.trans (if_neg c_149)
            refine lv_iconst (v := (1 : Int32)) hx hb dL_tick_287 (by decide) ?_
            refine lv_goto (tgt := 292) hx hb dL_tick_288 (by decide) ?_
            exact B292 W0 z1 z2 z3 z4 z6 z8 z10 z11 z12 z13 z14 z15 z16 z18 z19 z20 y0 (1 : Int32) _ _ _ hr hP hD hS (lv_sub hl [1, 2, 3, 4, 5, 6, 7, 8, 9, 10, 11, 12, 13, 14, 15, 16, 17, 0] rfl)
  have B250 : ∀ (W0 : CarV) (z1 : Int32) (z2 : Int32) (z3 : UInt32) (z4 : UInt32) (z6 : Int32) (z8 : Int32) (z10 : Int32) (z11 : Int32) (z12 : Int32) (z13 : Int32) (z14 : Int32) (z15 : Int32) (z16 : Int32) (z18 : Int32) (z19 : Int32) (z20 : Int32) (z21 : Int32) (H : Heap) (locs : List Loc) (ls : Array Slot), some R = mf_L_tick_B250 W0 z1 z2 z3 z4 z6 z8 z10 z11 z12 z13 z14 z15 z16 z18 z19 z20 z21 → va_P D vwCl (carW Y ad W0) H → va_D A (carW Y ad W0) → va_S A s.heap H locs → lv_has ls 31 [(0, .ref (ad 0)), (1, .int z1), (2, .int z2), (3, .float z3), (4, .float z4), (6, .int z6), (8, .int z8), (10, .int z10), (11, .int z11), (12, .int z12), (13, .int z13), (14, .int z14), (15, .int z15), (16, .int z16), (18, .int z18), (19, .int z19), (20, .int z20), (21, .int z21)] → W p l e ({ frames := 7, cells := 0, slots := 0, locals := 161 } : Room) s m ([.ref (ad 0), .int x1, .int x2] : List Value).toArray below meth c H locs 0 0 (MQ below (va_Qi (S := Unit) (fun r _ => r = R.1) (fun _ t => va_P D vwCl (carW Y ad R.2) t.heap) A) ([.ref (ad 0), .int x1, .int x2] : List Value).toArray s 0 0 A) (F0 m 250 ls []) := by
    intro W0 z1 z2 z3 z4 z6 z8 z10 z11 z12 z13 z14 z15 z16 z18 z19 z20 z21 H locs ls hr hP hD hS hl
    rw [mf_L_tick_B250] at hr
    refine lv_iconst (v := (0 : Int32)) hx hb dL_tick_250 (by decide) ?_
    exact B251 W0 z1 z2 z3 z4 z6 z8 z10 z11 z12 z13 z14 z15 z16 z18 z19 z20 z21 (0 : Int32) _ _ _ hr hP hD hS (lv_sub hl [0, 1, 2, 3, 4, 5, 6, 7, 8, 9, 10, 11, 12, 13, 14, 15, 16, 17] rfl)
  have B217 : ∀ (W0 : CarV) (z1 : Int32) (z2 : Int32) (z3 : UInt32) (z4 : UInt32) (z6 : Int32) (z8 : Int32) (z10 : Int32) (z11 : Int32) (z12 : Int32) (z13 : Int32) (z14 : Int32) (z15 : Int32) (z16 : Int32) (z18 : Int32) (z19 : Int32) (z20 : Int32) (y0 : Int32) (H : Heap) (locs : List Loc) (ls : Array Slot), some R = mf_L_tick_B217 W0 z1 z2 z3 z4 z6 z8 z10 z11 z12 z13 z14 z15 z16 z18 z19 z20 y0 → va_P D vwCl (carW Y ad W0) H → va_D A (carW Y ad W0) → va_S A s.heap H locs → lv_has ls 31 [(0, .ref (ad 0)), (1, .int z1), (2, .int z2), (3, .float z3), (4, .float z4), (6, .int z6), (8, .int z8), (10, .int z10), (11, .int z11), (12, .int z12), (13, .int z13), (14, .int z14), (15, .int z15), (16, .int z16), (18, .int z18), (19, .int z19), (20, .int z20)] → W p l e ({ frames := 7, cells := 0, slots := 0, locals := 161 } : Room) s m ([.ref (ad 0), .int x1, .int x2] : List Value).toArray below meth c H locs 0 0 (MQ below (va_Qi (S := Unit) (fun r _ => r = R.1) (fun _ t => va_P D vwCl (carW Y ad R.2) t.heap) A) ([.ref (ad 0), .int x1, .int x2] : List Value).toArray s 0 0 A) (F0 m 217 ls [.int y0]) := by
    intro W0 z1 z2 z3 z4 z6 z8 z10 z11 z12 z13 z14 z15 z16 z18 z19 z20 y0 H locs ls hr hP hD hS hl
    rw [mf_L_tick_B217] at hr
    refine lv_istore (lv' := [(21, .int y0), (0, .ref (ad 0)), (1, .int z1), (2, .int z2), (3, .float z3), (4, .float z4), (6, .int z6), (8, .int z8), (10, .int z10), (11, .int z11), (12, .int z12), (13, .int z13), (14, .int z14), (15, .int z15), (16, .int z16), (18, .int z18), (19, .int z19), (20, .int z20)]) hx hb dL_tick_217 hl (by decide) rfl (fun ls hl => ?_)
    refine lv_iload hx hb dL_tick_219 (lv_at hl 0 rfl) ?_
    refine lv_if_eq (tgt := 250) hx hb dL_tick_221 (by decide) (fun c_38 => ?_) (fun c_38 => ?_)
    · have hr := hr.trans (if_pos c_38)
      exact B250 W0 z1 z2 z3 z4 z6 z8 z10 z11 z12 z13 z14 z15 z16 z18 z19 z20 y0 _ _ _ hr hP hD hS (lv_sub hl [1, 2, 3, 4, 5, 6, 7, 8, 9, 10, 11, 12, 13, 14, 15, 16, 17, 0] rfl)
    · have hr := hr.trans (if_neg c_38)
      refine lv_iload hx hb dL_tick_224 (lv_at hl 16 rfl) ?_
      refine lv_iconst (v := (5 : Int32)) hx hb dL_tick_226 (by decide) ?_
      refine lv_icmp_ge (tgt := 250) hx hb dL_tick_227 (by decide) (fun c_150 => ?_) (fun c_150 => ?_)
      · have hr := hr.trans (if_pos c_150)
        exact B250 W0 z1 z2 z3 z4 z6 z8 z10 z11 z12 z13 z14 z15 z16 z18 z19 z20 y0 _ _ _ hr hP hD hS (lv_sub hl [1, 2, 3, 4, 5, 6, 7, 8, 9, 10, 11, 12, 13, 14, 15, 16, 17, 0] rfl)
      · have hr := hr.trans (if_neg c_150)
        refine lv_fload_n hx hb dL_tick_230 rfl (lv_at hl 4 rfl) ?_
        refine lv_aload_n hx hb dL_tick_231 rfl (lv_at hl 1 rfl) ?_
        refine lv_iload hx hb dL_tick_232 (lv_at hl 16 rfl) ?_
        refine lv_iload_n hx hb dL_tick_234 rfl (lv_at hl 3 rfl) ?_
        refine nmv hr (fun r_151 e_152 hr => ?_)
        refine roS_i (As := [.int z2]) (rest := [.int z19, .ref (ad 0), .float z3]) ⟨hx, hb, hml, hown, hts⟩ (k_L_pedal l D Y  z2 r_151 e_152) (va_cwS 1 hts gL_tick_L_pedal rfl rfl rfl (by decide +kernel) ⟨Nat.le_of_ble_eq_true rfl, Nat.le_of_ble_eq_true rfl⟩) (hP.sub (ws' := []) [] rfl) hK hN (hZ.at hS).F rfl hl.1 rfl (Nat.le_of_ble_eq_true rfl) dL_tick_235 ⟨Nat.le_refl 0, Nat.le_refl 0⟩ ?_
        refine lv_iconst (v := (1 : Int32)) hx hb dL_tick_238 (by decide) ?_
        refine bdv hr (fun r_153 e_154 hr => ?_)
        refine roV_f (As := [.int z19, .int r_151, .int (1 : Int32)]) (rest := [.float z3]) ⟨hx, hb, hml, hown, hts⟩ (k_X5_border l D Y ad W0 z19 r_151 (1 : Int32) r_153 e_154) (cwV 3 hts gL_tick_X5_border rfl rfl rfl (by decide +kernel) ⟨Nat.le_of_ble_eq_true rfl, Nat.le_of_ble_eq_true rfl⟩) hP hK hN (hZ.at hS).F 0 5 rfl rfl rfl hl.1 rfl (Nat.le_of_ble_eq_true rfl) dL_tick_239 ⟨Nat.le_refl 0, Nat.le_refl 0⟩ ?_
        refine lv_fcmp hx hb dL_tick_242 ?_
        refine lv_if_le (tgt := 250) hx hb dL_tick_243 (by decide) (fun c_155 => ?_) (fun c_155 => ?_)
        · have hr := hr.trans (if_pos c_155)
          exact B250 W0 z1 z2 z3 z4 z6 z8 z10 z11 z12 z13 z14 z15 z16 z18 z19 z20 y0 _ _ _ hr hP hD hS (lv_sub hl [1, 2, 3, 4, 5, 6, 7, 8, 9, 10, 11, 12, 13, 14, 15, 16, 17, 0] rfl)
        · have hr := hr.trans (if_neg c_155)
          refine lv_iconst (v := (1 : Int32)) hx hb dL_tick_246 (by decide) ?_
          refine lv_goto (tgt := 251) hx hb dL_tick_247 (by decide) ?_
          exact B251 W0 z1 z2 z3 z4 z6 z8 z10 z11 z12 z13 z14 z15 z16 z18 z19 z20 y0 (1 : Int32) _ _ _ hr hP hD hS (lv_sub hl [1, 2, 3, 4, 5, 6, 7, 8, 9, 10, 11, 12, 13, 14, 15, 16, 17, 0] rfl)
  have B216 : ∀ (W0 : CarV) (z1 : Int32) (z2 : Int32) (z3 : UInt32) (z4 : UInt32) (z6 : Int32) (z8 : Int32) (z10 : Int32) (z11 : Int32) (z12 : Int32) (z13 : Int32) (z14 : Int32) (z15 : Int32) (z16 : Int32) (z18 : Int32) (z19 : Int32) (z20 : Int32) (H : Heap) (locs : List Loc) (ls : Array Slot), some R = mf_L_tick_B216 W0 z1 z2 z3 z4 z6 z8 z10 z11 z12 z13 z14 z15 z16 z18 z19 z20 → va_P D vwCl (carW Y ad W0) H → va_D A (carW Y ad W0) → va_S A s.heap H locs → lv_has ls 31 [(0, .ref (ad 0)), (1, .int z1), (2, .int z2), (3, .float z3), (4, .float z4), (6, .int z6), (8, .int z8), (10, .int z10), (11, .int z11), (12, .int z12), (13, .int z13), (14, .int z14), (15, .int z15), (16, .int z16), (18, .int z18), (19, .int z19), (20, .int z20)] → W p l e ({ frames := 7, cells := 0, slots := 0, locals := 161 } : Room) s m ([.ref (ad 0), .int x1, .int x2] : List Value).toArray below meth c H locs 0 0 (MQ below (va_Qi (S := Unit) (fun r _ => r = R.1) (fun _ t => va_P D vwCl (carW Y ad R.2) t.heap) A) ([.ref (ad 0), .int x1, .int x2] : List Value).toArray s 0 0 A) (F0 m 216 ls []) := by
    intro W0 z1 z2 z3 z4 z6 z8 z10 z11 z12 z13 z14 z15 z16 z18 z19 z20 H locs ls hr hP hD hS hl
    rw [mf_L_tick_B216] at hr
    refine lv_iconst (v := (0 : Int32)) hx hb dL_tick_216 (by decide) ?_
    exact B217 W0 z1 z2 z3 z4 z6 z8 z10 z11 z12 z13 z14 z15 z16 z18 z19 z20 (0 : Int32) _ _ _ hr hP hD hS (lv_sub hl [0, 1, 2, 3, 4, 5, 6, 7, 8, 9, 10, 11, 12, 13, 14, 15, 16] rfl)
  have B190 : ∀ (W0 : CarV) (z1 : Int32) (z2 : Int32) (z3 : UInt32) (z4 : UInt32) (z6 : Int32) (z8 : Int32) (z9 : Int32) (z10 : Int32) (z11 : Int32) (z12 : Int32) (z13 : Int32) (z14 : Int32) (z15 : Int32) (z16 : Int32) (z18 : Int32) (z19 : Int32) (y0 : Int32) (H : Heap) (locs : List Loc) (ls : Array Slot), some R = mf_L_tick_B190 W0 z1 z2 z3 z4 z6 z8 z9 z10 z11 z12 z13 z14 z15 z16 z18 z19 y0 → va_P D vwCl (carW Y ad W0) H → va_D A (carW Y ad W0) → va_S A s.heap H locs → lv_has ls 31 [(0, .ref (ad 0)), (1, .int z1), (2, .int z2), (3, .float z3), (4, .float z4), (6, .int z6), (8, .int z8), (9, .int z9), (10, .int z10), (11, .int z11), (12, .int z12), (13, .int z13), (14, .int z14), (15, .int z15), (16, .int z16), (18, .int z18), (19, .int z19)] → W p l e ({ frames := 7, cells := 0, slots := 0, locals := 161 } : Room) s m ([.ref (ad 0), .int x1, .int x2] : List Value).toArray below meth c H locs 0 0 (MQ below (va_Qi (S := Unit) (fun r _ => r = R.1) (fun _ t => va_P D vwCl (carW Y ad R.2) t.heap) A) ([.ref (ad 0), .int x1, .int x2] : List Value).toArray s 0 0 A) (F0 m 190 ls [.int y0]) := by
    intro W0 z1 z2 z3 z4 z6 z8 z9 z10 z11 z12 z13 z14 z15 z16 z18 z19 y0 H locs ls hr hP hD hS hl
    rw [mf_L_tick_B190] at hr
    refine lv_istore (lv' := [(20, .int y0), (0, .ref (ad 0)), (1, .int z1), (2, .int z2), (3, .float z3), (4, .float z4), (6, .int z6), (8, .int z8), (9, .int z9), (10, .int z10), (11, .int z11), (12, .int z12), (13, .int z13), (14, .int z14), (15, .int z15), (16, .int z16), (18, .int z18), (19, .int z19)]) hx hb dL_tick_190 hl (by decide) rfl (fun ls hl => ?_)
    refine lv_iload hx hb dL_tick_192 (lv_at hl 16 rfl) ?_
    refine lv_if_eq (tgt := 216) hx hb dL_tick_194 (by decide) (fun c_37 => ?_) (fun c_37 => ?_)
    · have hr := hr.trans (if_pos c_37)
      exact B216 W0 z1 z2 z3 z4 z6 z8 z10 z11 z12 z13 z14 z15 z16 z18 z19 y0 _ _ _ hr hP hD hS (lv_sub hl [1, 2, 3, 4, 5, 6, 7, 9, 10, 11, 12, 13, 14, 15, 16, 17, 0] rfl)
    · have hr := hr.trans (if_neg c_37)
      refine lv_iload hx hb dL_tick_197 (lv_at hl 0 rfl) ?_
      refine lv_if_ne (tgt := 216) hx hb dL_tick_199 (by decide) (fun c_156 => ?_) (fun c_156 => ?_)
      · have hr := hr.trans (if_neg c_156)
        exact B216 W0 z1 z2 z3 z4 z6 z8 z10 z11 z12 z13 z14 z15 z16 z18 z19 y0 _ _ _ hr hP hD hS (lv_sub hl [1, 2, 3, 4, 5, 6, 7, 9, 10, 11, 12, 13, 14, 15, 16, 17, 0] rfl)
      · have hr := hr.trans (if_pos c_156)
        refine lv_iload hx hb dL_tick_202 (lv_at hl 8 rfl) ?_
        refine lv_if_ne (tgt := 216) hx hb dL_tick_204 (by decide) (fun c_157 => ?_) (fun c_157 => ?_)
        · have hr := hr.trans (if_neg c_157)
          exact B216 W0 z1 z2 z3 z4 z6 z8 z10 z11 z12 z13 z14 z15 z16 z18 z19 y0 _ _ _ hr hP hD hS (lv_sub hl [1, 2, 3, 4, 5, 6, 7, 9, 10, 11, 12, 13, 14, 15, 16, 17, 0] rfl)
        · have hr := hr.trans (if_pos c_157)
          refine lv_iload hx hb dL_tick_207 (lv_at hl 7 rfl) ?_
          refine lv_if_ne (tgt := 216) hx hb dL_tick_209 (by decide) (fun c_158 => ?_) (fun c_158 => ?_)
          · have hr := hr.trans (if_neg c_158)
            exact B216 W0 z1 z2 z3 z4 z6 z8 z10 z11 z12 z13 z14 z15 z16 z18 z19 y0 _ _ _ hr hP hD hS (lv_sub hl [1, 2, 3, 4, 5, 6, 7, 9, 10, 11, 12, 13, 14, 15, 16, 17, 0] rfl)
          · have hr := hr.trans (if_pos c_158)
            refine lv_iconst (v := (1 : Int32)) hx hb dL_tick_212 (by decide) ?_
            refine lv_goto (tgt := 217) hx hb dL_tick_213 (by decide) ?_
            exact B217 W0 z1 z2 z3 z4 z6 z8 z10 z11 z12 z13 z14 z15 z16 z18 z19 y0 (1 : Int32) _ _ _ hr hP hD hS (lv_sub hl [1, 2, 3, 4, 5, 6, 7, 9, 10, 11, 12, 13, 14, 15, 16, 17, 0] rfl)
  have B189 : ∀ (W0 : CarV) (z1 : Int32) (z2 : Int32) (z3 : UInt32) (z4 : UInt32) (z6 : Int32) (z8 : Int32) (z9 : Int32) (z10 : Int32) (z11 : Int32) (z12 : Int32) (z13 : Int32) (z14 : Int32) (z15 : Int32) (z16 : Int32) (z18 : Int32) (z19 : Int32) (H : Heap) (locs : List Loc) (ls : Array Slot), some R = mf_L_tick_B189 W0 z1 z2 z3 z4 z6 z8 z9 z10 z11 z12 z13 z14 z15 z16 z18 z19 → va_P D vwCl (carW Y ad W0) H → va_D A (carW Y ad W0) → va_S A s.heap H locs → lv_has ls 31 [(0, .ref (ad 0)), (1, .int z1), (2, .int z2), (3, .float z3), (4, .float z4), (6, .int z6), (8, .int z8), (9, .int z9), (10, .int z10), (11, .int z11), (12, .int z12), (13, .int z13), (14, .int z14), (15, .int z15), (16, .int z16), (18, .int z18), (19, .int z19)] → W p l e ({ frames := 7, cells := 0, slots := 0, locals := 161 } : Room) s m ([.ref (ad 0), .int x1, .int x2] : List Value).toArray below meth c H locs 0 0 (MQ below (va_Qi (S := Unit) (fun r _ => r = R.1) (fun _ t => va_P D vwCl (carW Y ad R.2) t.heap) A) ([.ref (ad 0), .int x1, .int x2] : List Value).toArray s 0 0 A) (F0 m 189 ls []) := by
    intro W0 z1 z2 z3 z4 z6 z8 z9 z10 z11 z12 z13 z14 z15 z16 z18 z19 H locs ls hr hP hD hS hl
    rw [mf_L_tick_B189] at hr
    refine lv_iconst (v := (0 : Int32)) hx hb dL_tick_189 (by decide) ?_
    exact B190 W0 z1 z2 z3 z4 z6 z8 z9 z10 z11 z12 z13 z14 z15 z16 z18 z19 (0 : Int32) _ _ _ hr hP hD hS (lv_sub hl [0, 1, 2, 3, 4, 5, 6, 7, 8, 9, 10, 11, 12, 13, 14, 15, 16] rfl)
  have B160 : ∀ (W0 : CarV) (z1 : Int32) (z2 : Int32) (z3 : UInt32) (z4 : UInt32) (z6 : Int32) (z8 : Int32) (z9 : Int32) (z10 : Int32) (z11 : Int32) (z12 : Int32) (z13 : Int32) (z14 : Int32) (z15 : Int32) (z16 : Int32) (z18 : Int32) (y0 : Int32) (H : Heap) (locs : List Loc) (ls : Array Slot), some R = mf_L_tick_B160 W0 z1 z2 z3 z4 z6 z8 z9 z10 z11 z12 z13 z14 z15 z16 z18 y0 → va_P D vwCl (carW Y ad W0) H → va_D A (carW Y ad W0) → va_S A s.heap H locs → lv_has ls 31 [(0, .ref (ad 0)), (1, .int z1), (2, .int z2), (3, .float z3), (4, .float z4), (6, .int z6), (8, .int z8), (9, .int z9), (10, .int z10), (11, .int z11), (12, .int z12), (13, .int z13), (14, .int z14), (15, .int z15), (16, .int z16), (18, .int z18)] → W p l e ({ frames := 7, cells := 0, slots := 0, locals := 161 } : Room) s m ([.ref (ad 0), .int x1, .int x2] : List Value).toArray below meth c H locs 0 0 (MQ below (va_Qi (S := Unit) (fun r _ => r = R.1) (fun _ t => va_P D vwCl (carW Y ad R.2) t.heap) A) ([.ref (ad 0), .int x1, .int x2] : List Value).toArray s 0 0 A) (F0 m 160 ls [.int y0]) := by
    intro W0 z1 z2 z3 z4 z6 z8 z9 z10 z11 z12 z13 z14 z15 z16 z18 y0 H locs ls hr hP hD hS hl
    rw [mf_L_tick_B160] at hr
    refine lv_istore (lv' := [(19, .int y0), (0, .ref (ad 0)), (1, .int z1), (2, .int z2), (3, .float z3), (4, .float z4), (6, .int z6), (8, .int z8), (9, .int z9), (10, .int z10), (11, .int z11), (12, .int z12), (13, .int z13), (14, .int z14), (15, .int z15), (16, .int z16), (18, .int z18)]) hx hb dL_tick_160 hl (by decide) rfl (fun ls hl => ?_)
    refine lv_iload hx hb dL_tick_162 (lv_at hl 16 rfl) ?_
    refine lv_if_eq (tgt := 189) hx hb dL_tick_164 (by decide) (fun c_36 => ?_) (fun c_36 => ?_)
    · have hr := hr.trans (if_pos c_36)
      exact B189 W0 z1 z2 z3 z4 z6 z8 z9 z10 z11 z12 z13 z14 z15 z16 z18 y0 _ _ _ hr hP hD hS (lv_sub hl [1, 2, 3, 4, 5, 6, 7, 8, 9, 10, 11, 12, 13, 14, 15, 16, 0] rfl)
    · have hr := hr.trans (if_neg c_36)
      refine lv_iload hx hb dL_tick_167 (lv_at hl 0 rfl) ?_
      refine lv_iconst (v := (5 : Int32)) hx hb dL_tick_169 (by decide) ?_
      refine lv_icmp_ge (tgt := 189) hx hb dL_tick_170 (by decide) (fun c_159 => ?_) (fun c_159 => ?_)
      · have hr := hr.trans (if_pos c_159)
        exact B189 W0 z1 z2 z3 z4 z6 z8 z9 z10 z11 z12 z13 z14 z15 z16 z18 y0 _ _ _ hr hP hD hS (lv_sub hl [1, 2, 3, 4, 5, 6, 7, 8, 9, 10, 11, 12, 13, 14, 15, 16, 0] rfl)
      · have hr := hr.trans (if_neg c_159)
        refine lv_fload_n hx hb dL_tick_173 rfl (lv_at hl 4 rfl) ?_
        refine lv_aload_n hx hb dL_tick_174 rfl (lv_at hl 1 rfl) ?_
        refine lv_iload hx hb dL_tick_175 (lv_at hl 0 rfl) ?_
        refine lv_iconst (v := (3 : Int32)) hx hb dL_tick_177 (by decide) ?_
        refine nmv hr (fun r_160 e_161 hr => ?_)
        refine roV_f (As := [.int y0, .int (3 : Int32)]) (rest := [.float z3]) ⟨hx, hb, hml, hown, hts⟩ (k_X5_map l D Y ad W0 y0 (3 : Int32) r_160 e_161) (cwV 2 hts gL_tick_X5_map rfl rfl rfl (by decide +kernel) ⟨Nat.le_of_ble_eq_true rfl, Nat.le_of_ble_eq_true rfl⟩) hP hK hN (hZ.at hS).F 0 5 rfl rfl rfl hl.1 rfl (Nat.le_of_ble_eq_true rfl) dL_tick_178 ⟨Nat.le_refl 0, Nat.le_refl 0⟩ ?_
        refine lv_fcmp hx hb dL_tick_181 ?_
        refine lv_if_le (tgt := 189) hx hb dL_tick_182 (by decide) (fun c_162 => ?_) (fun c_162 => ?_)
        · have hr := hr.trans (if_pos c_162)
          exact B189 W0 z1 z2 z3 z4 z6 z8 z9 z10 z11 z12 z13 z14 z15 z16 z18 y0 _ _ _ hr hP hD hS (lv_sub hl [1, 2, 3, 4, 5, 6, 7, 8, 9, 10, 11, 12, 13, 14, 15, 16, 0] rfl)
        · have hr := hr.trans (if_neg c_162)
          refine lv_iconst (v := (1 : Int32)) hx hb dL_tick_185 (by decide) ?_
          refine lv_goto (tgt := 190) hx hb dL_tick_186 (by decide) ?_
          exact B190 W0 z1 z2 z3 z4 z6 z8 z9 z10 z11 z12 z13 z14 z15 z16 z18 y0 (1 : Int32) _ _ _ hr hP hD hS (lv_sub hl [1, 2, 3, 4, 5, 6, 7, 8, 9, 10, 11, 12, 13, 14, 15, 16, 0] rfl)
  have B146 : ∀ (W0 : CarV) (z1 : Int32) (z2 : Int32) (z3 : UInt32) (z4 : UInt32) (z5 : Int32) (z6 : Int32) (z8 : Int32) (z9 : Int32) (z10 : Int32) (z11 : Int32) (z12 : Int32) (z13 : Int32) (z14 : Int32) (z15 : Int32) (z16 : Int32) (z17 : Int32) (y0 : Int32) (H : Heap) (locs : List Loc) (ls : Array Slot), some R = mf_L_tick_B146 W0 z1 z2 z3 z4 z5 z6 z8 z9 z10 z11 z12 z13 z14 z15 z16 z17 y0 → va_P D vwCl (carW Y ad W0) H → va_D A (carW Y ad W0) → va_S A s.heap H locs → lv_has ls 31 [(0, .ref (ad 0)), (1, .int z1), (2, .int z2), (3, .float z3), (4, .float z4), (5, .int z5), (6, .int z6), (8, .int z8), (9, .int z9), (10, .int z10), (11, .int z11), (12, .int z12), (13, .int z13), (14, .int z14), (15, .int z15), (16, .int z16), (17, .int z17)] → W p l e ({ frames := 7, cells := 0, slots := 0, locals := 161 } : Room) s m ([.ref (ad 0), .int x1, .int x2] : List Value).toArray below meth c H locs 0 0 (MQ below (va_Qi (S := Unit) (fun r _ => r = R.1) (fun _ t => va_P D vwCl (carW Y ad R.2) t.heap) A) ([.ref (ad 0), .int x1, .int x2] : List Value).toArray s 0 0 A) (F0 m 146 ls [.int y0]) := by
    intro W0 z1 z2 z3 z4 z5 z6 z8 z9 z10 z11 z12 z13 z14 z15 z16 z17 y0 H locs ls hr hP hD hS hl
    rw [mf_L_tick_B146] at hr
    refine lv_istore (lv' := [(18, .int y0), (0, .ref (ad 0)), (1, .int z1), (2, .int z2), (3, .float z3), (4, .float z4), (5, .int z5), (6, .int z6), (8, .int z8), (9, .int z9), (10, .int z10), (11, .int z11), (12, .int z12), (13, .int z13), (14, .int z14), (15, .int z15), (16, .int z16), (17, .int z17)]) hx hb dL_tick_146 hl (by decide) rfl (fun ls hl => ?_)
    refine lv_iload hx hb dL_tick_148 (lv_at hl 17 rfl) ?_
    refine lv_if_eq (tgt := 158) hx hb dL_tick_150 (by decide) (fun c_35 => ?_) (fun c_35 => ?_)
    · have hr := hr.trans (if_pos c_35)
      refine lv_iload hx hb dL_tick_158 (lv_at hl 6 rfl) ?_
      exact B160 W0 z1 z2 z3 z4 z6 z8 z9 z10 z11 z12 z13 z14 z15 z16 y0 z5 _ _ _ hr hP hD hS (lv_sub hl [1, 2, 3, 4, 5, 7, 8, 9, 10, 11, 12, 13, 14, 15, 16, 0] rfl)
    · have hr := hr.trans (if_neg c_35)
      refine lv_iload hx hb dL_tick_153 (lv_at hl 7 rfl) ?_
      refine lv_goto (tgt := 160) hx hb dL_tick_155 (by decide) ?_
      exact B160 W0 z1 z2 z3 z4 z6 z8 z9 z10 z11 z12 z13 z14 z15 z16 y0 z6 _ _ _ hr hP hD hS (lv_sub hl [1, 2, 3, 4, 5, 7, 8, 9, 10, 11, 12, 13, 14, 15, 16, 0] rfl)
  have B141 : ∀ (W0 : CarV) (z1 : Int32) (z2 : Int32) (z3 : UInt32) (z4 : UInt32) (z5 : Int32) (z6 : Int32) (z8 : Int32) (z9 : Int32) (z10 : Int32) (z11 : Int32) (z12 : Int32) (z13 : Int32) (z14 : Int32) (z15 : Int32) (z16 : Int32) (z17 : Int32) (H : Heap) (locs : List Loc) (ls : Array Slot), some R = mf_L_tick_B141 W0 z1 z2 z3 z4 z5 z6 z8 z9 z10 z11 z12 z13 z14 z15 z16 z17 → va_P D vwCl (carW Y ad W0) H → va_D A (carW Y ad W0) → va_S A s.heap H locs → lv_has ls 31 [(0, .ref (ad 0)), (1, .int z1), (2, .int z2), (3, .float z3), (4, .float z4), (5, .int z5), (6, .int z6), (8, .int z8), (9, .int z9), (10, .int z10), (11, .int z11), (12, .int z12), (13, .int z13), (14, .int z14), (15, .int z15), (16, .int z16), (17, .int z17)] → W p l e ({ frames := 7, cells := 0, slots := 0, locals := 161 } : Room) s m ([.ref (ad 0), .int x1, .int x2] : List Value).toArray below meth c H locs 0 0 (MQ below (va_Qi (S := Unit) (fun r _ => r = R.1) (fun _ t => va_P D vwCl (carW Y ad R.2) t.heap) A) ([.ref (ad 0), .int x1, .int x2] : List Value).toArray s 0 0 A) (F0 m 141 ls []) := by
    intro W0 z1 z2 z3 z4 z5 z6 z8 z9 z10 z11 z12 z13 z14 z15 z16 z17 H locs ls hr hP hD hS hl
    rw [mf_L_tick_B141] at hr
    refine lv_iconst (v := (1 : Int32)) hx hb dL_tick_141 (by decide) ?_
    refine lv_goto (tgt := 146) hx hb dL_tick_142 (by decide) ?_
    exact B146 W0 z1 z2 z3 z4 z5 z6 z8 z9 z10 z11 z12 z13 z14 z15 z16 z17 (1 : Int32) _ _ _ hr hP hD hS (lv_sub hl [0, 1, 2, 3, 4, 5, 6, 7, 8, 9, 10, 11, 12, 13, 14, 15, 16] rfl)
  have B127 : ∀ (W0 : CarV) (z1 : Int32) (z2 : Int32) (z3 : UInt32) (z4 : UInt32) (z5 : Int32) (z6 : Int32) (z8 : Int32) (z9 : Int32) (z10 : Int32) (z11 : Int32) (z12 : Int32) (z13 : Int32) (z14 : Int32) (z15 : Int32) (z16 : Int32) (y0 : Int32) (H : Heap) (locs : List Loc) (ls : Array Slot), some R = mf_L_tick_B127 W0 z1 z2 z3 z4 z5 z6 z8 z9 z10 z11 z12 z13 z14 z15 z16 y0 → va_P D vwCl (carW Y ad W0) H → va_D A (carW Y ad W0) → va_S A s.heap H locs → lv_has ls 31 [(0, .ref (ad 0)), (1, .int z1), (2, .int z2), (3, .float z3), (4, .float z4), (5, .int z5), (6, .int z6), (8, .int z8), (9, .int z9), (10, .int z10), (11, .int z11), (12, .int z12), (13, .int z13), (14, .int z14), (15, .int z15), (16, .int z16)] → W p l e ({ frames := 7, cells := 0, slots := 0, locals := 161 } : Room) s m ([.ref (ad 0), .int x1, .int x2] : List Value).toArray below meth c H locs 0 0 (MQ below (va_Qi (S := Unit) (fun r _ => r = R.1) (fun _ t => va_P D vwCl (carW Y ad R.2) t.heap) A) ([.ref (ad 0), .int x1, .int x2] : List Value).toArray s 0 0 A) (F0 m 127 ls [.int y0]) := by
    intro W0 z1 z2 z3 z4 z5 z6 z8 z9 z10 z11 z12 z13 z14 z15 z16 y0 H locs ls hr hP hD hS hl
    rw [mf_L_tick_B127] at hr
    refine lv_istore (lv' := [(17, .int y0), (0, .ref (ad 0)), (1, .int z1), (2, .int z2), (3, .float z3), (4, .float z4), (5, .int z5), (6, .int z6), (8, .int z8), (9, .int z9), (10, .int z10), (11, .int z11), (12, .int z12), (13, .int z13), (14, .int z14), (15, .int z15), (16, .int z16)]) hx hb dL_tick_127 hl (by decide) rfl (fun ls hl => ?_)
    refine lv_iload hx hb dL_tick_129 (lv_at hl 7 rfl) ?_
    refine lv_bipush (v := (-5 : Int32)) hx hb dL_tick_131 (by decide) ?_
    refine lv_icmp_eq (tgt := 141) hx hb dL_tick_133 (by decide) (fun c_34 => ?_) (fun c_34 => ?_)
    · have hr := hr.trans (if_pos c_34)
      exact B141 W0 z1 z2 z3 z4 z5 z6 z8 z9 z10 z11 z12 z13 z14 z15 z16 y0 _ _ _ hr hP hD hS (lv_sub hl [1, 2, 3, 4, 5, 6, 7, 8, 9, 10, 11, 12, 13, 14, 15, 16, 0] rfl)
    · have hr := hr.trans (if_neg c_34)
      refine lv_iload hx hb dL_tick_136 (lv_at hl 0 rfl) ?_
      refine lv_if_eq (tgt := 145) hx hb dL_tick_138 (by decide) (fun c_163 => ?_) (fun c_163 => ?_)
      · have hr := hr.trans (if_pos c_163)
        refine lv_iconst (v := (0 : Int32)) hx hb dL_tick_145 (by decide) ?_
        exact B146 W0 z1 z2 z3 z4 z5 z6 z8 z9 z10 z11 z12 z13 z14 z15 z16 y0 (0 : Int32) _ _ _ hr hP hD hS (lv_sub hl [1, 2, 3, 4, 5, 6, 7, 8, 9, 10, 11, 12, 13, 14, 15, 16, 0] rfl)
      · have hr := hr.trans (if_neg c_163)
        exact B141 W0 z1 z2 z3 z4 z5 z6 z8 z9 z10 z11 z12 z13 z14 z15 z16 y0 _ _ _ hr hP hD hS (lv_sub hl [1, 2, 3, 4, 5, 6, 7, 8, 9, 10, 11, 12, 13, 14, 15, 16, 0] rfl)
  have B126 : ∀ (W0 : CarV) (z1 : Int32) (z2 : Int32) (z3 : UInt32) (z4 : UInt32) (z5 : Int32) (z6 : Int32) (z8 : Int32) (z9 : Int32) (z10 : Int32) (z11 : Int32) (z12 : Int32) (z13 : Int32) (z14 : Int32) (z15 : Int32) (z16 : Int32) (H : Heap) (locs : List Loc) (ls : Array Slot), some R = mf_L_tick_B126 W0 z1 z2 z3 z4 z5 z6 z8 z9 z10 z11 z12 z13 z14 z15 z16 → va_P D vwCl (carW Y ad W0) H → va_D A (carW Y ad W0) → va_S A s.heap H locs → lv_has ls 31 [(0, .ref (ad 0)), (1, .int z1), (2, .int z2), (3, .float z3), (4, .float z4), (5, .int z5), (6, .int z6), (8, .int z8), (9, .int z9), (10, .int z10), (11, .int z11), (12, .int z12), (13, .int z13), (14, .int z14), (15, .int z15), (16, .int z16)] → W p l e ({ frames := 7, cells := 0, slots := 0, locals := 161 } : Room) s m ([.ref (ad 0), .int x1, .int x2] : List Value).toArray below meth c H locs 0 0 (MQ below (va_Qi (S := Unit) (fun r _ => r = R.1) (fun _ t => va_P D vwCl (carW Y ad R.2) t.heap) A) ([.ref (ad 0), .int x1, .int x2] : List Value).toArray s 0 0 A) (F0 m 126 ls []) := by
    intro W0 z1 z2 z3 z4 z5 z6 z8 z9 z10 z11 z12 z13 z14 z15 z16 H locs ls hr hP hD hS hl
    rw [mf_L_tick_B126] at hr
    refine lv_iconst (v := (0 : Int32)) hx hb dL_tick_126 (by decide) ?_
    exact B127 W0 z1 z2 z3 z4 z5 z6 z8 z9 z10 z11 z12 z13 z14 z15 z16 (0 : Int32) _ _ _ hr hP hD hS (lv_sub hl [0, 1, 2, 3, 4, 5, 6, 7, 8, 9, 10, 11, 12, 13, 14, 15] rfl)
  rw [mf_L_tick] at hr
  suffices KK : ∀ (H : Heap) (locs : List Loc), va_P D vwCl (carW Y ad V) H → va_S A s.heap H locs → W p l e ({ frames := 7, cells := 0, slots := 0, locals := 161 } : Room) s m ([.ref (ad 0), .int x1, .int x2] : List Value).toArray below meth c H locs 0 0 (MQ below (va_Qi (S := Unit) (fun r _ => r = R.1) (fun _ t => va_P D vwCl (carW Y ad R.2) t.heap) A) ([.ref (ad 0), .int x1, .int x2] : List Value).toArray s 0 0 A) (F0 m 0 ls []) from KK _ _ hP hS
  intro H locs hP hS
  refine lv_iload_n hx hb dL_tick_0 rfl (lv_at hl 1 rfl) ?_
  refine nmv hr (fun r_1 e_2 hr => ?_)
  refine roS_f (As := [.int x1]) (rest := []) ⟨hx, hb, hml, hown, hts⟩ (k_L_fast l D Y  x1 r_1 e_2) (va_cwS 1 hts gL_tick_L_fast rfl rfl rfl (by decide +kernel) ⟨Nat.le_of_ble_eq_true rfl, Nat.le_of_ble_eq_true rfl⟩) (hP.sub (ws' := []) [] rfl) hK hN (hZ.at hS).F rfl hl.1 rfl (Nat.le_of_ble_eq_true rfl) dL_tick_1 ⟨Nat.le_refl 0, Nat.le_refl 0⟩ ?_
  refine lv_fstore_n (lv' := [(3, .float r_1), (0, .ref (ad 0)), (1, .int x1), (2, .int x2)]) hx hb dL_tick_4 rfl hl (by decide) rfl (fun ls hl => ?_)
  refine lv_iload_n hx hb dL_tick_5 rfl (lv_at hl 3 rfl) ?_
  refine nmv hr (fun r_3 e_4 hr => ?_)
  refine roS_f (As := [.int x2]) (rest := []) ⟨hx, hb, hml, hown, hts⟩ (k_L_deep l D Y  x2 r_3 e_4) (va_cwS 1 hts gL_tick_L_deep rfl rfl rfl (by decide +kernel) ⟨Nat.le_of_ble_eq_true rfl, Nat.le_of_ble_eq_true rfl⟩) (hP.sub (ws' := []) [] rfl) hK hN (hZ.at hS).F rfl hl.1 rfl (Nat.le_of_ble_eq_true rfl) dL_tick_6 ⟨Nat.le_refl 0, Nat.le_refl 0⟩ ?_
  refine lv_fstore (lv' := [(4, .float r_3), (3, .float r_1), (0, .ref (ad 0)), (1, .int x1), (2, .int x2)]) hx hb dL_tick_9 hl (by decide) rfl (fun ls hl => ?_)
  refine lv_aload_n hx hb dL_tick_11 rfl (lv_at hl 2 rfl) ?_
  refine lv_iconst (v := (0 : Int32)) hx hb dL_tick_12 (by decide) ?_
  refine nmv hr (fun r_5 e_6 hr => ?_)
  refine roV_i (As := [.int (0 : Int32)]) (rest := []) ⟨hx, hb, hml, hown, hts⟩ (k_X5_car l D Y ad V (0 : Int32) r_5 e_6) (cwV 1 hts gL_tick_X5_car rfl rfl rfl (by decide +kernel) ⟨Nat.le_of_ble_eq_true rfl, Nat.le_of_ble_eq_true rfl⟩) hP hK hN (hZ.at hS).F 0 5 rfl rfl rfl hl.1 rfl (Nat.le_of_ble_eq_true rfl) dL_tick_13 ⟨Nat.le_refl 0, Nat.le_refl 0⟩ ?_
  refine lv_istore (lv' := [(5, .int r_5), (4, .float r_3), (3, .float r_1), (0, .ref (ad 0)), (1, .int x1), (2, .int x2)]) hx hb dL_tick_16 hl (by decide) rfl (fun ls hl => ?_)
  refine lv_aload_n hx hb dL_tick_18 rfl (lv_at hl 3 rfl) ?_
  refine lv_iconst (v := (1 : Int32)) hx hb dL_tick_19 (by decide) ?_
  refine nmv hr (fun r_7 e_8 hr => ?_)
  refine roV_i (As := [.int (1 : Int32)]) (rest := []) ⟨hx, hb, hml, hown, hts⟩ (k_X5_car l D Y ad V (1 : Int32) r_7 e_8) (cwV 1 hts gL_tick_X5_car rfl rfl rfl (by decide +kernel) ⟨Nat.le_of_ble_eq_true rfl, Nat.le_of_ble_eq_true rfl⟩) hP hK hN (hZ.at hS).F 0 5 rfl rfl rfl hl.1 rfl (Nat.le_of_ble_eq_true rfl) dL_tick_20 ⟨Nat.le_refl 0, Nat.le_refl 0⟩ ?_
  refine lv_istore (lv' := [(6, .int r_7), (5, .int r_5), (4, .float r_3), (3, .float r_1), (0, .ref (ad 0)), (1, .int x1), (2, .int x2)]) hx hb dL_tick_23 hl (by decide) rfl (fun ls hl => ?_)
  refine lv_aload_n hx hb dL_tick_25 rfl (lv_at hl 4 rfl) ?_
  refine lv_iconst (v := (2 : Int32)) hx hb dL_tick_26 (by decide) ?_
  refine nmv hr (fun r_9 e_10 hr => ?_)
  refine roV_i (As := [.int (2 : Int32)]) (rest := []) ⟨hx, hb, hml, hown, hts⟩ (k_X5_car l D Y ad V (2 : Int32) r_9 e_10) (cwV 1 hts gL_tick_X5_car rfl rfl rfl (by decide +kernel) ⟨Nat.le_of_ble_eq_true rfl, Nat.le_of_ble_eq_true rfl⟩) hP hK hN (hZ.at hS).F 0 5 rfl rfl rfl hl.1 rfl (Nat.le_of_ble_eq_true rfl) dL_tick_27 ⟨Nat.le_refl 0, Nat.le_refl 0⟩ ?_
  refine lv_istore (lv' := [(7, .int r_9), (6, .int r_7), (5, .int r_5), (4, .float r_3), (3, .float r_1), (0, .ref (ad 0)), (1, .int x1), (2, .int x2)]) hx hb dL_tick_30 hl (by decide) rfl (fun ls hl => ?_)
  refine lv_aload_n hx hb dL_tick_32 rfl (lv_at hl 5 rfl) ?_
  refine lv_iconst (v := (3 : Int32)) hx hb dL_tick_33 (by decide) ?_
  refine nmv hr (fun r_11 e_12 hr => ?_)
  refine roV_i (As := [.int (3 : Int32)]) (rest := []) ⟨hx, hb, hml, hown, hts⟩ (k_X5_car l D Y ad V (3 : Int32) r_11 e_12) (cwV 1 hts gL_tick_X5_car rfl rfl rfl (by decide +kernel) ⟨Nat.le_of_ble_eq_true rfl, Nat.le_of_ble_eq_true rfl⟩) hP hK hN (hZ.at hS).F 0 5 rfl rfl rfl hl.1 rfl (Nat.le_of_ble_eq_true rfl) dL_tick_34 ⟨Nat.le_refl 0, Nat.le_refl 0⟩ ?_
  refine lv_istore (lv' := [(8, .int r_11), (7, .int r_9), (6, .int r_7), (5, .int r_5), (4, .float r_3), (3, .float r_1), (0, .ref (ad 0)), (1, .int x1), (2, .int x2)]) hx hb dL_tick_37 hl (by decide) rfl (fun ls hl => ?_)
  refine lv_aload_n hx hb dL_tick_39 rfl (lv_at hl 6 rfl) ?_
  refine lv_iconst (v := (4 : Int32)) hx hb dL_tick_40 (by decide) ?_
  refine nmv hr (fun r_13 e_14 hr => ?_)
  refine roV_i (As := [.int (4 : Int32)]) (rest := []) ⟨hx, hb, hml, hown, hts⟩ (k_X5_car l D Y ad V (4 : Int32) r_13 e_14) (cwV 1 hts gL_tick_X5_car rfl rfl rfl (by decide +kernel) ⟨Nat.le_of_ble_eq_true rfl, Nat.le_of_ble_eq_true rfl⟩) hP hK hN (hZ.at hS).F 0 5 rfl rfl rfl hl.1 rfl (Nat.le_of_ble_eq_true rfl) dL_tick_41 ⟨Nat.le_refl 0, Nat.le_refl 0⟩ ?_
  refine lv_istore (lv' := [(9, .int r_13), (8, .int r_11), (7, .int r_9), (6, .int r_7), (5, .int r_5), (4, .float r_3), (3, .float r_1), (0, .ref (ad 0)), (1, .int x1), (2, .int x2)]) hx hb dL_tick_44 hl (by decide) rfl (fun ls hl => ?_)
  refine lv_aload_n hx hb dL_tick_46 rfl (lv_at hl 7 rfl) ?_
  refine lv_iload_n hx hb dL_tick_47 rfl (lv_at hl 8 rfl) ?_
  refine nmv hr (fun r_15 e_16 hr => ?_)
  refine roS_i (As := [.int x1]) (rest := [.ref (ad 0)]) ⟨hx, hb, hml, hown, hts⟩ (k_L_speed l D Y  x1 r_15 e_16) (va_cwS 1 hts gL_tick_L_speed rfl rfl rfl (by decide +kernel) ⟨Nat.le_of_ble_eq_true rfl, Nat.le_of_ble_eq_true rfl⟩) (hP.sub (ws' := []) [] rfl) hK hN (hZ.at hS).F rfl hl.1 rfl (Nat.le_of_ble_eq_true rfl) dL_tick_48 ⟨Nat.le_refl 0, Nat.le_refl 0⟩ ?_
  refine lv_iload_n hx hb dL_tick_51 rfl (lv_at hl 9 rfl) ?_
  refine nmv hr (fun r_17 e_18 hr => ?_)
  refine roS_i (As := [.int x2]) (rest := [.int r_15, .ref (ad 0)]) ⟨hx, hb, hml, hown, hts⟩ (k_L_pedal l D Y  x2 r_17 e_18) (va_cwS 1 hts gL_tick_L_pedal rfl rfl rfl (by decide +kernel) ⟨Nat.le_of_ble_eq_true rfl, Nat.le_of_ble_eq_true rfl⟩) (hP.sub (ws' := []) [] rfl) hK hN (hZ.at hS).F rfl hl.1 rfl (Nat.le_of_ble_eq_true rfl) dL_tick_52 ⟨Nat.le_refl 0, Nat.le_refl 0⟩ ?_
  refine bdv hr (fun r_19 e_20 hr => ?_)
  refine rwV_iw (As := [.int r_15, .int r_17]) (rest := []) ⟨hx, hb, hml, hown, hts⟩ (k_X5_wouldChoose l D Y ad V r_15 r_17 r_19 e_20) (cwV 2 hts gL_tick_X5_wouldChoose rfl rfl rfl (by decide +kernel) ⟨Nat.le_of_ble_eq_true rfl, Nat.le_of_ble_eq_true rfl⟩) hP hK hN hZ hD hS rfl 0 5 rfl rfl rfl hl.1 rfl (Nat.le_of_ble_eq_true rfl) dL_tick_55 ⟨Nat.le_refl 0, Nat.le_refl 0⟩ (fun H locs hP hD hS => ?_)
  refine lv_istore (lv' := [(10, .int r_19.1), (9, .int r_13), (8, .int r_11), (7, .int r_9), (6, .int r_7), (5, .int r_5), (4, .float r_3), (3, .float r_1), (0, .ref (ad 0)), (1, .int x1), (2, .int x2)]) hx hb dL_tick_58 hl (by decide) rfl (fun ls hl => ?_)
  refine lv_aload_n hx hb dL_tick_60 rfl (lv_at hl 8 rfl) ?_
  refine lv_iconst (v := (1 : Int32)) hx hb dL_tick_61 (by decide) ?_
  refine nmv hr (fun r_21 e_22 hr => ?_)
  refine roV_i (As := [.int (1 : Int32)]) (rest := []) ⟨hx, hb, hml, hown, hts⟩ (k_X5_count l D Y ad r_19.2 (1 : Int32) r_21 e_22) (cwV 1 hts gL_tick_X5_count rfl rfl rfl (by decide +kernel) ⟨Nat.le_of_ble_eq_true rfl, Nat.le_of_ble_eq_true rfl⟩) hP hK hN (hZ.at hS).F 0 5 rfl rfl rfl hl.1 rfl (Nat.le_of_ble_eq_true rfl) dL_tick_62 ⟨Nat.le_refl 0, Nat.le_refl 0⟩ ?_
  refine lv_istore (lv' := [(11, .int r_21), (10, .int r_19.1), (9, .int r_13), (8, .int r_11), (7, .int r_9), (6, .int r_7), (5, .int r_5), (4, .float r_3), (3, .float r_1), (0, .ref (ad 0)), (1, .int x1), (2, .int x2)]) hx hb dL_tick_65 hl (by decide) rfl (fun ls hl => ?_)
  refine lv_aload_n hx hb dL_tick_67 rfl (lv_at hl 9 rfl) ?_
  refine lv_iconst (v := (2 : Int32)) hx hb dL_tick_68 (by decide) ?_
  refine nmv hr (fun r_23 e_24 hr => ?_)
  refine roV_i (As := [.int (2 : Int32)]) (rest := []) ⟨hx, hb, hml, hown, hts⟩ (k_X5_count l D Y ad r_19.2 (2 : Int32) r_23 e_24) (cwV 1 hts gL_tick_X5_count rfl rfl rfl (by decide +kernel) ⟨Nat.le_of_ble_eq_true rfl, Nat.le_of_ble_eq_true rfl⟩) hP hK hN (hZ.at hS).F 0 5 rfl rfl rfl hl.1 rfl (Nat.le_of_ble_eq_true rfl) dL_tick_69 ⟨Nat.le_refl 0, Nat.le_refl 0⟩ ?_
  refine lv_istore (lv' := [(12, .int r_23), (11, .int r_21), (10, .int r_19.1), (9, .int r_13), (8, .int r_11), (7, .int r_9), (6, .int r_7), (5, .int r_5), (4, .float r_3), (3, .float r_1), (0, .ref (ad 0)), (1, .int x1), (2, .int x2)]) hx hb dL_tick_72 hl (by decide) rfl (fun ls hl => ?_)
  refine lv_aload_n hx hb dL_tick_74 rfl (lv_at hl 10 rfl) ?_
  refine lv_iconst (v := (3 : Int32)) hx hb dL_tick_75 (by decide) ?_
  refine nmv hr (fun r_25 e_26 hr => ?_)
  refine roV_i (As := [.int (3 : Int32)]) (rest := []) ⟨hx, hb, hml, hown, hts⟩ (k_X5_count l D Y ad r_19.2 (3 : Int32) r_25 e_26) (cwV 1 hts gL_tick_X5_count rfl rfl rfl (by decide +kernel) ⟨Nat.le_of_ble_eq_true rfl, Nat.le_of_ble_eq_true rfl⟩) hP hK hN (hZ.at hS).F 0 5 rfl rfl rfl hl.1 rfl (Nat.le_of_ble_eq_true rfl) dL_tick_76 ⟨Nat.le_refl 0, Nat.le_refl 0⟩ ?_
  refine lv_istore (lv' := [(13, .int r_25), (12, .int r_23), (11, .int r_21), (10, .int r_19.1), (9, .int r_13), (8, .int r_11), (7, .int r_9), (6, .int r_7), (5, .int r_5), (4, .float r_3), (3, .float r_1), (0, .ref (ad 0)), (1, .int x1), (2, .int x2)]) hx hb dL_tick_79 hl (by decide) rfl (fun ls hl => ?_)
  refine lv_aload_n hx hb dL_tick_81 rfl (lv_at hl 11 rfl) ?_
  refine lv_iconst (v := (5 : Int32)) hx hb dL_tick_82 (by decide) ?_
  refine nmv hr (fun r_27 e_28 hr => ?_)
  refine roV_i (As := [.int (5 : Int32)]) (rest := []) ⟨hx, hb, hml, hown, hts⟩ (k_X5_count l D Y ad r_19.2 (5 : Int32) r_27 e_28) (cwV 1 hts gL_tick_X5_count rfl rfl rfl (by decide +kernel) ⟨Nat.le_of_ble_eq_true rfl, Nat.le_of_ble_eq_true rfl⟩) hP hK hN (hZ.at hS).F 0 5 rfl rfl rfl hl.1 rfl (Nat.le_of_ble_eq_true rfl) dL_tick_83 ⟨Nat.le_refl 0, Nat.le_refl 0⟩ ?_
  refine lv_istore (lv' := [(14, .int r_27), (13, .int r_25), (12, .int r_23), (11, .int r_21), (10, .int r_19.1), (9, .int r_13), (8, .int r_11), (7, .int r_9), (6, .int r_7), (5, .int r_5), (4, .float r_3), (3, .float r_1), (0, .ref (ad 0)), (1, .int x1), (2, .int x2)]) hx hb dL_tick_86 hl (by decide) rfl (fun ls hl => ?_)
  refine lv_aload_n hx hb dL_tick_88 rfl (lv_at hl 12 rfl) ?_
  refine lv_bipush (v := (6 : Int32)) hx hb dL_tick_89 (by decide) ?_
  refine nmv hr (fun r_29 e_30 hr => ?_)
  refine roV_i (As := [.int (6 : Int32)]) (rest := []) ⟨hx, hb, hml, hown, hts⟩ (k_X5_count l D Y ad r_19.2 (6 : Int32) r_29 e_30) (cwV 1 hts gL_tick_X5_count rfl rfl rfl (by decide +kernel) ⟨Nat.le_of_ble_eq_true rfl, Nat.le_of_ble_eq_true rfl⟩) hP hK hN (hZ.at hS).F 0 5 rfl rfl rfl hl.1 rfl (Nat.le_of_ble_eq_true rfl) dL_tick_91 ⟨Nat.le_refl 0, Nat.le_refl 0⟩ ?_
  refine lv_istore (lv' := [(15, .int r_29), (14, .int r_27), (13, .int r_25), (12, .int r_23), (11, .int r_21), (10, .int r_19.1), (9, .int r_13), (8, .int r_11), (7, .int r_9), (6, .int r_7), (5, .int r_5), (4, .float r_3), (3, .float r_1), (0, .ref (ad 0)), (1, .int x1), (2, .int x2)]) hx hb dL_tick_94 hl (by decide) rfl (fun ls hl => ?_)
  refine lv_aload_n hx hb dL_tick_96 rfl (lv_at hl 13 rfl) ?_
  refine lv_iconst (v := (0 : Int32)) hx hb dL_tick_97 (by decide) ?_
  refine nmv hr (fun r_31 e_32 hr => ?_)
  refine roV_i (As := [.int (0 : Int32)]) (rest := []) ⟨hx, hb, hml, hown, hts⟩ (k_X5_count l D Y ad r_19.2 (0 : Int32) r_31 e_32) (cwV 1 hts gL_tick_X5_count rfl rfl rfl (by decide +kernel) ⟨Nat.le_of_ble_eq_true rfl, Nat.le_of_ble_eq_true rfl⟩) hP hK hN (hZ.at hS).F 0 5 rfl rfl rfl hl.1 rfl (Nat.le_of_ble_eq_true rfl) dL_tick_98 ⟨Nat.le_refl 0, Nat.le_refl 0⟩ ?_
  refine lv_istore (lv' := [(16, .int r_31), (15, .int r_29), (14, .int r_27), (13, .int r_25), (12, .int r_23), (11, .int r_21), (10, .int r_19.1), (9, .int r_13), (8, .int r_11), (7, .int r_9), (6, .int r_7), (5, .int r_5), (4, .float r_3), (3, .float r_1), (0, .ref (ad 0)), (1, .int x1), (2, .int x2)]) hx hb dL_tick_101 hl (by decide) rfl (fun ls hl => ?_)
  refine lv_iload hx hb dL_tick_103 (lv_at hl 10 rfl) ?_
  refine lv_bipush (v := (-5 : Int32)) hx hb dL_tick_105 (by decide) ?_
  refine lv_icmp_eq (tgt := 126) hx hb dL_tick_107 (by decide) (fun c_33 => ?_) (fun c_33 => ?_)
  · have hr := hr.trans (if_pos c_33)
    exact B126 r_19.2 x1 x2 r_1 r_3 r_5 r_7 r_11 r_13 r_19.1 r_21 r_23 r_25 r_27 r_29 r_31 _ _ _ hr hP hD hS (lv_sub hl [14, 15, 16, 13, 12, 11, 10, 8, 7, 6, 5, 4, 3, 2, 1, 0] rfl)
  · have hr := hr.trans (if_neg c_33)
    refine lv_iload hx hb dL_tick_110 (lv_at hl 9 rfl) ?_
    refine lv_iconst (v := (1 : Int32)) hx hb dL_tick_112 (by decide) ?_
    refine lv_iadd hx hb dL_tick_113 ?_
    refine lv_aload_n hx hb dL_tick_114 rfl (lv_at hl 14 rfl) ?_
    refine lv_iconst (v := (0 : Int32)) hx hb dL_tick_115 (by decide) ?_
    refine nmv hr (fun r_164 e_165 hr => ?_)
    refine roV_i (As := [.int (0 : Int32)]) (rest := [.int (r_9 + (1 : Int32))]) ⟨hx, hb, hml, hown, hts⟩ (k_X5_number l D Y ad r_19.2 (0 : Int32) r_164 e_165) (cwV 1 hts gL_tick_X5_number rfl rfl rfl (by decide +kernel) ⟨Nat.le_of_ble_eq_true rfl, Nat.le_of_ble_eq_true rfl⟩) hP hK hN (hZ.at hS).F 0 5 rfl rfl rfl hl.1 rfl (Nat.le_of_ble_eq_true rfl) dL_tick_116 ⟨Nat.le_refl 0, Nat.le_refl 0⟩ ?_
    refine lv_icmp_ne (tgt := 126) hx hb dL_tick_119 (by decide) (fun c_166 => ?_) (fun c_166 => ?_)
    · have hr := hr.trans (if_neg c_166)
      exact B126 r_19.2 x1 x2 r_1 r_3 r_5 r_7 r_11 r_13 r_19.1 r_21 r_23 r_25 r_27 r_29 r_31 _ _ _ hr hP hD hS (lv_sub hl [14, 15, 16, 13, 12, 11, 10, 8, 7, 6, 5, 4, 3, 2, 1, 0] rfl)
    · have hr := hr.trans (if_pos c_166)
      refine lv_iconst (v := (1 : Int32)) hx hb dL_tick_122 (by decide) ?_
      refine lv_goto (tgt := 127) hx hb dL_tick_123 (by decide) ?_
      exact B127 r_19.2 x1 x2 r_1 r_3 r_5 r_7 r_11 r_13 r_19.1 r_21 r_23 r_25 r_27 r_29 r_31 (1 : Int32) _ _ _ hr hP hD hS (lv_sub hl [14, 15, 16, 13, 12, 11, 10, 8, 7, 6, 5, 4, 3, 2, 1, 0] rfl)

set_option maxHeartbeats 4000000 in
set_option maxRecDepth 100000 in
theorem k_L_settles (l : Launch) (D : va_G) (Y : Nat → ClassId) (ad : Nat → Nat) (V : CarV) (x1 : Int32) (x2 : Int32) (R : Int32 × CarV) (hr : some R = mf_L_settles V x1 x2) : Met l yL_settles wsL_settles ({ frames := 7, cells := 0, slots := 0, locals := 161 } : Room) (va_Pc [.ref (ad 0), .int x1, .int x2] (PW D Y (carW Y ad V))) (va_Qi (S := Unit) (fun r _ => r = R.1) (fun _ t => va_P D vwCl (carW Y ad R.2) t.heap) (wA (carW Y ad V))) 0 0 (wA (carW Y ad V)) := by
  refine Met.ofW (cc := cL_settles) (maxL := 5) (ret := (some .boolean)) (by decide) rfl ?_
  intro p e s m args below meth c s₁ B hml hv
  obtain ⟨rfl, hP, hK, hN, hZ, hD⟩ := hv
  have hx := B.exec
  have hb := B.bytes
  have hrt := B.returns
  have hts := atoms_spec (ws := wsL_settles) B.pre
  have hown : s.vm.findClass RL = some m.cls := findClass_of_methodNamed B.named
  have hlocks := B.notSynchronized
  generalize hAe : wA (carW Y ad V) = A at hZ hD ⊢
  have hS : va_S A s.heap s.heap [] := va_S.rf
  have hl := lv_entry ([.ref (ad 0), .int x1, .int x2]) (n := 5) (Nat.le_of_ble_eq_true rfl)
  rw [lg_entry_eq]
  generalize (lg_sl ([.ref (ad 0), .int x1, .int x2]) ++ List.replicate (5 - (lg_sl ([.ref (ad 0), .int x1, .int x2])).length) Slot.unset).toArray = ls at hl ⊢
  have hl : lv_has ls 5 [(0, .ref (ad 0)), (1, .int x1), (2, .int x2)] := hl
  have B45 : ∀ (W0 : CarV) (H : Heap) (locs : List Loc) (ls : Array Slot), some R = mf_L_settles_B45 W0 → va_P D vwCl (carW Y ad W0) H → va_D A (carW Y ad W0) → va_S A s.heap H locs → lv_has ls 5 [] → W p l e ({ frames := 7, cells := 0, slots := 0, locals := 161 } : Room) s m ([.ref (ad 0), .int x1, .int x2] : List Value).toArray below meth c H locs 0 0 (MQ below (va_Qi (S := Unit) (fun r _ => r = R.1) (fun _ t => va_P D vwCl (carW Y ad R.2) t.heap) A) ([.ref (ad 0), .int x1, .int x2] : List Value).toArray s 0 0 A) (F0 m 45 ls []) := by
    intro W0 H locs ls hr hP hD hS hl
    rw [mf_L_settles_B45] at hr
    refine lv_iconst (v := (1 : Int32)) hx hb dL_settles_45 (by decide) ?_
    refine lv_goto (tgt := 50) hx hb dL_settles_46 (by decide) ?_
    have hr := Option.some.inj hr
    subst hr
    exact W.zret (ty := .boolean) hx hb hrt (by decide) (fun t ht hW => ⟨⟨_, (), rfl, rfl, by show va_P D vwCl _ t.heap; rw [ht]; exact hP⟩, hS.F ht⟩) hS.2.2 dL_settles_50
  have B24 : ∀ (W0 : CarV) (z1 : Int32) (z2 : Int32) (z3 : Int32) (H : Heap) (locs : List Loc) (ls : Array Slot), some R = mf_L_settles_B24 W0 z1 z2 z3 → va_P D vwCl (carW Y ad W0) H → va_D A (carW Y ad W0) → va_S A s.heap H locs → lv_has ls 5 [(0, .ref (ad 0)), (1, .int z1), (2, .int z2), (3, .int z3)] → W p l e ({ frames := 7, cells := 0, slots := 0, locals := 161 } : Room) s m ([.ref (ad 0), .int x1, .int x2] : List Value).toArray below meth c H locs 0 0 (MQ below (va_Qi (S := Unit) (fun r _ => r = R.1) (fun _ t => va_P D vwCl (carW Y ad R.2) t.heap) A) ([.ref (ad 0), .int x1, .int x2] : List Value).toArray s 0 0 A) (F0 m 24 ls []) := by
    intro W0 z1 z2 z3 H locs ls hr hP hD hS hl
    rw [mf_L_settles_B24] at hr
    refine lv_iload_n hx hb dL_settles_24 rfl (lv_at hl 3 rfl) ?_
    refine lv_if_ne (tgt := 45) hx hb dL_settles_25 (by decide) (fun c_8 => ?_) (fun c_8 => ?_)
    · have hr := hr.trans (if_neg c_8)
      exact B45 W0 _ _ _ hr hP hD hS (lv_sub hl [] rfl)
    · have hr := hr.trans (if_pos c_8)
      refine lv_aload_n hx hb dL_settles_28 rfl (lv_at hl 0 rfl) ?_
      refine lv_iload_n hx hb dL_settles_29 rfl (lv_at hl 1 rfl) ?_
      refine nmv hr (fun r_9 e_10 hr => ?_)
      refine roS_i (As := [.int z1]) (rest := [.ref (ad 0)]) ⟨hx, hb, hml, hown, hts⟩ (k_L_speed l D Y  z1 r_9 e_10) (va_cwS 1 hts gL_settles_L_speed rfl rfl rfl (by decide +kernel) ⟨Nat.le_of_ble_eq_true rfl, Nat.le_of_ble_eq_true rfl⟩) (hP.sub (ws' := []) [] rfl) hK hN (hZ.at hS).F rfl hl.1 rfl (Nat.le_of_ble_eq_true rfl) dL_settles_30 ⟨Nat.le_refl 0, Nat.le_refl 0⟩ ?_
      refine lv_iload_n hx hb dL_settles_33 rfl (lv_at hl 2 rfl) ?_
      refine nmv hr (fun r_11 e_12 hr => ?_)
      refine roS_i (As := [.int z2]) (rest := [.int r_9, .ref (ad 0)]) ⟨hx, hb, hml, hown, hts⟩ (k_L_pedal l D Y  z2 r_11 e_12) (va_cwS 1 hts gL_settles_L_pedal rfl rfl rfl (by decide +kernel) ⟨Nat.le_of_ble_eq_true rfl, Nat.le_of_ble_eq_true rfl⟩) (hP.sub (ws' := []) [] rfl) hK hN (hZ.at hS).F rfl hl.1 rfl (Nat.le_of_ble_eq_true rfl) dL_settles_34 ⟨Nat.le_refl 0, Nat.le_refl 0⟩ ?_
      refine lv_bipush (v := (99 : Int32)) hx hb dL_settles_37 (by decide) ?_
      refine bdv hr (fun r_13 e_14 hr => ?_)
      refine rwV_iw (As := [.int r_9, .int r_11, .int (99 : Int32)]) (rest := []) ⟨hx, hb, hml, hown, hts⟩ (k_X5_drive l D Y ad W0 r_9 r_11 (99 : Int32) r_13 e_14) (cwV 3 hts gL_settles_X5_drive rfl rfl rfl (by decide +kernel) ⟨Nat.le_of_ble_eq_true rfl, Nat.le_of_ble_eq_true rfl⟩) hP hK hN hZ hD hS rfl 0 5 rfl rfl rfl hl.1 rfl (Nat.le_of_ble_eq_true rfl) dL_settles_39 ⟨Nat.le_refl 0, Nat.le_refl 0⟩ (fun H locs hP hD hS => ?_)
      refine lv_if_ne (tgt := 49) hx hb dL_settles_42 (by decide) (fun c_15 => ?_) (fun c_15 => ?_)
      · have hr := hr.trans (if_neg c_15)
        refine lv_iconst (v := (0 : Int32)) hx hb dL_settles_49 (by decide) ?_
        have hr := Option.some.inj hr
        subst hr
        exact W.zret (ty := .boolean) hx hb hrt (by decide) (fun t ht hW => ⟨⟨_, (), rfl, rfl, by show va_P D vwCl _ t.heap; rw [ht]; exact hP⟩, hS.F ht⟩) hS.2.2 dL_settles_50
      · have hr := hr.trans (if_pos c_15)
        exact B45 r_13.2 _ _ _ hr hP hD hS (lv_sub hl [] rfl)
  have B75 : ∀ (W0 : CarV) (z1 : Int32) (z2 : Int32) (y0 : Int32) (H : Heap) (locs : List Loc) (ls : Array Slot), some R = mf_L_settles_B75 W0 z1 z2 y0 → va_P D vwCl (carW Y ad W0) H → va_D A (carW Y ad W0) → va_S A s.heap H locs → lv_has ls 5 [(0, .ref (ad 0)), (1, .int z1), (2, .int z2)] → W p l e ({ frames := 7, cells := 0, slots := 0, locals := 161 } : Room) s m ([.ref (ad 0), .int x1, .int x2] : List Value).toArray below meth c H locs 0 0 (MQ below (va_Qi (S := Unit) (fun r _ => r = R.1) (fun _ t => va_P D vwCl (carW Y ad R.2) t.heap) A) ([.ref (ad 0), .int x1, .int x2] : List Value).toArray s 0 0 A) (F0 m 75 ls [.int y0]) := by
    intro W0 z1 z2 y0 H locs ls hr hP hD hS hl
    rw [mf_L_settles_B75] at hr
    refine lv_istore (lv' := [(4, .int y0), (0, .ref (ad 0)), (1, .int z1), (2, .int z2)]) hx hb dL_settles_75 hl (by decide) rfl (fun ls hl => ?_)
    refine lv_iload hx hb dL_settles_77 (lv_at hl 0 rfl) ?_
    refine lv_if_lt (tgt := 120) hx hb dL_settles_79 (by decide) (fun c_18 => ?_) (fun c_18 => ?_)
    · have hr := hr.trans (if_pos c_18)
      refine lv_iconst (v := (0 : Int32)) hx hb dL_settles_120 (by decide) ?_
      have hr := Option.some.inj hr
      subst hr
      exact W.zret (ty := .boolean) hx hb hrt (by decide) (fun t ht hW => ⟨⟨_, (), rfl, rfl, by show va_P D vwCl _ t.heap; rw [ht]; exact hP⟩, hS.F ht⟩) hS.2.2 dL_settles_121
    · have hr := hr.trans (if_neg c_18)
      refine lv_aload_n hx hb dL_settles_82 rfl (lv_at hl 1 rfl) ?_
      refine lv_iload_n hx hb dL_settles_83 rfl (lv_at hl 2 rfl) ?_
      refine nmv hr (fun r_19 e_20 hr => ?_)
      refine roS_i (As := [.int z1]) (rest := [.ref (ad 0)]) ⟨hx, hb, hml, hown, hts⟩ (k_L_speed l D Y  z1 r_19 e_20) (va_cwS 1 hts gL_settles_L_speed rfl rfl rfl (by decide +kernel) ⟨Nat.le_of_ble_eq_true rfl, Nat.le_of_ble_eq_true rfl⟩) (hP.sub (ws' := []) [] rfl) hK hN (hZ.at hS).F rfl hl.1 rfl (Nat.le_of_ble_eq_true rfl) dL_settles_84 ⟨Nat.le_refl 0, Nat.le_refl 0⟩ ?_
      refine lv_iload_n hx hb dL_settles_87 rfl (lv_at hl 3 rfl) ?_
      refine nmv hr (fun r_21 e_22 hr => ?_)
      refine roS_i (As := [.int z2]) (rest := [.int r_19, .ref (ad 0)]) ⟨hx, hb, hml, hown, hts⟩ (k_L_pedal l D Y  z2 r_21 e_22) (va_cwS 1 hts gL_settles_L_pedal rfl rfl rfl (by decide +kernel) ⟨Nat.le_of_ble_eq_true rfl, Nat.le_of_ble_eq_true rfl⟩) (hP.sub (ws' := []) [] rfl) hK hN (hZ.at hS).F rfl hl.1 rfl (Nat.le_of_ble_eq_true rfl) dL_settles_88 ⟨Nat.le_refl 0, Nat.le_refl 0⟩ ?_
      refine lv_iconst (v := (1 : Int32)) hx hb dL_settles_91 (by decide) ?_
      refine bdv hr (fun r_23 e_24 hr => ?_)
      refine rwV_iw (As := [.int r_19, .int r_21, .int (1 : Int32)]) (rest := []) ⟨hx, hb, hml, hown, hts⟩ (k_X5_drive l D Y ad W0 r_19 r_21 (1 : Int32) r_23 e_24) (cwV 3 hts gL_settles_X5_drive rfl rfl rfl (by decide +kernel) ⟨Nat.le_of_ble_eq_true rfl, Nat.le_of_ble_eq_true rfl⟩) hP hK hN hZ hD hS rfl 0 5 rfl rfl rfl hl.1 rfl (Nat.le_of_ble_eq_true rfl) dL_settles_92 ⟨Nat.le_refl 0, Nat.le_refl 0⟩ (fun H locs hP hD hS => ?_)
      refine lv_iconst (v := (1 : Int32)) hx hb dL_settles_95 (by decide) ?_
      refine lv_icmp_ne (tgt := 120) hx hb dL_settles_96 (by decide) (fun c_25 => ?_) (fun c_25 => ?_)
      · have hr := hr.trans (if_neg c_25)
        refine lv_iconst (v := (0 : Int32)) hx hb dL_settles_120 (by decide) ?_
        have hr := Option.some.inj hr
        subst hr
        exact W.zret (ty := .boolean) hx hb hrt (by decide) (fun t ht hW => ⟨⟨_, (), rfl, rfl, by show va_P D vwCl _ t.heap; rw [ht]; exact hP⟩, hS.F ht⟩) hS.2.2 dL_settles_121
      · have hr := hr.trans (if_pos c_25)
        refine lv_aload_n hx hb dL_settles_99 rfl (lv_at hl 1 rfl) ?_
        refine lv_iload_n hx hb dL_settles_100 rfl (lv_at hl 2 rfl) ?_
        refine nmv hr (fun r_26 e_27 hr => ?_)
        refine roS_i (As := [.int z1]) (rest := [.ref (ad 0)]) ⟨hx, hb, hml, hown, hts⟩ (k_L_speed l D Y  z1 r_26 e_27) (va_cwS 1 hts gL_settles_L_speed rfl rfl rfl (by decide +kernel) ⟨Nat.le_of_ble_eq_true rfl, Nat.le_of_ble_eq_true rfl⟩) (hP.sub (ws' := []) [] rfl) hK hN (hZ.at hS).F rfl hl.1 rfl (Nat.le_of_ble_eq_true rfl) dL_settles_101 ⟨Nat.le_refl 0, Nat.le_refl 0⟩ ?_
        refine lv_iload_n hx hb dL_settles_104 rfl (lv_at hl 3 rfl) ?_
        refine nmv hr (fun r_28 e_29 hr => ?_)
        refine roS_i (As := [.int z2]) (rest := [.int r_26, .ref (ad 0)]) ⟨hx, hb, hml, hown, hts⟩ (k_L_pedal l D Y  z2 r_28 e_29) (va_cwS 1 hts gL_settles_L_pedal rfl rfl rfl (by decide +kernel) ⟨Nat.le_of_ble_eq_true rfl, Nat.le_of_ble_eq_true rfl⟩) (hP.sub (ws' := []) [] rfl) hK hN (hZ.at hS).F rfl hl.1 rfl (Nat.le_of_ble_eq_true rfl) dL_settles_105 ⟨Nat.le_refl 0, Nat.le_refl 0⟩ ?_
        refine lv_bipush (v := (99 : Int32)) hx hb dL_settles_108 (by decide) ?_
        refine bdv hr (fun r_30 e_31 hr => ?_)
        refine rwV_iw (As := [.int r_26, .int r_28, .int (99 : Int32)]) (rest := []) ⟨hx, hb, hml, hown, hts⟩ (k_X5_drive l D Y ad r_23.2 r_26 r_28 (99 : Int32) r_30 e_31) (cwV 3 hts gL_settles_X5_drive rfl rfl rfl (by decide +kernel) ⟨Nat.le_of_ble_eq_true rfl, Nat.le_of_ble_eq_true rfl⟩) hP hK hN hZ hD hS rfl 0 5 rfl rfl rfl hl.1 rfl (Nat.le_of_ble_eq_true rfl) dL_settles_110 ⟨Nat.le_refl 0, Nat.le_refl 0⟩ (fun H locs hP hD hS => ?_)
        refine lv_if_ne (tgt := 120) hx hb dL_settles_113 (by decide) (fun c_32 => ?_) (fun c_32 => ?_)
        · have hr := hr.trans (if_neg c_32)
          refine lv_iconst (v := (0 : Int32)) hx hb dL_settles_120 (by decide) ?_
          have hr := Option.some.inj hr
          subst hr
          exact W.zret (ty := .boolean) hx hb hrt (by decide) (fun t ht hW => ⟨⟨_, (), rfl, rfl, by show va_P D vwCl _ t.heap; rw [ht]; exact hP⟩, hS.F ht⟩) hS.2.2 dL_settles_121
        · have hr := hr.trans (if_pos c_32)
          refine lv_iconst (v := (1 : Int32)) hx hb dL_settles_116 (by decide) ?_
          refine lv_goto (tgt := 121) hx hb dL_settles_117 (by decide) ?_
          have hr := Option.some.inj hr
          subst hr
          exact W.zret (ty := .boolean) hx hb hrt (by decide) (fun t ht hW => ⟨⟨_, (), rfl, rfl, by show va_P D vwCl _ t.heap; rw [ht]; exact hP⟩, hS.F ht⟩) hS.2.2 dL_settles_121
  rw [mf_L_settles] at hr
  suffices KK : ∀ (H : Heap) (locs : List Loc), va_P D vwCl (carW Y ad V) H → va_S A s.heap H locs → W p l e ({ frames := 7, cells := 0, slots := 0, locals := 161 } : Room) s m ([.ref (ad 0), .int x1, .int x2] : List Value).toArray below meth c H locs 0 0 (MQ below (va_Qi (S := Unit) (fun r _ => r = R.1) (fun _ t => va_P D vwCl (carW Y ad R.2) t.heap) A) ([.ref (ad 0), .int x1, .int x2] : List Value).toArray s 0 0 A) (F0 m 0 ls []) from KK _ _ hP hS
  intro H locs hP hS
  refine lv_aload_n hx hb dL_settles_0 rfl (lv_at hl 0 rfl) ?_
  refine lv_iload_n hx hb dL_settles_1 rfl (lv_at hl 1 rfl) ?_
  refine nmv hr (fun r_1 e_2 hr => ?_)
  refine roS_i (As := [.int x1]) (rest := [.ref (ad 0)]) ⟨hx, hb, hml, hown, hts⟩ (k_L_speed l D Y  x1 r_1 e_2) (va_cwS 1 hts gL_settles_L_speed rfl rfl rfl (by decide +kernel) ⟨Nat.le_of_ble_eq_true rfl, Nat.le_of_ble_eq_true rfl⟩) (hP.sub (ws' := []) [] rfl) hK hN (hZ.at hS).F rfl hl.1 rfl (Nat.le_of_ble_eq_true rfl) dL_settles_2 ⟨Nat.le_refl 0, Nat.le_refl 0⟩ ?_
  refine lv_iload_n hx hb dL_settles_5 rfl (lv_at hl 2 rfl) ?_
  refine nmv hr (fun r_3 e_4 hr => ?_)
  refine roS_i (As := [.int x2]) (rest := [.int r_1, .ref (ad 0)]) ⟨hx, hb, hml, hown, hts⟩ (k_L_pedal l D Y  x2 r_3 e_4) (va_cwS 1 hts gL_settles_L_pedal rfl rfl rfl (by decide +kernel) ⟨Nat.le_of_ble_eq_true rfl, Nat.le_of_ble_eq_true rfl⟩) (hP.sub (ws' := []) [] rfl) hK hN (hZ.at hS).F rfl hl.1 rfl (Nat.le_of_ble_eq_true rfl) dL_settles_6 ⟨Nat.le_refl 0, Nat.le_refl 0⟩ ?_
  refine bdv hr (fun r_5 e_6 hr => ?_)
  refine rwV_iw (As := [.int r_1, .int r_3]) (rest := []) ⟨hx, hb, hml, hown, hts⟩ (k_X5_settles l D Y ad V r_1 r_3 r_5 e_6) (cwV 2 hts gL_settles_X5_settles rfl rfl rfl (by decide +kernel) ⟨Nat.le_of_ble_eq_true rfl, Nat.le_of_ble_eq_true rfl⟩) hP hK hN hZ hD hS rfl 0 5 rfl rfl rfl hl.1 rfl (Nat.le_of_ble_eq_true rfl) dL_settles_9 ⟨Nat.le_refl 0, Nat.le_refl 0⟩ (fun H locs hP hD hS => ?_)
  refine lv_istore_n (lv' := [(3, .int r_5.1), (0, .ref (ad 0)), (1, .int x1), (2, .int x2)]) hx hb dL_settles_12 rfl hl (by decide) rfl (fun ls hl => ?_)
  refine lv_iload_n hx hb dL_settles_13 rfl (lv_at hl 0 rfl) ?_
  refine lv_iconst (v := (1 : Int32)) hx hb dL_settles_14 (by decide) ?_
  refine lv_icmp_lt (tgt := 24) hx hb dL_settles_15 (by decide) (fun c_7 => ?_) (fun c_7 => ?_)
  · have hr := hr.trans (if_pos c_7)
    exact B24 r_5.2 x1 x2 r_5.1 _ _ _ hr hP hD hS (lv_sub hl [1, 2, 3, 0] rfl)
  · have hr := hr.trans (if_neg c_7)
    refine lv_iload_n hx hb dL_settles_18 rfl (lv_at hl 0 rfl) ?_
    refine lv_bipush (v := (99 : Int32)) hx hb dL_settles_19 (by decide) ?_
    refine lv_icmp_le (tgt := 51) hx hb dL_settles_21 (by decide) (fun c_16 => ?_) (fun c_16 => ?_)
    · have hr := hr.trans (if_pos c_16)
      refine lv_iload_n hx hb dL_settles_51 rfl (lv_at hl 0 rfl) ?_
      refine lv_iconst (v := (1 : Int32)) hx hb dL_settles_52 (by decide) ?_
      refine lv_icmp_le (tgt := 74) hx hb dL_settles_53 (by decide) (fun c_17 => ?_) (fun c_17 => ?_)
      · have hr := hr.trans (if_pos c_17)
        refine lv_iconst (v := (0 : Int32)) hx hb dL_settles_74 (by decide) ?_
        exact B75 r_5.2 x1 x2 (0 : Int32) _ _ _ hr hP hD hS (lv_sub hl [1, 2, 3] rfl)
      · have hr := hr.trans (if_neg c_17)
        refine lv_aload_n hx hb dL_settles_56 rfl (lv_at hl 1 rfl) ?_
        refine lv_iload_n hx hb dL_settles_57 rfl (lv_at hl 2 rfl) ?_
        refine nmv hr (fun r_33 e_34 hr => ?_)
        refine roS_i (As := [.int x1]) (rest := [.ref (ad 0)]) ⟨hx, hb, hml, hown, hts⟩ (k_L_speed l D Y  x1 r_33 e_34) (va_cwS 1 hts gL_settles_L_speed rfl rfl rfl (by decide +kernel) ⟨Nat.le_of_ble_eq_true rfl, Nat.le_of_ble_eq_true rfl⟩) (hP.sub (ws' := []) [] rfl) hK hN (hZ.at hS).F rfl hl.1 rfl (Nat.le_of_ble_eq_true rfl) dL_settles_58 ⟨Nat.le_refl 0, Nat.le_refl 0⟩ ?_
        refine lv_iload_n hx hb dL_settles_61 rfl (lv_at hl 3 rfl) ?_
        refine nmv hr (fun r_35 e_36 hr => ?_)
        refine roS_i (As := [.int x2]) (rest := [.int r_33, .ref (ad 0)]) ⟨hx, hb, hml, hown, hts⟩ (k_L_pedal l D Y  x2 r_35 e_36) (va_cwS 1 hts gL_settles_L_pedal rfl rfl rfl (by decide +kernel) ⟨Nat.le_of_ble_eq_true rfl, Nat.le_of_ble_eq_true rfl⟩) (hP.sub (ws' := []) [] rfl) hK hN (hZ.at hS).F rfl hl.1 rfl (Nat.le_of_ble_eq_true rfl) dL_settles_62 ⟨Nat.le_refl 0, Nat.le_refl 0⟩ ?_
        refine lv_iload_n hx hb dL_settles_65 rfl (lv_at hl 0 rfl) ?_
        refine lv_iconst (v := (1 : Int32)) hx hb dL_settles_66 (by decide) ?_
        refine lv_isub hx hb dL_settles_67 ?_
        refine bdv hr (fun r_37 e_38 hr => ?_)
        refine rwV_iw (As := [.int r_33, .int r_35, .int (r_5.1 - (1 : Int32))]) (rest := []) ⟨hx, hb, hml, hown, hts⟩ (k_X5_drive l D Y ad r_5.2 r_33 r_35 (r_5.1 - (1 : Int32)) r_37 e_38) (cwV 3 hts gL_settles_X5_drive rfl rfl rfl (by decide +kernel) ⟨Nat.le_of_ble_eq_true rfl, Nat.le_of_ble_eq_true rfl⟩) hP hK hN hZ hD hS rfl 0 5 rfl rfl rfl hl.1 rfl (Nat.le_of_ble_eq_true rfl) dL_settles_68 ⟨Nat.le_refl 0, Nat.le_refl 0⟩ (fun H locs hP hD hS => ?_)
        refine lv_goto (tgt := 75) hx hb dL_settles_71 (by decide) ?_
        exact B75 r_37.2 x1 x2 r_37.1 _ _ _ hr hP hD hS (lv_sub hl [1, 2, 3] rfl)
    · have hr := hr.trans (if_neg c_16)
      exact B24 r_5.2 x1 x2 r_5.1 _ _ _ hr hP hD hS (lv_sub hl [1, 2, 3, 0] rfl)

set_option maxHeartbeats 4000000 in
set_option maxRecDepth 100000 in
theorem k_L_acts (l : Launch) (D : va_G) (Y : Nat → ClassId) (ad : Nat → Nat) (V : CarV) (x1 : Int32) (x2 : Int32) (R : Int32 × CarV) (hr : some R = mf_L_acts V x1 x2) : Met l yL_acts wsL_acts ({ frames := 8, cells := 0, slots := 0, locals := 211 } : Room) (va_Pc [.ref (ad 0), .int x1, .int x2] (PW D Y (carW Y ad V))) (va_Qi (S := Unit) (fun r _ => r = R.1) (fun _ t => va_P D vwCl (carW Y ad R.2) t.heap) (wA (carW Y ad V))) 0 0 (wA (carW Y ad V)) := by
  refine Met.ofW (cc := cL_acts) (maxL := 9) (ret := (some .boolean)) (by decide) rfl ?_
  intro p e s m args below meth c s₁ B hml hv
  obtain ⟨rfl, hP, hK, hN, hZ, hD⟩ := hv
  have hx := B.exec
  have hb := B.bytes
  have hrt := B.returns
  have hts := atoms_spec (ws := wsL_acts) B.pre
  have hown : s.vm.findClass RL = some m.cls := findClass_of_methodNamed B.named
  have hlocks := B.notSynchronized
  generalize hAe : wA (carW Y ad V) = A at hZ hD ⊢
  have hS : va_S A s.heap s.heap [] := va_S.rf
  have hl := lv_entry ([.ref (ad 0), .int x1, .int x2]) (n := 9) (Nat.le_of_ble_eq_true rfl)
  rw [lg_entry_eq]
  generalize (lg_sl ([.ref (ad 0), .int x1, .int x2]) ++ List.replicate (9 - (lg_sl ([.ref (ad 0), .int x1, .int x2])).length) Slot.unset).toArray = ls at hl ⊢
  have hl : lv_has ls 9 [(0, .ref (ad 0)), (1, .int x1), (2, .int x2)] := hl
  have B184 : ∀ (W0 : CarV) (H : Heap) (locs : List Loc) (ls : Array Slot), some R = mf_L_acts_B184 W0 → va_P D vwCl (carW Y ad W0) H → va_D A (carW Y ad W0) → va_S A s.heap H locs → lv_has ls 9 [] → W p l e ({ frames := 8, cells := 0, slots := 0, locals := 211 } : Room) s m ([.ref (ad 0), .int x1, .int x2] : List Value).toArray below meth c H locs 0 0 (MQ below (va_Qi (S := Unit) (fun r _ => r = R.1) (fun _ t => va_P D vwCl (carW Y ad R.2) t.heap) A) ([.ref (ad 0), .int x1, .int x2] : List Value).toArray s 0 0 A) (F0 m 184 ls []) := by
    intro W0 H locs ls hr hP hD hS hl
    rw [mf_L_acts_B184] at hr
    refine lv_iconst (v := (1 : Int32)) hx hb dL_acts_184 (by decide) ?_
    refine lv_goto (tgt := 189) hx hb dL_acts_185 (by decide) ?_
    have hr := Option.some.inj hr
    subst hr
    exact W.zret (ty := .boolean) hx hb hrt (by decide) (fun t ht hW => ⟨⟨_, (), rfl, rfl, by show va_P D vwCl _ t.heap; rw [ht]; exact hP⟩, hS.F ht⟩) hS.2.2 dL_acts_189
  have B160 : ∀ (W0 : CarV) (z3 : Int32) (z4 : Int32) (z5 : Int32) (z6 : Int32) (y0 : Int32) (y1 : Int32) (H : Heap) (locs : List Loc) (ls : Array Slot), some R = mf_L_acts_B160 W0 z3 z4 z5 z6 y0 y1 → va_P D vwCl (carW Y ad W0) H → va_D A (carW Y ad W0) → va_S A s.heap H locs → lv_has ls 9 [(0, .ref (ad 0)), (3, .int z3), (4, .int z4), (5, .int z5), (6, .int z6)] → W p l e ({ frames := 8, cells := 0, slots := 0, locals := 211 } : Room) s m ([.ref (ad 0), .int x1, .int x2] : List Value).toArray below meth c H locs 0 0 (MQ below (va_Qi (S := Unit) (fun r _ => r = R.1) (fun _ t => va_P D vwCl (carW Y ad R.2) t.heap) A) ([.ref (ad 0), .int x1, .int x2] : List Value).toArray s 0 0 A) (F0 m 160 ls [.int y0, .int y1]) := by
    intro W0 z3 z4 z5 z6 y0 y1 H locs ls hr hP hD hS hl
    rw [mf_L_acts_B160] at hr
    refine lv_icmp_ne (tgt := 188) hx hb dL_acts_160 (by decide) (fun c_21 => ?_) (fun c_21 => ?_)
    · have hr := hr.trans (if_neg c_21)
      refine lv_iconst (v := (0 : Int32)) hx hb dL_acts_188 (by decide) ?_
      have hr := Option.some.inj hr
      subst hr
      exact W.zret (ty := .boolean) hx hb hrt (by decide) (fun t ht hW => ⟨⟨_, (), rfl, rfl, by show va_P D vwCl _ t.heap; rw [ht]; exact hP⟩, hS.F ht⟩) hS.2.2 dL_acts_189
    · have hr := hr.trans (if_pos c_21)
      refine lv_iload hx hb dL_acts_163 (lv_at hl 4 rfl) ?_
      refine lv_if_ne (tgt := 184) hx hb dL_acts_165 (by decide) (fun c_22 => ?_) (fun c_22 => ?_)
      · have hr := hr.trans (if_neg c_22)
        exact B184 W0 _ _ _ hr hP hD hS (lv_sub hl [] rfl)
      · have hr := hr.trans (if_pos c_22)
        refine lv_aload_n hx hb dL_acts_168 rfl (lv_at hl 0 rfl) ?_
        refine lv_iload_n hx hb dL_acts_169 rfl (lv_at hl 1 rfl) ?_
        refine lv_iload hx hb dL_acts_170 (lv_at hl 2 rfl) ?_
        refine nmv hr (fun r_23 e_24 hr => ?_)
        refine roV_f (As := [.int z3, .int z4]) (rest := []) ⟨hx, hb, hml, hown, hts⟩ (k_X5_map l D Y ad W0 z3 z4 r_23 e_24) (cwV 2 hts gL_acts_X5_map rfl rfl rfl (by decide +kernel) ⟨Nat.le_of_ble_eq_true rfl, Nat.le_of_ble_eq_true rfl⟩) hP hK hN (hZ.at hS).F 0 5 rfl rfl rfl hl.1 rfl (Nat.le_of_ble_eq_true rfl) dL_acts_172 ⟨Nat.le_refl 0, Nat.le_refl 0⟩ ?_
        refine lv_iload hx hb dL_acts_175 (lv_at hl 3 rfl) ?_
        refine nmv hr (fun r_25 e_26 hr => ?_)
        refine roS_f (As := [.int z5]) (rest := [.float r_23]) ⟨hx, hb, hml, hown, hts⟩ (k_L_fast l D Y  z5 r_25 e_26) (va_cwS 1 hts gL_acts_L_fast rfl rfl rfl (by decide +kernel) ⟨Nat.le_of_ble_eq_true rfl, Nat.le_of_ble_eq_true rfl⟩) (hP.sub (ws' := []) [] rfl) hK hN (hZ.at hS).F rfl hl.1 rfl (Nat.le_of_ble_eq_true rfl) dL_acts_177 ⟨Nat.le_refl 0, Nat.le_refl 0⟩ ?_
        refine lv_fcmp hx hb dL_acts_180 ?_
        refine lv_if_ne (tgt := 188) hx hb dL_acts_181 (by decide) (fun c_27 => ?_) (fun c_27 => ?_)
        · have hr := hr.trans (if_neg c_27)
          refine lv_iconst (v := (0 : Int32)) hx hb dL_acts_188 (by decide) ?_
          have hr := Option.some.inj hr
          subst hr
          exact W.zret (ty := .boolean) hx hb hrt (by decide) (fun t ht hW => ⟨⟨_, (), rfl, rfl, by show va_P D vwCl _ t.heap; rw [ht]; exact hP⟩, hS.F ht⟩) hS.2.2 dL_acts_189
        · have hr := hr.trans (if_pos c_27)
          exact B184 W0 _ _ _ hr hP hD hS (lv_sub hl [] rfl)
  have B115 : ∀ (W0 : CarV) (z2 : Int32) (z3 : Int32) (z4 : Int32) (z5 : Int32) (z6 : Int32) (y0 : Int32) (H : Heap) (locs : List Loc) (ls : Array Slot), some R = mf_L_acts_B115 W0 z2 z3 z4 z5 z6 y0 → va_P D vwCl (carW Y ad W0) H → va_D A (carW Y ad W0) → va_S A s.heap H locs → lv_has ls 9 [(0, .ref (ad 0)), (2, .int z2), (3, .int z3), (4, .int z4), (5, .int z5), (6, .int z6)] → W p l e ({ frames := 8, cells := 0, slots := 0, locals := 211 } : Room) s m ([.ref (ad 0), .int x1, .int x2] : List Value).toArray below meth c H locs 0 0 (MQ below (va_Qi (S := Unit) (fun r _ => r = R.1) (fun _ t => va_P D vwCl (carW Y ad R.2) t.heap) A) ([.ref (ad 0), .int x1, .int x2] : List Value).toArray s 0 0 A) (F0 m 115 ls [.int y0]) := by
    intro W0 z2 z3 z4 z5 z6 y0 H locs ls hr hP hD hS hl
    rw [mf_L_acts_B115] at hr
    refine lv_istore (lv' := [(7, .int y0), (0, .ref (ad 0)), (2, .int z2), (3, .int z3), (4, .int z4), (5, .int z5), (6, .int z6)]) hx hb dL_acts_115 hl (by decide) rfl (fun ls hl => ?_)
    refine lv_iload_n hx hb dL_acts_117 rfl (lv_at hl 2 rfl) ?_
    refine lv_bipush (v := (9 : Int32)) hx hb dL_acts_118 (by decide) ?_
    refine lv_ishr hx hb dL_acts_120 ?_
    refine lv_iconst (v := (3 : Int32)) hx hb dL_acts_121 (by decide) ?_
    refine bdv hr (fun r_12 e_13 hr => ?_)
    refine roS_i (As := [.int (z2 >>> ((9 : Int32) &&& 31)), .int (3 : Int32)]) (rest := []) ⟨hx, hb, hml, hown, hts⟩ (k_L_low l D Y  (z2 >>> ((9 : Int32) &&& 31)) (3 : Int32) r_12 e_13) (va_cwS 2 hts gL_acts_L_low rfl rfl rfl (by decide +kernel) ⟨Nat.le_of_ble_eq_true rfl, Nat.le_of_ble_eq_true rfl⟩) (hP.sub (ws' := []) [] rfl) hK hN (hZ.at hS).F rfl hl.1 rfl (Nat.le_of_ble_eq_true rfl) dL_acts_122 ⟨Nat.le_refl 0, Nat.le_refl 0⟩ ?_
    refine lv_if_gt (tgt := 184) hx hb dL_acts_125 (by decide) (fun c_14 => ?_) (fun c_14 => ?_)
    · have hr := hr.trans (if_pos c_14)
      exact B184 W0 _ _ _ hr hP hD hS (lv_sub hl [] rfl)
    · have hr := hr.trans (if_neg c_14)
      refine lv_aload_n hx hb dL_acts_128 rfl (lv_at hl 1 rfl) ?_
      refine lv_iload_n hx hb dL_acts_129 rfl (lv_at hl 3 rfl) ?_
      refine lv_iload hx hb dL_acts_130 (lv_at hl 4 rfl) ?_
      refine lv_iload hx hb dL_acts_132 (lv_at hl 5 rfl) ?_
      refine nmv hr (fun r_15 e_16 hr => ?_)
      refine roS_i (As := [.int z5]) (rest := [.int z4, .int z3, .ref (ad 0)]) ⟨hx, hb, hml, hown, hts⟩ (k_L_speed l D Y  z5 r_15 e_16) (va_cwS 1 hts gL_acts_L_speed rfl rfl rfl (by decide +kernel) ⟨Nat.le_of_ble_eq_true rfl, Nat.le_of_ble_eq_true rfl⟩) (hP.sub (ws' := []) [] rfl) hK hN (hZ.at hS).F rfl hl.1 rfl (Nat.le_of_ble_eq_true rfl) dL_acts_134 ⟨Nat.le_refl 0, Nat.le_refl 0⟩ ?_
      refine bdv hr (fun r_17 e_18 hr => ?_)
      refine rwV_iw (As := [.int z3, .int z4, .int r_15]) (rest := []) ⟨hx, hb, hml, hown, hts⟩ (k_X5_setMap l D Y ad W0 z3 z4 r_15 r_17 e_18) (cwV 3 hts gL_acts_X5_setMap rfl rfl rfl (by decide +kernel) ⟨Nat.le_of_ble_eq_true rfl, Nat.le_of_ble_eq_true rfl⟩) hP hK hN hZ hD hS rfl 0 5 rfl rfl rfl hl.1 rfl (Nat.le_of_ble_eq_true rfl) dL_acts_137 ⟨Nat.le_refl 0, Nat.le_refl 0⟩ (fun H locs hP hD hS => ?_)
      refine lv_iload hx hb dL_acts_140 (lv_at hl 6 rfl) ?_
      refine lv_if_eq (tgt := 149) hx hb dL_acts_142 (by decide) (fun c_19 => ?_) (fun c_19 => ?_)
      · have hr := hr.trans (if_pos c_19)
        refine lv_iload hx hb dL_acts_149 (lv_at hl 0 rfl) ?_
        refine lv_if_eq (tgt := 159) hx hb dL_acts_151 (by decide) (fun c_20 => ?_) (fun c_20 => ?_)
        · have hr := hr.trans (if_pos c_20)
          refine lv_iconst (v := (1 : Int32)) hx hb dL_acts_159 (by decide) ?_
          exact B160 r_17.2 z3 z4 z5 z6 (1 : Int32) r_17.1 _ _ _ hr hP hD hS (lv_sub hl [1, 3, 4, 5, 6] rfl)
        · have hr := hr.trans (if_neg c_20)
          refine lv_bipush (v := (-5 : Int32)) hx hb dL_acts_154 (by decide) ?_
          refine lv_goto (tgt := 160) hx hb dL_acts_156 (by decide) ?_
          exact B160 r_17.2 z3 z4 z5 z6 (-5 : Int32) r_17.1 _ _ _ hr hP hD hS (lv_sub hl [1, 3, 4, 5, 6] rfl)
      · have hr := hr.trans (if_neg c_19)
        refine lv_iconst (v := (-1 : Int32)) hx hb dL_acts_145 (by decide) ?_
        refine lv_goto (tgt := 160) hx hb dL_acts_146 (by decide) ?_
        exact B160 r_17.2 z3 z4 z5 z6 (-1 : Int32) r_17.1 _ _ _ hr hP hD hS (lv_sub hl [1, 3, 4, 5, 6] rfl)
  have B114 : ∀ (W0 : CarV) (z2 : Int32) (z3 : Int32) (z4 : Int32) (z5 : Int32) (z6 : Int32) (H : Heap) (locs : List Loc) (ls : Array Slot), some R = mf_L_acts_B114 W0 z2 z3 z4 z5 z6 → va_P D vwCl (carW Y ad W0) H → va_D A (carW Y ad W0) → va_S A s.heap H locs → lv_has ls 9 [(0, .ref (ad 0)), (2, .int z2), (3, .int z3), (4, .int z4), (5, .int z5), (6, .int z6)] → W p l e ({ frames := 8, cells := 0, slots := 0, locals := 211 } : Room) s m ([.ref (ad 0), .int x1, .int x2] : List Value).toArray below meth c H locs 0 0 (MQ below (va_Qi (S := Unit) (fun r _ => r = R.1) (fun _ t => va_P D vwCl (carW Y ad R.2) t.heap) A) ([.ref (ad 0), .int x1, .int x2] : List Value).toArray s 0 0 A) (F0 m 114 ls []) := by
    intro W0 z2 z3 z4 z5 z6 H locs ls hr hP hD hS hl
    rw [mf_L_acts_B114] at hr
    refine lv_iconst (v := (0 : Int32)) hx hb dL_acts_114 (by decide) ?_
    exact B115 W0 z2 z3 z4 z5 z6 (0 : Int32) _ _ _ hr hP hD hS (lv_sub hl [0, 1, 2, 3, 4, 5] rfl)
  have B87 : ∀ (W0 : CarV) (z2 : Int32) (z3 : Int32) (z4 : Int32) (z5 : Int32) (y0 : Int32) (H : Heap) (locs : List Loc) (ls : Array Slot), some R = mf_L_acts_B87 W0 z2 z3 z4 z5 y0 → va_P D vwCl (carW Y ad W0) H → va_D A (carW Y ad W0) → va_S A s.heap H locs → lv_has ls 9 [(0, .ref (ad 0)), (2, .int z2), (3, .int z3), (4, .int z4), (5, .int z5)] → W p l e ({ frames := 8, cells := 0, slots := 0, locals := 211 } : Room) s m ([.ref (ad 0), .int x1, .int x2] : List Value).toArray below meth c H locs 0 0 (MQ below (va_Qi (S := Unit) (fun r _ => r = R.1) (fun _ t => va_P D vwCl (carW Y ad R.2) t.heap) A) ([.ref (ad 0), .int x1, .int x2] : List Value).toArray s 0 0 A) (F0 m 87 ls [.int y0]) := by
    intro W0 z2 z3 z4 z5 y0 H locs ls hr hP hD hS hl
    rw [mf_L_acts_B87] at hr
    refine lv_istore (lv' := [(6, .int y0), (0, .ref (ad 0)), (2, .int z2), (3, .int z3), (4, .int z4), (5, .int z5)]) hx hb dL_acts_87 hl (by decide) rfl (fun ls hl => ?_)
    refine lv_iload hx hb dL_acts_89 (lv_at hl 0 rfl) ?_
    refine lv_if_ne (tgt := 114) hx hb dL_acts_91 (by decide) (fun c_11 => ?_) (fun c_11 => ?_)
    · have hr := hr.trans (if_neg c_11)
      exact B114 W0 z2 z3 z4 z5 y0 _ _ _ hr hP hD hS (lv_sub hl [1, 2, 3, 4, 5, 0] rfl)
    · have hr := hr.trans (if_pos c_11)
      refine lv_aload_n hx hb dL_acts_94 rfl (lv_at hl 1 rfl) ?_
      refine lv_iload_n hx hb dL_acts_95 rfl (lv_at hl 3 rfl) ?_
      refine lv_iload hx hb dL_acts_96 (lv_at hl 4 rfl) ?_
      refine nmv hr (fun r_28 e_29 hr => ?_)
      refine roV_f (As := [.int z3, .int z4]) (rest := []) ⟨hx, hb, hml, hown, hts⟩ (k_X5_map l D Y ad W0 z3 z4 r_28 e_29) (cwV 2 hts gL_acts_X5_map rfl rfl rfl (by decide +kernel) ⟨Nat.le_of_ble_eq_true rfl, Nat.le_of_ble_eq_true rfl⟩) hP hK hN (hZ.at hS).F 0 5 rfl rfl rfl hl.1 rfl (Nat.le_of_ble_eq_true rfl) dL_acts_98 ⟨Nat.le_refl 0, Nat.le_refl 0⟩ ?_
      refine lv_iload hx hb dL_acts_101 (lv_at hl 5 rfl) ?_
      refine nmv hr (fun r_30 e_31 hr => ?_)
      refine roS_f (As := [.int z5]) (rest := [.float r_28]) ⟨hx, hb, hml, hown, hts⟩ (k_L_fast l D Y  z5 r_30 e_31) (va_cwS 1 hts gL_acts_L_fast rfl rfl rfl (by decide +kernel) ⟨Nat.le_of_ble_eq_true rfl, Nat.le_of_ble_eq_true rfl⟩) (hP.sub (ws' := []) [] rfl) hK hN (hZ.at hS).F rfl hl.1 rfl (Nat.le_of_ble_eq_true rfl) dL_acts_103 ⟨Nat.le_refl 0, Nat.le_refl 0⟩ ?_
      refine lv_fcmp hx hb dL_acts_106 ?_
      refine lv_if_ne (tgt := 114) hx hb dL_acts_107 (by decide) (fun c_32 => ?_) (fun c_32 => ?_)
      · have hr := hr.trans (if_neg c_32)
        exact B114 W0 z2 z3 z4 z5 y0 _ _ _ hr hP hD hS (lv_sub hl [1, 2, 3, 4, 5, 0] rfl)
      · have hr := hr.trans (if_pos c_32)
        refine lv_iconst (v := (1 : Int32)) hx hb dL_acts_110 (by decide) ?_
        refine lv_goto (tgt := 115) hx hb dL_acts_111 (by decide) ?_
        exact B115 W0 z2 z3 z4 z5 y0 (1 : Int32) _ _ _ hr hP hD hS (lv_sub hl [1, 2, 3, 4, 5, 0] rfl)
  have B86 : ∀ (W0 : CarV) (z2 : Int32) (z3 : Int32) (z4 : Int32) (z5 : Int32) (H : Heap) (locs : List Loc) (ls : Array Slot), some R = mf_L_acts_B86 W0 z2 z3 z4 z5 → va_P D vwCl (carW Y ad W0) H → va_D A (carW Y ad W0) → va_S A s.heap H locs → lv_has ls 9 [(0, .ref (ad 0)), (2, .int z2), (3, .int z3), (4, .int z4), (5, .int z5)] → W p l e ({ frames := 8, cells := 0, slots := 0, locals := 211 } : Room) s m ([.ref (ad 0), .int x1, .int x2] : List Value).toArray below meth c H locs 0 0 (MQ below (va_Qi (S := Unit) (fun r _ => r = R.1) (fun _ t => va_P D vwCl (carW Y ad R.2) t.heap) A) ([.ref (ad 0), .int x1, .int x2] : List Value).toArray s 0 0 A) (F0 m 86 ls []) := by
    intro W0 z2 z3 z4 z5 H locs ls hr hP hD hS hl
    rw [mf_L_acts_B86] at hr
    refine lv_iconst (v := (0 : Int32)) hx hb dL_acts_86 (by decide) ?_
    exact B87 W0 z2 z3 z4 z5 (0 : Int32) _ _ _ hr hP hD hS (lv_sub hl [0, 1, 2, 3, 4] rfl)
  have B346 : ∀ (W0 : CarV) (y0 : Int32) (y1 : Int32) (H : Heap) (locs : List Loc) (ls : Array Slot), some R = mf_L_acts_B346 W0 y0 y1 → va_P D vwCl (carW Y ad W0) H → va_D A (carW Y ad W0) → va_S A s.heap H locs → lv_has ls 9 [] → W p l e ({ frames := 8, cells := 0, slots := 0, locals := 211 } : Room) s m ([.ref (ad 0), .int x1, .int x2] : List Value).toArray below meth c H locs 0 0 (MQ below (va_Qi (S := Unit) (fun r _ => r = R.1) (fun _ t => va_P D vwCl (carW Y ad R.2) t.heap) A) ([.ref (ad 0), .int x1, .int x2] : List Value).toArray s 0 0 A) (F0 m 346 ls [.int y0, .int y1]) := by
    intro W0 y0 y1 H locs ls hr hP hD hS hl
    rw [mf_L_acts_B346] at hr
    refine lv_icmp_ne (tgt := 353) hx hb dL_acts_346 (by decide) (fun c_51 => ?_) (fun c_51 => ?_)
    · have hr := hr.trans (if_neg c_51)
      refine lv_iconst (v := (0 : Int32)) hx hb dL_acts_353 (by decide) ?_
      have hr := Option.some.inj hr
      subst hr
      exact W.zret (ty := .boolean) hx hb hrt (by decide) (fun t ht hW => ⟨⟨_, (), rfl, rfl, by show va_P D vwCl _ t.heap; rw [ht]; exact hP⟩, hS.F ht⟩) hS.2.2 dL_acts_354
    · have hr := hr.trans (if_pos c_51)
      refine lv_iconst (v := (1 : Int32)) hx hb dL_acts_349 (by decide) ?_
      refine lv_goto (tgt := 354) hx hb dL_acts_350 (by decide) ?_
      have hr := Option.some.inj hr
      subst hr
      exact W.zret (ty := .boolean) hx hb hrt (by decide) (fun t ht hW => ⟨⟨_, (), rfl, rfl, by show va_P D vwCl _ t.heap; rw [ht]; exact hP⟩, hS.F ht⟩) hS.2.2 dL_acts_354
  have B303 : ∀ (W0 : CarV) (z3 : Int32) (z4 : Int32) (z5 : Int32) (z6 : Int32) (y0 : Int32) (H : Heap) (locs : List Loc) (ls : Array Slot), some R = mf_L_acts_B303 W0 z3 z4 z5 z6 y0 → va_P D vwCl (carW Y ad W0) H → va_D A (carW Y ad W0) → va_S A s.heap H locs → lv_has ls 9 [(0, .ref (ad 0)), (3, .int z3), (4, .int z4), (5, .int z5), (6, .int z6)] → W p l e ({ frames := 8, cells := 0, slots := 0, locals := 211 } : Room) s m ([.ref (ad 0), .int x1, .int x2] : List Value).toArray below meth c H locs 0 0 (MQ below (va_Qi (S := Unit) (fun r _ => r = R.1) (fun _ t => va_P D vwCl (carW Y ad R.2) t.heap) A) ([.ref (ad 0), .int x1, .int x2] : List Value).toArray s 0 0 A) (F0 m 303 ls [.int y0]) := by
    intro W0 z3 z4 z5 z6 y0 H locs ls hr hP hD hS hl
    rw [mf_L_acts_B303] at hr
    refine lv_istore (lv' := [(7, .int y0), (0, .ref (ad 0)), (3, .int z3), (4, .int z4), (5, .int z5), (6, .int z6)]) hx hb dL_acts_303 hl (by decide) rfl (fun ls hl => ?_)
    refine lv_aload_n hx hb dL_acts_305 rfl (lv_at hl 1 rfl) ?_
    refine lv_iload_n hx hb dL_acts_306 rfl (lv_at hl 2 rfl) ?_
    refine lv_iload hx hb dL_acts_307 (lv_at hl 3 rfl) ?_
    refine bdv hr (fun r_46 e_47 hr => ?_)
    refine rwV_iw (As := [.int z3, .int z4]) (rest := []) ⟨hx, hb, hml, hown, hts⟩ (k_X5_setNumber l D Y ad W0 z3 z4 r_46 e_47) (cwV 2 hts gL_acts_X5_setNumber rfl rfl rfl (by decide +kernel) ⟨Nat.le_of_ble_eq_true rfl, Nat.le_of_ble_eq_true rfl⟩) hP hK hN hZ hD hS rfl 0 5 rfl rfl rfl hl.1 rfl (Nat.le_of_ble_eq_true rfl) dL_acts_309 ⟨Nat.le_refl 0, Nat.le_refl 0⟩ (fun H locs hP hD hS => ?_)
    refine lv_iload hx hb dL_acts_312 (lv_at hl 5 rfl) ?_
    refine lv_if_eq (tgt := 322) hx hb dL_acts_314 (by decide) (fun c_48 => ?_) (fun c_48 => ?_)
    · have hr := hr.trans (if_pos c_48)
      refine lv_iload hx hb dL_acts_322 (lv_at hl 0 rfl) ?_
      refine lv_if_eq (tgt := 332) hx hb dL_acts_324 (by decide) (fun c_49 => ?_) (fun c_49 => ?_)
      · have hr := hr.trans (if_pos c_49)
        refine lv_iload hx hb dL_acts_332 (lv_at hl 4 rfl) ?_
        refine lv_iload hx hb dL_acts_334 (lv_at hl 3 rfl) ?_
        refine lv_icmp_ne (tgt := 344) hx hb dL_acts_336 (by decide) (fun c_50 => ?_) (fun c_50 => ?_)
        · have hr := hr.trans (if_neg c_50)
          refine lv_iload hx hb dL_acts_344 (lv_at hl 4 rfl) ?_
          exact B346 r_46.2 z5 r_46.1 _ _ _ hr hP hD hS (lv_sub hl [] rfl)
        · have hr := hr.trans (if_pos c_50)
          refine lv_bipush (v := (-5 : Int32)) hx hb dL_acts_339 (by decide) ?_
          refine lv_goto (tgt := 346) hx hb dL_acts_341 (by decide) ?_
          exact B346 r_46.2 (-5 : Int32) r_46.1 _ _ _ hr hP hD hS (lv_sub hl [] rfl)
      · have hr := hr.trans (if_neg c_49)
        refine lv_bipush (v := (-4 : Int32)) hx hb dL_acts_327 (by decide) ?_
        refine lv_goto (tgt := 346) hx hb dL_acts_329 (by decide) ?_
        exact B346 r_46.2 (-4 : Int32) r_46.1 _ _ _ hr hP hD hS (lv_sub hl [] rfl)
    · have hr := hr.trans (if_neg c_48)
      refine lv_bipush (v := (-2 : Int32)) hx hb dL_acts_317 (by decide) ?_
      refine lv_goto (tgt := 346) hx hb dL_acts_319 (by decide) ?_
      exact B346 r_46.2 (-2 : Int32) r_46.1 _ _ _ hr hP hD hS (lv_sub hl [] rfl)
  have B302 : ∀ (W0 : CarV) (z3 : Int32) (z4 : Int32) (z5 : Int32) (z6 : Int32) (H : Heap) (locs : List Loc) (ls : Array Slot), some R = mf_L_acts_B302 W0 z3 z4 z5 z6 → va_P D vwCl (carW Y ad W0) H → va_D A (carW Y ad W0) → va_S A s.heap H locs → lv_has ls 9 [(0, .ref (ad 0)), (3, .int z3), (4, .int z4), (5, .int z5), (6, .int z6)] → W p l e ({ frames := 8, cells := 0, slots := 0, locals := 211 } : Room) s m ([.ref (ad 0), .int x1, .int x2] : List Value).toArray below meth c H locs 0 0 (MQ below (va_Qi (S := Unit) (fun r _ => r = R.1) (fun _ t => va_P D vwCl (carW Y ad R.2) t.heap) A) ([.ref (ad 0), .int x1, .int x2] : List Value).toArray s 0 0 A) (F0 m 302 ls []) := by
    intro W0 z3 z4 z5 z6 H locs ls hr hP hD hS hl
    rw [mf_L_acts_B302] at hr
    refine lv_iconst (v := (0 : Int32)) hx hb dL_acts_302 (by decide) ?_
    exact B303 W0 z3 z4 z5 z6 (0 : Int32) _ _ _ hr hP hD hS (lv_sub hl [0, 1, 2, 3, 4] rfl)
  have B281 : ∀ (W0 : CarV) (z3 : Int32) (z4 : Int32) (z5 : Int32) (y0 : Int32) (H : Heap) (locs : List Loc) (ls : Array Slot), some R = mf_L_acts_B281 W0 z3 z4 z5 y0 → va_P D vwCl (carW Y ad W0) H → va_D A (carW Y ad W0) → va_S A s.heap H locs → lv_has ls 9 [(0, .ref (ad 0)), (3, .int z3), (4, .int z4), (5, .int z5)] → W p l e ({ frames := 8, cells := 0, slots := 0, locals := 211 } : Room) s m ([.ref (ad 0), .int x1, .int x2] : List Value).toArray below meth c H locs 0 0 (MQ below (va_Qi (S := Unit) (fun r _ => r = R.1) (fun _ t => va_P D vwCl (carW Y ad R.2) t.heap) A) ([.ref (ad 0), .int x1, .int x2] : List Value).toArray s 0 0 A) (F0 m 281 ls [.int y0]) := by
    intro W0 z3 z4 z5 y0 H locs ls hr hP hD hS hl
    rw [mf_L_acts_B281] at hr
    refine lv_istore (lv' := [(6, .int y0), (0, .ref (ad 0)), (3, .int z3), (4, .int z4), (5, .int z5)]) hx hb dL_acts_281 hl (by decide) rfl (fun ls hl => ?_)
    refine lv_iload_n hx hb dL_acts_283 rfl (lv_at hl 2 rfl) ?_
    refine lv_iconst (v := (2 : Int32)) hx hb dL_acts_284 (by decide) ?_
    refine lv_icmp_ge (tgt := 302) hx hb dL_acts_285 (by decide) (fun c_45 => ?_) (fun c_45 => ?_)
    · have hr := hr.trans (if_pos c_45)
      exact B302 W0 z3 z4 z5 y0 _ _ _ hr hP hD hS (lv_sub hl [1, 2, 3, 4, 0] rfl)
    · have hr := hr.trans (if_neg c_45)
      refine lv_aload_n hx hb dL_acts_288 rfl (lv_at hl 1 rfl) ?_
      refine lv_iconst (v := (1 : Int32)) hx hb dL_acts_289 (by decide) ?_
      refine nmv hr (fun r_52 e_53 hr => ?_)
      refine roV_i (As := [.int (1 : Int32)]) (rest := []) ⟨hx, hb, hml, hown, hts⟩ (k_X5_car l D Y ad W0 (1 : Int32) r_52 e_53) (cwV 1 hts gL_acts_X5_car rfl rfl rfl (by decide +kernel) ⟨Nat.le_of_ble_eq_true rfl, Nat.le_of_ble_eq_true rfl⟩) hP hK hN (hZ.at hS).F 0 5 rfl rfl rfl hl.1 rfl (Nat.le_of_ble_eq_true rfl) dL_acts_290 ⟨Nat.le_refl 0, Nat.le_refl 0⟩ ?_
      refine lv_bipush (v := (-5 : Int32)) hx hb dL_acts_293 (by decide) ?_
      refine lv_icmp_eq (tgt := 302) hx hb dL_acts_295 (by decide) (fun c_54 => ?_) (fun c_54 => ?_)
      · have hr := hr.trans (if_pos c_54)
        exact B302 W0 z3 z4 z5 y0 _ _ _ hr hP hD hS (lv_sub hl [1, 2, 3, 4, 0] rfl)
      · have hr := hr.trans (if_neg c_54)
        refine lv_iconst (v := (1 : Int32)) hx hb dL_acts_298 (by decide) ?_
        refine lv_goto (tgt := 303) hx hb dL_acts_299 (by decide) ?_
        exact B303 W0 z3 z4 z5 y0 (1 : Int32) _ _ _ hr hP hD hS (lv_sub hl [1, 2, 3, 4, 0] rfl)
  have B280 : ∀ (W0 : CarV) (z3 : Int32) (z4 : Int32) (z5 : Int32) (H : Heap) (locs : List Loc) (ls : Array Slot), some R = mf_L_acts_B280 W0 z3 z4 z5 → va_P D vwCl (carW Y ad W0) H → va_D A (carW Y ad W0) → va_S A s.heap H locs → lv_has ls 9 [(0, .ref (ad 0)), (3, .int z3), (4, .int z4), (5, .int z5)] → W p l e ({ frames := 8, cells := 0, slots := 0, locals := 211 } : Room) s m ([.ref (ad 0), .int x1, .int x2] : List Value).toArray below meth c H locs 0 0 (MQ below (va_Qi (S := Unit) (fun r _ => r = R.1) (fun _ t => va_P D vwCl (carW Y ad R.2) t.heap) A) ([.ref (ad 0), .int x1, .int x2] : List Value).toArray s 0 0 A) (F0 m 280 ls []) := by
    intro W0 z3 z4 z5 H locs ls hr hP hD hS hl
    rw [mf_L_acts_B280] at hr
    refine lv_iconst (v := (0 : Int32)) hx hb dL_acts_280 (by decide) ?_
    exact B281 W0 z3 z4 z5 (0 : Int32) _ _ _ hr hP hD hS (lv_sub hl [0, 1, 2, 3] rfl)
  have B276 : ∀ (W0 : CarV) (z3 : Int32) (z4 : Int32) (z5 : Int32) (H : Heap) (locs : List Loc) (ls : Array Slot), some R = mf_L_acts_B276 W0 z3 z4 z5 → va_P D vwCl (carW Y ad W0) H → va_D A (carW Y ad W0) → va_S A s.heap H locs → lv_has ls 9 [(0, .ref (ad 0)), (3, .int z3), (4, .int z4), (5, .int z5)] → W p l e ({ frames := 8, cells := 0, slots := 0, locals := 211 } : Room) s m ([.ref (ad 0), .int x1, .int x2] : List Value).toArray below meth c H locs 0 0 (MQ below (va_Qi (S := Unit) (fun r _ => r = R.1) (fun _ t => va_P D vwCl (carW Y ad R.2) t.heap) A) ([.ref (ad 0), .int x1, .int x2] : List Value).toArray s 0 0 A) (F0 m 276 ls []) := by
    intro W0 z3 z4 z5 H locs ls hr hP hD hS hl
    rw [mf_L_acts_B276] at hr
    refine lv_iconst (v := (1 : Int32)) hx hb dL_acts_276 (by decide) ?_
    refine lv_goto (tgt := 281) hx hb dL_acts_277 (by decide) ?_
    exact B281 W0 z3 z4 z5 (1 : Int32) _ _ _ hr hP hD hS (lv_sub hl [0, 1, 2, 3] rfl)
  have B261 : ∀ (W0 : CarV) (z3 : Int32) (z4 : Int32) (z5 : Int32) (H : Heap) (locs : List Loc) (ls : Array Slot), some R = mf_L_acts_B261 W0 z3 z4 z5 → va_P D vwCl (carW Y ad W0) H → va_D A (carW Y ad W0) → va_S A s.heap H locs → lv_has ls 9 [(0, .ref (ad 0)), (3, .int z3), (4, .int z4), (5, .int z5)] → W p l e ({ frames := 8, cells := 0, slots := 0, locals := 211 } : Room) s m ([.ref (ad 0), .int x1, .int x2] : List Value).toArray below meth c H locs 0 0 (MQ below (va_Qi (S := Unit) (fun r _ => r = R.1) (fun _ t => va_P D vwCl (carW Y ad R.2) t.heap) A) ([.ref (ad 0), .int x1, .int x2] : List Value).toArray s 0 0 A) (F0 m 261 ls []) := by
    intro W0 z3 z4 z5 H locs ls hr hP hD hS hl
    rw [mf_L_acts_B261] at hr
    refine lv_iload_n hx hb dL_acts_261 rfl (lv_at hl 1 rfl) ?_
    refine lv_iconst (v := (1 : Int32)) hx hb dL_acts_262 (by decide) ?_
    refine lv_icmp_ne (tgt := 280) hx hb dL_acts_263 (by decide) (fun c_44 => ?_) (fun c_44 => ?_)
    · have hr := hr.trans (if_neg c_44)
      exact B280 W0 z3 z4 z5 _ _ _ hr hP hD hS (lv_sub hl [0, 1, 2, 3] rfl)
    · have hr := hr.trans (if_pos c_44)
      refine lv_iload hx hb dL_acts_266 (lv_at hl 2 rfl) ?_
      refine lv_aload_n hx hb dL_acts_268 rfl (lv_at hl 0 rfl) ?_
      refine lv_iconst (v := (0 : Int32)) hx hb dL_acts_269 (by decide) ?_
      refine nmv hr (fun r_55 e_56 hr => ?_)
      refine roV_i (As := [.int (0 : Int32)]) (rest := [.int z4]) ⟨hx, hb, hml, hown, hts⟩ (k_X5_number l D Y ad W0 (0 : Int32) r_55 e_56) (cwV 1 hts gL_acts_X5_number rfl rfl rfl (by decide +kernel) ⟨Nat.le_of_ble_eq_true rfl, Nat.le_of_ble_eq_true rfl⟩) hP hK hN (hZ.at hS).F 0 5 rfl rfl rfl hl.1 rfl (Nat.le_of_ble_eq_true rfl) dL_acts_270 ⟨Nat.le_refl 0, Nat.le_refl 0⟩ ?_
      refine lv_icmp_lt (tgt := 280) hx hb dL_acts_273 (by decide) (fun c_57 => ?_) (fun c_57 => ?_)
      · have hr := hr.trans (if_pos c_57)
        exact B280 W0 z3 z4 z5 _ _ _ hr hP hD hS (lv_sub hl [0, 1, 2, 3] rfl)
      · have hr := hr.trans (if_neg c_57)
        exact B276 W0 z3 z4 z5 _ _ _ hr hP hD hS (lv_sub hl [0, 1, 2, 3] rfl)
  have B238 : ∀ (W0 : CarV) (z3 : Int32) (y0 : Int32) (H : Heap) (locs : List Loc) (ls : Array Slot), some R = mf_L_acts_B238 W0 z3 y0 → va_P D vwCl (carW Y ad W0) H → va_D A (carW Y ad W0) → va_S A s.heap H locs → lv_has ls 9 [(0, .ref (ad 0)), (3, .int z3)] → W p l e ({ frames := 8, cells := 0, slots := 0, locals := 211 } : Room) s m ([.ref (ad 0), .int x1, .int x2] : List Value).toArray below meth c H locs 0 0 (MQ below (va_Qi (S := Unit) (fun r _ => r = R.1) (fun _ t => va_P D vwCl (carW Y ad R.2) t.heap) A) ([.ref (ad 0), .int x1, .int x2] : List Value).toArray s 0 0 A) (F0 m 238 ls [.int y0]) := by
    intro W0 z3 y0 H locs ls hr hP hD hS hl
    rw [mf_L_acts_B238] at hr
    refine lv_istore (lv' := [(4, .int y0), (0, .ref (ad 0)), (3, .int z3)]) hx hb dL_acts_238 hl (by decide) rfl (fun ls hl => ?_)
    refine lv_aload_n hx hb dL_acts_240 rfl (lv_at hl 1 rfl) ?_
    refine lv_iload_n hx hb dL_acts_241 rfl (lv_at hl 2 rfl) ?_
    refine nmv hr (fun r_41 e_42 hr => ?_)
    refine roV_i (As := [.int z3]) (rest := []) ⟨hx, hb, hml, hown, hts⟩ (k_X5_number l D Y ad W0 z3 r_41 e_42) (cwV 1 hts gL_acts_X5_number rfl rfl rfl (by decide +kernel) ⟨Nat.le_of_ble_eq_true rfl, Nat.le_of_ble_eq_true rfl⟩) hP hK hN (hZ.at hS).F 0 5 rfl rfl rfl hl.1 rfl (Nat.le_of_ble_eq_true rfl) dL_acts_242 ⟨Nat.le_refl 0, Nat.le_refl 0⟩ ?_
    refine lv_istore (lv' := [(5, .int r_41), (4, .int y0), (0, .ref (ad 0)), (3, .int z3)]) hx hb dL_acts_245 hl (by decide) rfl (fun ls hl => ?_)
    refine lv_iload_n hx hb dL_acts_247 rfl (lv_at hl 3 rfl) ?_
    refine lv_if_ne (tgt := 261) hx hb dL_acts_248 (by decide) (fun c_43 => ?_) (fun c_43 => ?_)
    · have hr := hr.trans (if_neg c_43)
      exact B261 W0 z3 y0 r_41 _ _ _ hr hP hD hS (lv_sub hl [2, 3, 1, 0] rfl)
    · have hr := hr.trans (if_pos c_43)
      refine lv_iload hx hb dL_acts_251 (lv_at hl 1 rfl) ?_
      refine lv_aload_n hx hb dL_acts_253 rfl (lv_at hl 2 rfl) ?_
      refine lv_iconst (v := (1 : Int32)) hx hb dL_acts_254 (by decide) ?_
      refine nmv hr (fun r_58 e_59 hr => ?_)
      refine roV_i (As := [.int (1 : Int32)]) (rest := [.int y0]) ⟨hx, hb, hml, hown, hts⟩ (k_X5_number l D Y ad W0 (1 : Int32) r_58 e_59) (cwV 1 hts gL_acts_X5_number rfl rfl rfl (by decide +kernel) ⟨Nat.le_of_ble_eq_true rfl, Nat.le_of_ble_eq_true rfl⟩) hP hK hN (hZ.at hS).F 0 5 rfl rfl rfl hl.1 rfl (Nat.le_of_ble_eq_true rfl) dL_acts_255 ⟨Nat.le_refl 0, Nat.le_refl 0⟩ ?_
      refine lv_icmp_le (tgt := 276) hx hb dL_acts_258 (by decide) (fun c_60 => ?_) (fun c_60 => ?_)
      · have hr := hr.trans (if_pos c_60)
        exact B276 W0 z3 y0 r_41 _ _ _ hr hP hD hS (lv_sub hl [2, 3, 1, 0] rfl)
      · have hr := hr.trans (if_neg c_60)
        exact B261 W0 z3 y0 r_41 _ _ _ hr hP hD hS (lv_sub hl [2, 3, 1, 0] rfl)
  have B423 : ∀ (W0 : CarV) (y0 : Int32) (y1 : Int32) (H : Heap) (locs : List Loc) (ls : Array Slot), some R = mf_L_acts_B423 W0 y0 y1 → va_P D vwCl (carW Y ad W0) H → va_D A (carW Y ad W0) → va_S A s.heap H locs → lv_has ls 9 [] → W p l e ({ frames := 8, cells := 0, slots := 0, locals := 211 } : Room) s m ([.ref (ad 0), .int x1, .int x2] : List Value).toArray below meth c H locs 0 0 (MQ below (va_Qi (S := Unit) (fun r _ => r = R.1) (fun _ t => va_P D vwCl (carW Y ad R.2) t.heap) A) ([.ref (ad 0), .int x1, .int x2] : List Value).toArray s 0 0 A) (F0 m 423 ls [.int y0, .int y1]) := by
    intro W0 y0 y1 H locs ls hr hP hD hS hl
    rw [mf_L_acts_B423] at hr
    refine lv_icmp_ne (tgt := 430) hx hb dL_acts_423 (by decide) (fun c_81 => ?_) (fun c_81 => ?_)
    · have hr := hr.trans (if_neg c_81)
      refine lv_iconst (v := (0 : Int32)) hx hb dL_acts_430 (by decide) ?_
      have hr := Option.some.inj hr
      subst hr
      exact W.zret (ty := .boolean) hx hb hrt (by decide) (fun t ht hW => ⟨⟨_, (), rfl, rfl, by show va_P D vwCl _ t.heap; rw [ht]; exact hP⟩, hS.F ht⟩) hS.2.2 dL_acts_431
    · have hr := hr.trans (if_pos c_81)
      refine lv_iconst (v := (1 : Int32)) hx hb dL_acts_426 (by decide) ?_
      refine lv_goto (tgt := 431) hx hb dL_acts_427 (by decide) ?_
      have hr := Option.some.inj hr
      subst hr
      exact W.zret (ty := .boolean) hx hb hrt (by decide) (fun t ht hW => ⟨⟨_, (), rfl, rfl, by show va_P D vwCl _ t.heap; rw [ht]; exact hP⟩, hS.F ht⟩) hS.2.2 dL_acts_431
  have B406 : ∀ (W0 : CarV) (z3 : Int32) (y0 : Int32) (y1 : Int32) (H : Heap) (locs : List Loc) (ls : Array Slot), some R = mf_L_acts_B406 W0 z3 y0 y1 → va_P D vwCl (carW Y ad W0) H → va_D A (carW Y ad W0) → va_S A s.heap H locs → lv_has ls 9 [(0, .ref (ad 0)), (3, .int z3)] → W p l e ({ frames := 8, cells := 0, slots := 0, locals := 211 } : Room) s m ([.ref (ad 0), .int x1, .int x2] : List Value).toArray below meth c H locs 0 0 (MQ below (va_Qi (S := Unit) (fun r _ => r = R.1) (fun _ t => va_P D vwCl (carW Y ad R.2) t.heap) A) ([.ref (ad 0), .int x1, .int x2] : List Value).toArray s 0 0 A) (F0 m 406 ls [.int y0, .int y1]) := by
    intro W0 z3 y0 y1 H locs ls hr hP hD hS hl
    rw [mf_L_acts_B406] at hr
    refine lv_icmp_ne (tgt := 430) hx hb dL_acts_406 (by decide) (fun c_77 => ?_) (fun c_77 => ?_)
    · have hr := hr.trans (if_neg c_77)
      refine lv_iconst (v := (0 : Int32)) hx hb dL_acts_430 (by decide) ?_
      have hr := Option.some.inj hr
      subst hr
      exact W.zret (ty := .boolean) hx hb hrt (by decide) (fun t ht hW => ⟨⟨_, (), rfl, rfl, by show va_P D vwCl _ t.heap; rw [ht]; exact hP⟩, hS.F ht⟩) hS.2.2 dL_acts_431
    · have hr := hr.trans (if_pos c_77)
      refine lv_aload_n hx hb dL_acts_409 rfl (lv_at hl 0 rfl) ?_
      refine lv_iconst (v := (4 : Int32)) hx hb dL_acts_410 (by decide) ?_
      refine nmv hr (fun r_78 e_79 hr => ?_)
      refine roV_i (As := [.int (4 : Int32)]) (rest := []) ⟨hx, hb, hml, hown, hts⟩ (k_X5_car l D Y ad W0 (4 : Int32) r_78 e_79) (cwV 1 hts gL_acts_X5_car rfl rfl rfl (by decide +kernel) ⟨Nat.le_of_ble_eq_true rfl, Nat.le_of_ble_eq_true rfl⟩) hP hK hN (hZ.at hS).F 0 5 rfl rfl rfl hl.1 rfl (Nat.le_of_ble_eq_true rfl) dL_acts_411 ⟨Nat.le_refl 0, Nat.le_refl 0⟩ ?_
      refine lv_iload_n hx hb dL_acts_414 rfl (lv_at hl 1 rfl) ?_
      refine lv_if_eq (tgt := 422) hx hb dL_acts_415 (by decide) (fun c_80 => ?_) (fun c_80 => ?_)
      · have hr := hr.trans (if_pos c_80)
        refine lv_iconst (v := (0 : Int32)) hx hb dL_acts_422 (by decide) ?_
        exact B423 W0 (0 : Int32) r_78 _ _ _ hr hP hD hS (lv_sub hl [] rfl)
      · have hr := hr.trans (if_neg c_80)
        refine lv_iconst (v := (1 : Int32)) hx hb dL_acts_418 (by decide) ?_
        refine lv_goto (tgt := 423) hx hb dL_acts_419 (by decide) ?_
        exact B423 W0 (1 : Int32) r_78 _ _ _ hr hP hD hS (lv_sub hl [] rfl)
  have B392 : ∀ (W0 : CarV) (z3 : Int32) (y0 : Int32) (y1 : Int32) (H : Heap) (locs : List Loc) (ls : Array Slot), some R = mf_L_acts_B392 W0 z3 y0 y1 → va_P D vwCl (carW Y ad W0) H → va_D A (carW Y ad W0) → va_S A s.heap H locs → lv_has ls 9 [(0, .ref (ad 0)), (3, .int z3)] → W p l e ({ frames := 8, cells := 0, slots := 0, locals := 211 } : Room) s m ([.ref (ad 0), .int x1, .int x2] : List Value).toArray below meth c H locs 0 0 (MQ below (va_Qi (S := Unit) (fun r _ => r = R.1) (fun _ t => va_P D vwCl (carW Y ad R.2) t.heap) A) ([.ref (ad 0), .int x1, .int x2] : List Value).toArray s 0 0 A) (F0 m 392 ls [.int y0, .int y1]) := by
    intro W0 z3 y0 y1 H locs ls hr hP hD hS hl
    rw [mf_L_acts_B392] at hr
    refine lv_iload_n hx hb dL_acts_392 rfl (lv_at hl 1 rfl) ?_
    refine lv_icmp_ne (tgt := 401) hx hb dL_acts_393 (by decide) (fun c_74 => ?_) (fun c_74 => ?_)
    · have hr := hr.trans (if_neg c_74)
      refine lv_aload_n hx hb dL_acts_401 rfl (lv_at hl 0 rfl) ?_
      refine lv_iconst (v := (0 : Int32)) hx hb dL_acts_402 (by decide) ?_
      refine nmv hr (fun r_75 e_76 hr => ?_)
      refine roV_i (As := [.int (0 : Int32)]) (rest := [.int y1]) ⟨hx, hb, hml, hown, hts⟩ (k_X5_car l D Y ad W0 (0 : Int32) r_75 e_76) (cwV 1 hts gL_acts_X5_car rfl rfl rfl (by decide +kernel) ⟨Nat.le_of_ble_eq_true rfl, Nat.le_of_ble_eq_true rfl⟩) hP hK hN (hZ.at hS).F 0 5 rfl rfl rfl hl.1 rfl (Nat.le_of_ble_eq_true rfl) dL_acts_403 ⟨Nat.le_refl 0, Nat.le_refl 0⟩ ?_
      exact B406 W0 z3 r_75 y1 _ _ _ hr hP hD hS (lv_sub hl [0, 1] rfl)
    · have hr := hr.trans (if_pos c_74)
      refine lv_bipush (v := (-5 : Int32)) hx hb dL_acts_396 (by decide) ?_
      refine lv_goto (tgt := 406) hx hb dL_acts_398 (by decide) ?_
      exact B406 W0 z3 (-5 : Int32) y1 _ _ _ hr hP hD hS (lv_sub hl [0, 1] rfl)
  have B368 : ∀ (W0 : CarV) (y0 : Int32) (H : Heap) (locs : List Loc) (ls : Array Slot), some R = mf_L_acts_B368 W0 y0 → va_P D vwCl (carW Y ad W0) H → va_D A (carW Y ad W0) → va_S A s.heap H locs → lv_has ls 9 [(0, .ref (ad 0))] → W p l e ({ frames := 8, cells := 0, slots := 0, locals := 211 } : Room) s m ([.ref (ad 0), .int x1, .int x2] : List Value).toArray below meth c H locs 0 0 (MQ below (va_Qi (S := Unit) (fun r _ => r = R.1) (fun _ t => va_P D vwCl (carW Y ad R.2) t.heap) A) ([.ref (ad 0), .int x1, .int x2] : List Value).toArray s 0 0 A) (F0 m 368 ls [.int y0]) := by
    intro W0 y0 H locs ls hr hP hD hS hl
    rw [mf_L_acts_B368] at hr
    refine lv_istore_n (lv' := [(3, .int y0), (0, .ref (ad 0))]) hx hb dL_acts_368 rfl hl (by decide) rfl (fun ls hl => ?_)
    refine lv_aload_n hx hb dL_acts_369 rfl (lv_at hl 1 rfl) ?_
    refine lv_iconst (v := (4 : Int32)) hx hb dL_acts_370 (by decide) ?_
    refine nmv hr (fun r_69 e_70 hr => ?_)
    refine roV_i (As := [.int (4 : Int32)]) (rest := []) ⟨hx, hb, hml, hown, hts⟩ (k_X5_car l D Y ad W0 (4 : Int32) r_69 e_70) (cwV 1 hts gL_acts_X5_car rfl rfl rfl (by decide +kernel) ⟨Nat.le_of_ble_eq_true rfl, Nat.le_of_ble_eq_true rfl⟩) hP hK hN (hZ.at hS).F 0 5 rfl rfl rfl hl.1 rfl (Nat.le_of_ble_eq_true rfl) dL_acts_371 ⟨Nat.le_refl 0, Nat.le_refl 0⟩ ?_
    refine lv_istore (lv' := [(4, .int r_69), (3, .int y0), (0, .ref (ad 0))]) hx hb dL_acts_374 hl (by decide) rfl (fun ls hl => ?_)
    refine lv_aload_n hx hb dL_acts_376 rfl (lv_at hl 2 rfl) ?_
    refine lv_iload_n hx hb dL_acts_377 rfl (lv_at hl 1 rfl) ?_
    refine bdv hr (fun r_71 e_72 hr => ?_)
    refine rwV_iw (As := [.int y0]) (rest := []) ⟨hx, hb, hml, hown, hts⟩ (k_X5_byHand l D Y ad W0 y0 r_71 e_72) (cwV 1 hts gL_acts_X5_byHand rfl rfl rfl (by decide +kernel) ⟨Nat.le_of_ble_eq_true rfl, Nat.le_of_ble_eq_true rfl⟩) hP hK hN hZ hD hS rfl 0 5 rfl rfl rfl hl.1 rfl (Nat.le_of_ble_eq_true rfl) dL_acts_378 ⟨Nat.le_refl 0, Nat.le_refl 0⟩ (fun H locs hP hD hS => ?_)
    refine lv_iload hx hb dL_acts_381 (lv_at hl 0 rfl) ?_
    refine lv_iconst (v := (1 : Int32)) hx hb dL_acts_383 (by decide) ?_
    refine lv_icmp_ne (tgt := 391) hx hb dL_acts_384 (by decide) (fun c_73 => ?_) (fun c_73 => ?_)
    · have hr := hr.trans (if_neg c_73)
      refine lv_iconst (v := (0 : Int32)) hx hb dL_acts_391 (by decide) ?_
      exact B392 r_71.2 y0 (0 : Int32) r_71.1 _ _ _ hr hP hD hS (lv_sub hl [2, 1] rfl)
    · have hr := hr.trans (if_pos c_73)
      refine lv_iconst (v := (1 : Int32)) hx hb dL_acts_387 (by decide) ?_
      refine lv_goto (tgt := 392) hx hb dL_acts_388 (by decide) ?_
      exact B392 r_71.2 y0 (1 : Int32) r_71.1 _ _ _ hr hP hD hS (lv_sub hl [2, 1] rfl)
  have B580 : ∀ (W0 : CarV) (H : Heap) (locs : List Loc) (ls : Array Slot), some R = mf_L_acts_B580 W0 → va_P D vwCl (carW Y ad W0) H → va_D A (carW Y ad W0) → va_S A s.heap H locs → lv_has ls 9 [] → W p l e ({ frames := 8, cells := 0, slots := 0, locals := 211 } : Room) s m ([.ref (ad 0), .int x1, .int x2] : List Value).toArray below meth c H locs 0 0 (MQ below (va_Qi (S := Unit) (fun r _ => r = R.1) (fun _ t => va_P D vwCl (carW Y ad R.2) t.heap) A) ([.ref (ad 0), .int x1, .int x2] : List Value).toArray s 0 0 A) (F0 m 580 ls []) := by
    intro W0 H locs ls hr hP hD hS hl
    rw [mf_L_acts_B580] at hr
    refine lv_iconst (v := (0 : Int32)) hx hb dL_acts_580 (by decide) ?_
    refine lv_goto (tgt := 596) hx hb dL_acts_581 (by decide) ?_
    have hr := Option.some.inj hr
    subst hr
    exact W.zret (ty := .boolean) hx hb hrt (by decide) (fun t ht hW => ⟨⟨_, (), rfl, rfl, by show va_P D vwCl _ t.heap; rw [ht]; exact hP⟩, hS.F ht⟩) hS.2.2 dL_acts_596
  have B576 : ∀ (W0 : CarV) (H : Heap) (locs : List Loc) (ls : Array Slot), some R = mf_L_acts_B576 W0 → va_P D vwCl (carW Y ad W0) H → va_D A (carW Y ad W0) → va_S A s.heap H locs → lv_has ls 9 [] → W p l e ({ frames := 8, cells := 0, slots := 0, locals := 211 } : Room) s m ([.ref (ad 0), .int x1, .int x2] : List Value).toArray below meth c H locs 0 0 (MQ below (va_Qi (S := Unit) (fun r _ => r = R.1) (fun _ t => va_P D vwCl (carW Y ad R.2) t.heap) A) ([.ref (ad 0), .int x1, .int x2] : List Value).toArray s 0 0 A) (F0 m 576 ls []) := by
    intro W0 H locs ls hr hP hD hS hl
    rw [mf_L_acts_B576] at hr
    refine lv_iconst (v := (1 : Int32)) hx hb dL_acts_576 (by decide) ?_
    refine lv_goto (tgt := 596) hx hb dL_acts_577 (by decide) ?_
    have hr := Option.some.inj hr
    subst hr
    exact W.zret (ty := .boolean) hx hb hrt (by decide) (fun t ht hW => ⟨⟨_, (), rfl, rfl, by show va_P D vwCl _ t.heap; rw [ht]; exact hP⟩, hS.F ht⟩) hS.2.2 dL_acts_596
  have B559 : ∀ (W0 : CarV) (z6 : Int32) (z7 : Int32) (H : Heap) (locs : List Loc) (ls : Array Slot), some R = mf_L_acts_B559 W0 z6 z7 → va_P D vwCl (carW Y ad W0) H → va_D A (carW Y ad W0) → va_S A s.heap H locs → lv_has ls 9 [(0, .ref (ad 0)), (6, .int z6), (7, .int z7)] → W p l e ({ frames := 8, cells := 0, slots := 0, locals := 211 } : Room) s m ([.ref (ad 0), .int x1, .int x2] : List Value).toArray below meth c H locs 0 0 (MQ below (va_Qi (S := Unit) (fun r _ => r = R.1) (fun _ t => va_P D vwCl (carW Y ad R.2) t.heap) A) ([.ref (ad 0), .int x1, .int x2] : List Value).toArray s 0 0 A) (F0 m 559 ls []) := by
    intro W0 z6 z7 H locs ls hr hP hD hS hl
    rw [mf_L_acts_B559] at hr
    refine lv_iload hx hb dL_acts_559 (lv_at hl 2 rfl) ?_
    refine lv_bipush (v := (-4 : Int32)) hx hb dL_acts_561 (by decide) ?_
    refine lv_icmp_ne (tgt := 580) hx hb dL_acts_563 (by decide) (fun c_99 => ?_) (fun c_99 => ?_)
    · have hr := hr.trans (if_neg c_99)
      exact B580 W0 _ _ _ hr hP hD hS (lv_sub hl [] rfl)
    · have hr := hr.trans (if_pos c_99)
      refine lv_aload_n hx hb dL_acts_566 rfl (lv_at hl 0 rfl) ?_
      refine lv_iconst (v := (4 : Int32)) hx hb dL_acts_567 (by decide) ?_
      refine nmv hr (fun r_100 e_101 hr => ?_)
      refine roV_i (As := [.int (4 : Int32)]) (rest := []) ⟨hx, hb, hml, hown, hts⟩ (k_X5_count l D Y ad W0 (4 : Int32) r_100 e_101) (cwV 1 hts gL_acts_X5_count rfl rfl rfl (by decide +kernel) ⟨Nat.le_of_ble_eq_true rfl, Nat.le_of_ble_eq_true rfl⟩) hP hK hN (hZ.at hS).F 0 5 rfl rfl rfl hl.1 rfl (Nat.le_of_ble_eq_true rfl) dL_acts_568 ⟨Nat.le_refl 0, Nat.le_refl 0⟩ ?_
      refine lv_iload hx hb dL_acts_571 (lv_at hl 1 rfl) ?_
      refine lv_icmp_ne (tgt := 580) hx hb dL_acts_573 (by decide) (fun c_102 => ?_) (fun c_102 => ?_)
      · have hr := hr.trans (if_neg c_102)
        exact B580 W0 _ _ _ hr hP hD hS (lv_sub hl [] rfl)
      · have hr := hr.trans (if_pos c_102)
        exact B576 W0 _ _ _ hr hP hD hS (lv_sub hl [] rfl)
  have B499 : ∀ (W0 : CarV) (z3 : Int32) (z4 : Int32) (y0 : Int32) (H : Heap) (locs : List Loc) (ls : Array Slot), some R = mf_L_acts_B499 W0 z3 z4 y0 → va_P D vwCl (carW Y ad W0) H → va_D A (carW Y ad W0) → va_S A s.heap H locs → lv_has ls 9 [(0, .ref (ad 0)), (3, .int z3), (4, .int z4)] → W p l e ({ frames := 8, cells := 0, slots := 0, locals := 211 } : Room) s m ([.ref (ad 0), .int x1, .int x2] : List Value).toArray below meth c H locs 0 0 (MQ below (va_Qi (S := Unit) (fun r _ => r = R.1) (fun _ t => va_P D vwCl (carW Y ad R.2) t.heap) A) ([.ref (ad 0), .int x1, .int x2] : List Value).toArray s 0 0 A) (F0 m 499 ls [.int y0]) := by
    intro W0 z3 z4 y0 H locs ls hr hP hD hS hl
    rw [mf_L_acts_B499] at hr
    refine lv_istore (lv' := [(5, .int y0), (0, .ref (ad 0)), (3, .int z3), (4, .int z4)]) hx hb dL_acts_499 hl (by decide) rfl (fun ls hl => ?_)
    refine lv_aload_n hx hb dL_acts_501 rfl (lv_at hl 1 rfl) ?_
    refine lv_iconst (v := (4 : Int32)) hx hb dL_acts_502 (by decide) ?_
    refine nmv hr (fun r_92 e_93 hr => ?_)
    refine roV_i (As := [.int (4 : Int32)]) (rest := []) ⟨hx, hb, hml, hown, hts⟩ (k_X5_count l D Y ad W0 (4 : Int32) r_92 e_93) (cwV 1 hts gL_acts_X5_count rfl rfl rfl (by decide +kernel) ⟨Nat.le_of_ble_eq_true rfl, Nat.le_of_ble_eq_true rfl⟩) hP hK hN (hZ.at hS).F 0 5 rfl rfl rfl hl.1 rfl (Nat.le_of_ble_eq_true rfl) dL_acts_503 ⟨Nat.le_refl 0, Nat.le_refl 0⟩ ?_
    refine lv_istore (lv' := [(6, .int r_92), (5, .int y0), (0, .ref (ad 0)), (3, .int z3), (4, .int z4)]) hx hb dL_acts_506 hl (by decide) rfl (fun ls hl => ?_)
    refine lv_aload_n hx hb dL_acts_508 rfl (lv_at hl 2 rfl) ?_
    refine lv_iload_n hx hb dL_acts_509 rfl (lv_at hl 3 rfl) ?_
    refine bdv hr (fun r_94 e_95 hr => ?_)
    refine rwV_iw (As := [.int z3]) (rest := []) ⟨hx, hb, hml, hown, hts⟩ (k_X5_shift l D Y ad W0 z3 r_94 e_95) (cwV 1 hts gL_acts_X5_shift rfl rfl rfl (by decide +kernel) ⟨Nat.le_of_ble_eq_true rfl, Nat.le_of_ble_eq_true rfl⟩) hP hK hN hZ hD hS rfl 0 5 rfl rfl rfl hl.1 rfl (Nat.le_of_ble_eq_true rfl) dL_acts_510 ⟨Nat.le_refl 0, Nat.le_refl 0⟩ (fun H locs hP hD hS => ?_)
    refine lv_istore (lv' := [(7, .int r_94.1), (6, .int r_92), (5, .int y0), (0, .ref (ad 0)), (3, .int z3), (4, .int z4)]) hx hb dL_acts_513 hl (by decide) rfl (fun ls hl => ?_)
    refine lv_iload hx hb dL_acts_515 (lv_at hl 2 rfl) ?_
    refine lv_if_eq (tgt := 584) hx hb dL_acts_517 (by decide) (fun c_96 => ?_) (fun c_96 => ?_)
    · have hr := hr.trans (if_pos c_96)
      refine lv_iload hx hb dL_acts_584 (lv_at hl 0 rfl) ?_
      refine lv_bipush (v := (-4 : Int32)) hx hb dL_acts_586 (by decide) ?_
      refine lv_icmp_ne (tgt := 595) hx hb dL_acts_588 (by decide) (fun c_97 => ?_) (fun c_97 => ?_)
      · have hr := hr.trans (if_neg c_97)
        refine lv_iconst (v := (0 : Int32)) hx hb dL_acts_595 (by decide) ?_
        have hr := Option.some.inj hr
        subst hr
        exact W.zret (ty := .boolean) hx hb hrt (by decide) (fun t ht hW => ⟨⟨_, (), rfl, rfl, by show va_P D vwCl _ t.heap; rw [ht]; exact hP⟩, hS.F ht⟩) hS.2.2 dL_acts_596
      · have hr := hr.trans (if_pos c_97)
        refine lv_iconst (v := (1 : Int32)) hx hb dL_acts_591 (by decide) ?_
        refine lv_goto (tgt := 596) hx hb dL_acts_592 (by decide) ?_
        have hr := Option.some.inj hr
        subst hr
        exact W.zret (ty := .boolean) hx hb hrt (by decide) (fun t ht hW => ⟨⟨_, (), rfl, rfl, by show va_P D vwCl _ t.heap; rw [ht]; exact hP⟩, hS.F ht⟩) hS.2.2 dL_acts_596
    · have hr := hr.trans (if_neg c_96)
      refine lv_iload hx hb dL_acts_520 (lv_at hl 0 rfl) ?_
      refine lv_iload hx hb dL_acts_522 (lv_at hl 5 rfl) ?_
      refine lv_icmp_ne (tgt := 559) hx hb dL_acts_524 (by decide) (fun c_98 => ?_) (fun c_98 => ?_)
      · have hr := hr.trans (if_neg c_98)
        exact B559 r_94.2 r_92 r_94.1 _ _ _ hr hP hD hS (lv_sub hl [3, 1, 0] rfl)
      · have hr := hr.trans (if_pos c_98)
        refine lv_aload_n hx hb dL_acts_527 rfl (lv_at hl 3 rfl) ?_
        refine lv_iconst (v := (1 : Int32)) hx hb dL_acts_528 (by decide) ?_
        refine nmv hr (fun r_103 e_104 hr => ?_)
        refine roV_i (As := [.int (1 : Int32)]) (rest := []) ⟨hx, hb, hml, hown, hts⟩ (k_X5_car l D Y ad r_94.2 (1 : Int32) r_103 e_104) (cwV 1 hts gL_acts_X5_car rfl rfl rfl (by decide +kernel) ⟨Nat.le_of_ble_eq_true rfl, Nat.le_of_ble_eq_true rfl⟩) hP hK hN (hZ.at hS).F 0 5 rfl rfl rfl hl.1 rfl (Nat.le_of_ble_eq_true rfl) dL_acts_529 ⟨Nat.le_refl 0, Nat.le_refl 0⟩ ?_
        refine lv_iload hx hb dL_acts_532 (lv_at hl 5 rfl) ?_
        refine lv_icmp_ne (tgt := 559) hx hb dL_acts_534 (by decide) (fun c_105 => ?_) (fun c_105 => ?_)
        · have hr := hr.trans (if_neg c_105)
          exact B559 r_94.2 r_92 r_94.1 _ _ _ hr hP hD hS (lv_sub hl [3, 1, 0] rfl)
        · have hr := hr.trans (if_pos c_105)
          refine lv_aload_n hx hb dL_acts_537 rfl (lv_at hl 3 rfl) ?_
          refine lv_iconst (v := (4 : Int32)) hx hb dL_acts_538 (by decide) ?_
          refine nmv hr (fun r_106 e_107 hr => ?_)
          refine roV_i (As := [.int (4 : Int32)]) (rest := []) ⟨hx, hb, hml, hown, hts⟩ (k_X5_count l D Y ad r_94.2 (4 : Int32) r_106 e_107) (cwV 1 hts gL_acts_X5_count rfl rfl rfl (by decide +kernel) ⟨Nat.le_of_ble_eq_true rfl, Nat.le_of_ble_eq_true rfl⟩) hP hK hN (hZ.at hS).F 0 5 rfl rfl rfl hl.1 rfl (Nat.le_of_ble_eq_true rfl) dL_acts_539 ⟨Nat.le_refl 0, Nat.le_refl 0⟩ ?_
          refine lv_iload hx hb dL_acts_542 (lv_at hl 1 rfl) ?_
          refine lv_iconst (v := (1 : Int32)) hx hb dL_acts_544 (by decide) ?_
          refine lv_iadd hx hb dL_acts_545 ?_
          refine lv_icmp_ne (tgt := 559) hx hb dL_acts_546 (by decide) (fun c_108 => ?_) (fun c_108 => ?_)
          · have hr := hr.trans (if_neg c_108)
            exact B559 r_94.2 r_92 r_94.1 _ _ _ hr hP hD hS (lv_sub hl [3, 1, 0] rfl)
          · have hr := hr.trans (if_pos c_108)
            refine lv_aload_n hx hb dL_acts_549 rfl (lv_at hl 3 rfl) ?_
            refine lv_iconst (v := (0 : Int32)) hx hb dL_acts_550 (by decide) ?_
            refine lv_iconst (v := (3 : Int32)) hx hb dL_acts_551 (by decide) ?_
            refine nmv hr (fun r_109 e_110 hr => ?_)
            refine roV_i (As := [.int (0 : Int32), .int (3 : Int32)]) (rest := []) ⟨hx, hb, hml, hown, hts⟩ (k_X5_change l D Y ad r_94.2 (0 : Int32) (3 : Int32) r_109 e_110) (cwV 2 hts gL_acts_X5_change rfl rfl rfl (by decide +kernel) ⟨Nat.le_of_ble_eq_true rfl, Nat.le_of_ble_eq_true rfl⟩) hP hK hN (hZ.at hS).F 0 5 rfl rfl rfl hl.1 rfl (Nat.le_of_ble_eq_true rfl) dL_acts_552 ⟨Nat.le_refl 0, Nat.le_refl 0⟩ ?_
            refine lv_iconst (v := (3 : Int32)) hx hb dL_acts_555 (by decide) ?_
            refine lv_icmp_eq (tgt := 576) hx hb dL_acts_556 (by decide) (fun c_111 => ?_) (fun c_111 => ?_)
            · have hr := hr.trans (if_pos c_111)
              exact B576 r_94.2 _ _ _ hr hP hD hS (lv_sub hl [] rfl)
            · have hr := hr.trans (if_neg c_111)
              exact B559 r_94.2 r_92 r_94.1 _ _ _ hr hP hD hS (lv_sub hl [3, 1, 0] rfl)
  have B498 : ∀ (W0 : CarV) (z3 : Int32) (z4 : Int32) (H : Heap) (locs : List Loc) (ls : Array Slot), some R = mf_L_acts_B498 W0 z3 z4 → va_P D vwCl (carW Y ad W0) H → va_D A (carW Y ad W0) → va_S A s.heap H locs → lv_has ls 9 [(0, .ref (ad 0)), (3, .int z3), (4, .int z4)] → W p l e ({ frames := 8, cells := 0, slots := 0, locals := 211 } : Room) s m ([.ref (ad 0), .int x1, .int x2] : List Value).toArray below meth c H locs 0 0 (MQ below (va_Qi (S := Unit) (fun r _ => r = R.1) (fun _ t => va_P D vwCl (carW Y ad R.2) t.heap) A) ([.ref (ad 0), .int x1, .int x2] : List Value).toArray s 0 0 A) (F0 m 498 ls []) := by
    intro W0 z3 z4 H locs ls hr hP hD hS hl
    rw [mf_L_acts_B498] at hr
    refine lv_iconst (v := (0 : Int32)) hx hb dL_acts_498 (by decide) ?_
    exact B499 W0 z3 z4 (0 : Int32) _ _ _ hr hP hD hS (lv_sub hl [0, 1, 2] rfl)
  have B460 : ∀ (W0 : CarV) (z3 : Int32) (y0 : Int32) (y1 : Int32) (H : Heap) (locs : List Loc) (ls : Array Slot), some R = mf_L_acts_B460 W0 z3 y0 y1 → va_P D vwCl (carW Y ad W0) H → va_D A (carW Y ad W0) → va_S A s.heap H locs → lv_has ls 9 [(0, .ref (ad 0)), (3, .int z3)] → W p l e ({ frames := 8, cells := 0, slots := 0, locals := 211 } : Room) s m ([.ref (ad 0), .int x1, .int x2] : List Value).toArray below meth c H locs 0 0 (MQ below (va_Qi (S := Unit) (fun r _ => r = R.1) (fun _ t => va_P D vwCl (carW Y ad R.2) t.heap) A) ([.ref (ad 0), .int x1, .int x2] : List Value).toArray s 0 0 A) (F0 m 460 ls [.int y0, .int y1]) := by
    intro W0 z3 y0 y1 H locs ls hr hP hD hS hl
    rw [mf_L_acts_B460] at hr
    refine lv_iadd hx hb dL_acts_460 ?_
    refine lv_istore (lv' := [(4, .int (y1 + y0)), (0, .ref (ad 0)), (3, .int z3)]) hx hb dL_acts_461 hl (by decide) rfl (fun ls hl => ?_)
    refine lv_aload_n hx hb dL_acts_463 rfl (lv_at hl 1 rfl) ?_
    refine lv_iconst (v := (4 : Int32)) hx hb dL_acts_464 (by decide) ?_
    refine nmv hr (fun r_89 e_90 hr => ?_)
    refine roV_i (As := [.int (4 : Int32)]) (rest := []) ⟨hx, hb, hml, hown, hts⟩ (k_X5_car l D Y ad W0 (4 : Int32) r_89 e_90) (cwV 1 hts gL_acts_X5_car rfl rfl rfl (by decide +kernel) ⟨Nat.le_of_ble_eq_true rfl, Nat.le_of_ble_eq_true rfl⟩) hP hK hN (hZ.at hS).F 0 5 rfl rfl rfl hl.1 rfl (Nat.le_of_ble_eq_true rfl) dL_acts_465 ⟨Nat.le_refl 0, Nat.le_refl 0⟩ ?_
    refine lv_iconst (v := (1 : Int32)) hx hb dL_acts_468 (by decide) ?_
    refine lv_icmp_ne (tgt := 498) hx hb dL_acts_469 (by decide) (fun c_91 => ?_) (fun c_91 => ?_)
    · have hr := hr.trans (if_neg c_91)
      exact B498 W0 z3 (y1 + y0) _ _ _ hr hP hD hS (lv_sub hl [1, 2, 0] rfl)
    · have hr := hr.trans (if_pos c_91)
      refine lv_aload_n hx hb dL_acts_472 rfl (lv_at hl 1 rfl) ?_
      refine lv_iconst (v := (1 : Int32)) hx hb dL_acts_473 (by decide) ?_
      refine nmv hr (fun r_112 e_113 hr => ?_)
      refine roV_i (As := [.int (1 : Int32)]) (rest := []) ⟨hx, hb, hml, hown, hts⟩ (k_X5_car l D Y ad W0 (1 : Int32) r_112 e_113) (cwV 1 hts gL_acts_X5_car rfl rfl rfl (by decide +kernel) ⟨Nat.le_of_ble_eq_true rfl, Nat.le_of_ble_eq_true rfl⟩) hP hK hN (hZ.at hS).F 0 5 rfl rfl rfl hl.1 rfl (Nat.le_of_ble_eq_true rfl) dL_acts_474 ⟨Nat.le_refl 0, Nat.le_refl 0⟩ ?_
      refine lv_bipush (v := (-5 : Int32)) hx hb dL_acts_477 (by decide) ?_
      refine lv_icmp_ne (tgt := 498) hx hb dL_acts_479 (by decide) (fun c_114 => ?_) (fun c_114 => ?_)
      · have hr := hr.trans (if_neg c_114)
        exact B498 W0 z3 (y1 + y0) _ _ _ hr hP hD hS (lv_sub hl [1, 2, 0] rfl)
      · have hr := hr.trans (if_pos c_114)
        refine lv_iload hx hb dL_acts_482 (lv_at hl 0 rfl) ?_
        refine lv_if_le (tgt := 498) hx hb dL_acts_484 (by decide) (fun c_115 => ?_) (fun c_115 => ?_)
        · have hr := hr.trans (if_pos c_115)
          exact B498 W0 z3 (y1 + y0) _ _ _ hr hP hD hS (lv_sub hl [1, 2, 0] rfl)
        · have hr := hr.trans (if_neg c_115)
          refine lv_iload hx hb dL_acts_487 (lv_at hl 0 rfl) ?_
          refine lv_bipush (v := (6 : Int32)) hx hb dL_acts_489 (by decide) ?_
          refine lv_icmp_ge (tgt := 498) hx hb dL_acts_491 (by decide) (fun c_116 => ?_) (fun c_116 => ?_)
          · have hr := hr.trans (if_pos c_116)
            exact B498 W0 z3 (y1 + y0) _ _ _ hr hP hD hS (lv_sub hl [1, 2, 0] rfl)
          · have hr := hr.trans (if_neg c_116)
            refine lv_iconst (v := (1 : Int32)) hx hb dL_acts_494 (by decide) ?_
            refine lv_goto (tgt := 499) hx hb dL_acts_495 (by decide) ?_
            exact B499 W0 z3 (y1 + y0) (1 : Int32) _ _ _ hr hP hD hS (lv_sub hl [1, 2, 0] rfl)
  have B445 : ∀ (W0 : CarV) (y0 : Int32) (H : Heap) (locs : List Loc) (ls : Array Slot), some R = mf_L_acts_B445 W0 y0 → va_P D vwCl (carW Y ad W0) H → va_D A (carW Y ad W0) → va_S A s.heap H locs → lv_has ls 9 [(0, .ref (ad 0))] → W p l e ({ frames := 8, cells := 0, slots := 0, locals := 211 } : Room) s m ([.ref (ad 0), .int x1, .int x2] : List Value).toArray below meth c H locs 0 0 (MQ below (va_Qi (S := Unit) (fun r _ => r = R.1) (fun _ t => va_P D vwCl (carW Y ad R.2) t.heap) A) ([.ref (ad 0), .int x1, .int x2] : List Value).toArray s 0 0 A) (F0 m 445 ls [.int y0]) := by
    intro W0 y0 H locs ls hr hP hD hS hl
    rw [mf_L_acts_B445] at hr
    refine lv_istore_n (lv' := [(3, .int y0), (0, .ref (ad 0))]) hx hb dL_acts_445 rfl hl (by decide) rfl (fun ls hl => ?_)
    refine lv_aload_n hx hb dL_acts_446 rfl (lv_at hl 1 rfl) ?_
    refine lv_iconst (v := (0 : Int32)) hx hb dL_acts_447 (by decide) ?_
    refine nmv hr (fun r_86 e_87 hr => ?_)
    refine roV_i (As := [.int (0 : Int32)]) (rest := []) ⟨hx, hb, hml, hown, hts⟩ (k_X5_car l D Y ad W0 (0 : Int32) r_86 e_87) (cwV 1 hts gL_acts_X5_car rfl rfl rfl (by decide +kernel) ⟨Nat.le_of_ble_eq_true rfl, Nat.le_of_ble_eq_true rfl⟩) hP hK hN (hZ.at hS).F 0 5 rfl rfl rfl hl.1 rfl (Nat.le_of_ble_eq_true rfl) dL_acts_448 ⟨Nat.le_refl 0, Nat.le_refl 0⟩ ?_
    refine lv_iload_n hx hb dL_acts_451 rfl (lv_at hl 0 rfl) ?_
    refine lv_if_eq (tgt := 459) hx hb dL_acts_452 (by decide) (fun c_88 => ?_) (fun c_88 => ?_)
    · have hr := hr.trans (if_pos c_88)
      refine lv_iconst (v := (-1 : Int32)) hx hb dL_acts_459 (by decide) ?_
      exact B460 W0 y0 (-1 : Int32) r_86 _ _ _ hr hP hD hS (lv_sub hl [1, 0] rfl)
    · have hr := hr.trans (if_neg c_88)
      refine lv_iconst (v := (1 : Int32)) hx hb dL_acts_455 (by decide) ?_
      refine lv_goto (tgt := 460) hx hb dL_acts_456 (by decide) ?_
      exact B460 W0 y0 (1 : Int32) r_86 _ _ _ hr hP hD hS (lv_sub hl [1, 0] rfl)
  have B756 : ∀ (W0 : CarV) (H : Heap) (locs : List Loc) (ls : Array Slot), some R = mf_L_acts_B756 W0 → va_P D vwCl (carW Y ad W0) H → va_D A (carW Y ad W0) → va_S A s.heap H locs → lv_has ls 9 [] → W p l e ({ frames := 8, cells := 0, slots := 0, locals := 211 } : Room) s m ([.ref (ad 0), .int x1, .int x2] : List Value).toArray below meth c H locs 0 0 (MQ below (va_Qi (S := Unit) (fun r _ => r = R.1) (fun _ t => va_P D vwCl (carW Y ad R.2) t.heap) A) ([.ref (ad 0), .int x1, .int x2] : List Value).toArray s 0 0 A) (F0 m 756 ls []) := by
    intro W0 H locs ls hr hP hD hS hl
    rw [mf_L_acts_B756] at hr
    refine lv_iconst (v := (1 : Int32)) hx hb dL_acts_756 (by decide) ?_
    refine lv_goto (tgt := 761) hx hb dL_acts_757 (by decide) ?_
    have hr := Option.some.inj hr
    subst hr
    exact W.zret (ty := .boolean) hx hb hrt (by decide) (fun t ht hW => ⟨⟨_, (), rfl, rfl, by show va_P D vwCl _ t.heap; rw [ht]; exact hP⟩, hS.F ht⟩) hS.2.2 dL_acts_761
  rw [mf_L_acts] at hr
  suffices KK : ∀ (H : Heap) (locs : List Loc), va_P D vwCl (carW Y ad V) H → va_S A s.heap H locs → W p l e ({ frames := 8, cells := 0, slots := 0, locals := 211 } : Room) s m ([.ref (ad 0), .int x1, .int x2] : List Value).toArray below meth c H locs 0 0 (MQ below (va_Qi (S := Unit) (fun r _ => r = R.1) (fun _ t => va_P D vwCl (carW Y ad R.2) t.heap) A) ([.ref (ad 0), .int x1, .int x2] : List Value).toArray s 0 0 A) (F0 m 0 ls []) from KK _ _ hP hS
  intro H locs hP hS
  refine lv_iload_n hx hb dL_acts_0 rfl (lv_at hl 1 rfl) ?_
  refine lv_bipush (v := (12 : Int32)) hx hb dL_acts_1 (by decide) ?_
  refine bdv hr (fun r_1 e_2 hr => ?_)
  refine roS_i (As := [.int x1, .int (12 : Int32)]) (rest := []) ⟨hx, hb, hml, hown, hts⟩ (k_L_low l D Y  x1 (12 : Int32) r_1 e_2) (va_cwS 2 hts gL_acts_L_low rfl rfl rfl (by decide +kernel) ⟨Nat.le_of_ble_eq_true rfl, Nat.le_of_ble_eq_true rfl⟩) (hP.sub (ws' := []) [] rfl) hK hN (hZ.at hS).F rfl hl.1 rfl (Nat.le_of_ble_eq_true rfl) dL_acts_3 ⟨Nat.le_refl 0, Nat.le_refl 0⟩ ?_
  by_cases c_3 : r_1 = (0 : Int32)
  · have hr := hr.trans (if_pos c_3)
    refine lv_tableIn (off := 38) (tgt := 44) hx hb dL_acts_6 (by rw [c_3]; decide) (by rw [c_3]; decide) (by rw [c_3]; rfl) (by decide) ?_
    refine lv_iconst (v := (1 : Int32)) hx hb dL_acts_44 (by decide) ?_
    refine lv_iload_n hx hb dL_acts_45 rfl (lv_at hl 2 rfl) ?_
    refine lv_iconst (v := (5 : Int32)) hx hb dL_acts_46 (by decide) ?_
    refine bdv hr (fun r_4 e_5 hr => ?_)
    refine roS_i (As := [.int x2, .int (5 : Int32)]) (rest := [.int (1 : Int32)]) ⟨hx, hb, hml, hown, hts⟩ (k_L_low l D Y  x2 (5 : Int32) r_4 e_5) (va_cwS 2 hts gL_acts_L_low rfl rfl rfl (by decide +kernel) ⟨Nat.le_of_ble_eq_true rfl, Nat.le_of_ble_eq_true rfl⟩) (hP.sub (ws' := []) [] rfl) hK hN (hZ.at hS).F rfl hl.1 rfl (Nat.le_of_ble_eq_true rfl) dL_acts_47 ⟨Nat.le_refl 0, Nat.le_refl 0⟩ ?_
    refine lv_iadd hx hb dL_acts_50 ?_
    refine lv_istore_n (lv' := [(3, .int ((1 : Int32) + r_4)), (0, .ref (ad 0)), (1, .int x1), (2, .int x2)]) hx hb dL_acts_51 rfl hl (by decide) rfl (fun ls hl => ?_)
    refine lv_iload_n hx hb dL_acts_52 rfl (lv_at hl 3 rfl) ?_
    refine lv_iconst (v := (3 : Int32)) hx hb dL_acts_53 (by decide) ?_
    refine lv_ishr hx hb dL_acts_54 ?_
    refine lv_iconst (v := (4 : Int32)) hx hb dL_acts_55 (by decide) ?_
    refine bdv hr (fun r_6 e_7 hr => ?_)
    refine roS_i (As := [.int (x2 >>> ((3 : Int32) &&& 31)), .int (4 : Int32)]) (rest := []) ⟨hx, hb, hml, hown, hts⟩ (k_L_low l D Y  (x2 >>> ((3 : Int32) &&& 31)) (4 : Int32) r_6 e_7) (va_cwS 2 hts gL_acts_L_low rfl rfl rfl (by decide +kernel) ⟨Nat.le_of_ble_eq_true rfl, Nat.le_of_ble_eq_true rfl⟩) (hP.sub (ws' := []) [] rfl) hK hN (hZ.at hS).F rfl hl.1 rfl (Nat.le_of_ble_eq_true rfl) dL_acts_56 ⟨Nat.le_refl 0, Nat.le_refl 0⟩ ?_
    refine lv_istore (lv' := [(4, .int r_6), (3, .int ((1 : Int32) + r_4)), (0, .ref (ad 0)), (1, .int x1), (2, .int x2)]) hx hb dL_acts_59 hl (by decide) rfl (fun ls hl => ?_)
    refine lv_iload_n hx hb dL_acts_61 rfl (lv_at hl 4 rfl) ?_
    refine lv_iconst (v := (5 : Int32)) hx hb dL_acts_62 (by decide) ?_
    refine lv_ishr hx hb dL_acts_63 ?_
    refine lv_bipush (v := (12 : Int32)) hx hb dL_acts_64 (by decide) ?_
    refine bdv hr (fun r_8 e_9 hr => ?_)
    refine roS_i (As := [.int (x2 >>> ((5 : Int32) &&& 31)), .int (12 : Int32)]) (rest := []) ⟨hx, hb, hml, hown, hts⟩ (k_L_low l D Y  (x2 >>> ((5 : Int32) &&& 31)) (12 : Int32) r_8 e_9) (va_cwS 2 hts gL_acts_L_low rfl rfl rfl (by decide +kernel) ⟨Nat.le_of_ble_eq_true rfl, Nat.le_of_ble_eq_true rfl⟩) (hP.sub (ws' := []) [] rfl) hK hN (hZ.at hS).F rfl hl.1 rfl (Nat.le_of_ble_eq_true rfl) dL_acts_66 ⟨Nat.le_refl 0, Nat.le_refl 0⟩ ?_
    refine lv_istore (lv' := [(5, .int r_8), (4, .int r_6), (3, .int ((1 : Int32) + r_4)), (0, .ref (ad 0)), (1, .int x1), (2, .int x2)]) hx hb dL_acts_69 hl (by decide) rfl (fun ls hl => ?_)
    refine lv_iload_n hx hb dL_acts_71 rfl (lv_at hl 2 rfl) ?_
    refine lv_iconst (v := (5 : Int32)) hx hb dL_acts_72 (by decide) ?_
    refine lv_icmp_ne (tgt := 86) hx hb dL_acts_73 (by decide) (fun c_10 => ?_) (fun c_10 => ?_)
    · have hr := hr.trans (if_neg c_10)
      exact B86 V x2 ((1 : Int32) + r_4) r_6 r_8 _ _ _ hr hP hD hS (lv_sub hl [3, 5, 2, 1, 0] rfl)
    · have hr := hr.trans (if_pos c_10)
      refine lv_iload hx hb dL_acts_76 (lv_at hl 1 rfl) ?_
      refine lv_iconst (v := (3 : Int32)) hx hb dL_acts_78 (by decide) ?_
      refine lv_icmp_ge (tgt := 86) hx hb dL_acts_79 (by decide) (fun c_33 => ?_) (fun c_33 => ?_)
      · have hr := hr.trans (if_pos c_33)
        exact B86 V x2 ((1 : Int32) + r_4) r_6 r_8 _ _ _ hr hP hD hS (lv_sub hl [3, 5, 2, 1, 0] rfl)
      · have hr := hr.trans (if_neg c_33)
        refine lv_iconst (v := (1 : Int32)) hx hb dL_acts_82 (by decide) ?_
        refine lv_goto (tgt := 87) hx hb dL_acts_83 (by decide) ?_
        exact B87 V x2 ((1 : Int32) + r_4) r_6 r_8 (1 : Int32) _ _ _ hr hP hD hS (lv_sub hl [3, 5, 2, 1, 0] rfl)
  · have hr := hr.trans (if_neg c_3)
    by_cases c_34 : r_1 = (1 : Int32)
    · have hr := hr.trans (if_pos c_34)
      refine lv_tableIn (off := 184) (tgt := 190) hx hb dL_acts_6 (by rw [c_34]; decide) (by rw [c_34]; decide) (by rw [c_34]; rfl) (by decide) ?_
      refine lv_iload_n hx hb dL_acts_190 rfl (lv_at hl 2 rfl) ?_
      refine lv_iconst (v := (4 : Int32)) hx hb dL_acts_191 (by decide) ?_
      refine bdv hr (fun r_35 e_36 hr => ?_)
      refine roS_i (As := [.int x2, .int (4 : Int32)]) (rest := []) ⟨hx, hb, hml, hown, hts⟩ (k_L_low l D Y  x2 (4 : Int32) r_35 e_36) (va_cwS 2 hts gL_acts_L_low rfl rfl rfl (by decide +kernel) ⟨Nat.le_of_ble_eq_true rfl, Nat.le_of_ble_eq_true rfl⟩) (hP.sub (ws' := []) [] rfl) hK hN (hZ.at hS).F rfl hl.1 rfl (Nat.le_of_ble_eq_true rfl) dL_acts_192 ⟨Nat.le_refl 0, Nat.le_refl 0⟩ ?_
      refine lv_istore_n (lv' := [(3, .int r_35), (0, .ref (ad 0)), (1, .int x1), (2, .int x2)]) hx hb dL_acts_195 rfl hl (by decide) rfl (fun ls hl => ?_)
      refine lv_iload_n hx hb dL_acts_196 rfl (lv_at hl 0 rfl) ?_
      refine lv_if_ne (tgt := 213) hx hb dL_acts_197 (by decide) (fun c_37 => ?_) (fun c_37 => ?_)
      · have hr := hr.trans (if_neg c_37)
        refine lv_iload_n hx hb dL_acts_213 rfl (lv_at hl 0 rfl) ?_
        refine lv_iconst (v := (1 : Int32)) hx hb dL_acts_214 (by decide) ?_
        refine lv_icmp_ne (tgt := 228) hx hb dL_acts_215 (by decide) (fun c_38 => ?_) (fun c_38 => ?_)
        · have hr := hr.trans (if_neg c_38)
          refine lv_iconst (v := (1 : Int32)) hx hb dL_acts_228 (by decide) ?_
          refine lv_iload_n hx hb dL_acts_229 rfl (lv_at hl 3 rfl) ?_
          refine lv_iconst (v := (2 : Int32)) hx hb dL_acts_230 (by decide) ?_
          refine lv_ishr hx hb dL_acts_231 ?_
          refine lv_bipush (v := (100 : Int32)) hx hb dL_acts_232 (by decide) ?_
          refine bdv hr (fun r_39 e_40 hr => ?_)
          refine roS_i (As := [.int (x2 >>> ((2 : Int32) &&& 31)), .int (100 : Int32)]) (rest := [.int (1 : Int32)]) ⟨hx, hb, hml, hown, hts⟩ (k_L_low l D Y  (x2 >>> ((2 : Int32) &&& 31)) (100 : Int32) r_39 e_40) (va_cwS 2 hts gL_acts_L_low rfl rfl rfl (by decide +kernel) ⟨Nat.le_of_ble_eq_true rfl, Nat.le_of_ble_eq_true rfl⟩) (hP.sub (ws' := []) [] rfl) hK hN (hZ.at hS).F rfl hl.1 rfl (Nat.le_of_ble_eq_true rfl) dL_acts_234 ⟨Nat.le_refl 0, Nat.le_refl 0⟩ ?_
          refine lv_iadd hx hb dL_acts_237 ?_
          exact B238 V r_35 ((1 : Int32) + r_39) _ _ _ hr hP hD hS (lv_sub hl [1, 0] rfl)
        · have hr := hr.trans (if_pos c_38)
          refine lv_iload_n hx hb dL_acts_218 rfl (lv_at hl 3 rfl) ?_
          refine lv_iconst (v := (2 : Int32)) hx hb dL_acts_219 (by decide) ?_
          refine lv_ishr hx hb dL_acts_220 ?_
          refine lv_iconst (v := (4 : Int32)) hx hb dL_acts_221 (by decide) ?_
          refine bdv hr (fun r_61 e_62 hr => ?_)
          refine roS_i (As := [.int (x2 >>> ((2 : Int32) &&& 31)), .int (4 : Int32)]) (rest := []) ⟨hx, hb, hml, hown, hts⟩ (k_L_low l D Y  (x2 >>> ((2 : Int32) &&& 31)) (4 : Int32) r_61 e_62) (va_cwS 2 hts gL_acts_L_low rfl rfl rfl (by decide +kernel) ⟨Nat.le_of_ble_eq_true rfl, Nat.le_of_ble_eq_true rfl⟩) (hP.sub (ws' := []) [] rfl) hK hN (hZ.at hS).F rfl hl.1 rfl (Nat.le_of_ble_eq_true rfl) dL_acts_222 ⟨Nat.le_refl 0, Nat.le_refl 0⟩ ?_
          refine lv_goto (tgt := 238) hx hb dL_acts_225 (by decide) ?_
          exact B238 V r_35 r_61 _ _ _ hr hP hD hS (lv_sub hl [1, 0] rfl)
      · have hr := hr.trans (if_pos c_37)
        refine lv_iconst (v := (2 : Int32)) hx hb dL_acts_200 (by decide) ?_
        refine lv_iload_n hx hb dL_acts_201 rfl (lv_at hl 3 rfl) ?_
        refine lv_iconst (v := (2 : Int32)) hx hb dL_acts_202 (by decide) ?_
        refine lv_ishr hx hb dL_acts_203 ?_
        refine lv_bipush (v := (8 : Int32)) hx hb dL_acts_204 (by decide) ?_
        refine bdv hr (fun r_63 e_64 hr => ?_)
        refine roS_i (As := [.int (x2 >>> ((2 : Int32) &&& 31)), .int (8 : Int32)]) (rest := [.int (2 : Int32)]) ⟨hx, hb, hml, hown, hts⟩ (k_L_low l D Y  (x2 >>> ((2 : Int32) &&& 31)) (8 : Int32) r_63 e_64) (va_cwS 2 hts gL_acts_L_low rfl rfl rfl (by decide +kernel) ⟨Nat.le_of_ble_eq_true rfl, Nat.le_of_ble_eq_true rfl⟩) (hP.sub (ws' := []) [] rfl) hK hN (hZ.at hS).F rfl hl.1 rfl (Nat.le_of_ble_eq_true rfl) dL_acts_206 ⟨Nat.le_refl 0, Nat.le_refl 0⟩ ?_
        refine lv_iadd hx hb dL_acts_209 ?_
        refine lv_goto (tgt := 238) hx hb dL_acts_210 (by decide) ?_
        exact B238 V r_35 ((2 : Int32) + r_63) _ _ _ hr hP hD hS (lv_sub hl [1, 0] rfl)
    · have hr := hr.trans (if_neg c_34)
      by_cases c_65 : r_1 = (2 : Int32)
      · have hr := hr.trans (if_pos c_65)
        refine lv_tableIn (off := 349) (tgt := 355) hx hb dL_acts_6 (by rw [c_65]; decide) (by rw [c_65]; decide) (by rw [c_65]; rfl) (by decide) ?_
        refine lv_iload_n hx hb dL_acts_355 rfl (lv_at hl 2 rfl) ?_
        refine lv_iconst (v := (3 : Int32)) hx hb dL_acts_356 (by decide) ?_
        refine bdv hr (fun r_66 e_67 hr => ?_)
        refine roS_i (As := [.int x2, .int (3 : Int32)]) (rest := []) ⟨hx, hb, hml, hown, hts⟩ (k_L_low l D Y  x2 (3 : Int32) r_66 e_67) (va_cwS 2 hts gL_acts_L_low rfl rfl rfl (by decide +kernel) ⟨Nat.le_of_ble_eq_true rfl, Nat.le_of_ble_eq_true rfl⟩) (hP.sub (ws' := []) [] rfl) hK hN (hZ.at hS).F rfl hl.1 rfl (Nat.le_of_ble_eq_true rfl) dL_acts_357 ⟨Nat.le_refl 0, Nat.le_refl 0⟩ ?_
        refine lv_if_ne (tgt := 367) hx hb dL_acts_360 (by decide) (fun c_68 => ?_) (fun c_68 => ?_)
        · have hr := hr.trans (if_neg c_68)
          refine lv_iconst (v := (0 : Int32)) hx hb dL_acts_367 (by decide) ?_
          exact B368 V (0 : Int32) _ _ _ hr hP hD hS (lv_sub hl [0] rfl)
        · have hr := hr.trans (if_pos c_68)
          refine lv_iconst (v := (1 : Int32)) hx hb dL_acts_363 (by decide) ?_
          refine lv_goto (tgt := 368) hx hb dL_acts_364 (by decide) ?_
          exact B368 V (1 : Int32) _ _ _ hr hP hD hS (lv_sub hl [0] rfl)
      · have hr := hr.trans (if_neg c_65)
        by_cases c_82 : r_1 = (3 : Int32)
        · have hr := hr.trans (if_pos c_82)
          refine lv_tableIn (off := 426) (tgt := 432) hx hb dL_acts_6 (by rw [c_82]; decide) (by rw [c_82]; decide) (by rw [c_82]; rfl) (by decide) ?_
          refine lv_iload_n hx hb dL_acts_432 rfl (lv_at hl 2 rfl) ?_
          refine lv_iconst (v := (2 : Int32)) hx hb dL_acts_433 (by decide) ?_
          refine bdv hr (fun r_83 e_84 hr => ?_)
          refine roS_i (As := [.int x2, .int (2 : Int32)]) (rest := []) ⟨hx, hb, hml, hown, hts⟩ (k_L_low l D Y  x2 (2 : Int32) r_83 e_84) (va_cwS 2 hts gL_acts_L_low rfl rfl rfl (by decide +kernel) ⟨Nat.le_of_ble_eq_true rfl, Nat.le_of_ble_eq_true rfl⟩) (hP.sub (ws' := []) [] rfl) hK hN (hZ.at hS).F rfl hl.1 rfl (Nat.le_of_ble_eq_true rfl) dL_acts_434 ⟨Nat.le_refl 0, Nat.le_refl 0⟩ ?_
          refine lv_if_ne (tgt := 444) hx hb dL_acts_437 (by decide) (fun c_85 => ?_) (fun c_85 => ?_)
          · have hr := hr.trans (if_neg c_85)
            refine lv_iconst (v := (0 : Int32)) hx hb dL_acts_444 (by decide) ?_
            exact B445 V (0 : Int32) _ _ _ hr hP hD hS (lv_sub hl [0] rfl)
          · have hr := hr.trans (if_pos c_85)
            refine lv_iconst (v := (1 : Int32)) hx hb dL_acts_440 (by decide) ?_
            refine lv_goto (tgt := 445) hx hb dL_acts_441 (by decide) ?_
            exact B445 V (1 : Int32) _ _ _ hr hP hD hS (lv_sub hl [0] rfl)
        · have hr := hr.trans (if_neg c_82)
          by_cases c_117 : r_1 = (4 : Int32)
          · have hr := hr.trans (if_pos c_117)
            refine lv_tableIn (off := 591) (tgt := 597) hx hb dL_acts_6 (by rw [c_117]; decide) (by rw [c_117]; decide) (by rw [c_117]; rfl) (by decide) ?_
            refine lv_iload_n hx hb dL_acts_597 rfl (lv_at hl 2 rfl) ?_
            refine lv_bipush (v := (12 : Int32)) hx hb dL_acts_598 (by decide) ?_
            refine bdv hr (fun r_118 e_119 hr => ?_)
            refine roS_i (As := [.int x2, .int (12 : Int32)]) (rest := []) ⟨hx, hb, hml, hown, hts⟩ (k_L_low l D Y  x2 (12 : Int32) r_118 e_119) (va_cwS 2 hts gL_acts_L_low rfl rfl rfl (by decide +kernel) ⟨Nat.le_of_ble_eq_true rfl, Nat.le_of_ble_eq_true rfl⟩) (hP.sub (ws' := []) [] rfl) hK hN (hZ.at hS).F rfl hl.1 rfl (Nat.le_of_ble_eq_true rfl) dL_acts_600 ⟨Nat.le_refl 0, Nat.le_refl 0⟩ ?_
            refine lv_istore_n (lv' := [(3, .int r_118), (0, .ref (ad 0)), (1, .int x1), (2, .int x2)]) hx hb dL_acts_603 rfl hl (by decide) rfl (fun ls hl => ?_)
            refine lv_iload_n hx hb dL_acts_604 rfl (lv_at hl 3 rfl) ?_
            refine lv_iconst (v := (4 : Int32)) hx hb dL_acts_605 (by decide) ?_
            refine lv_ishr hx hb dL_acts_606 ?_
            refine lv_iconst (v := (5 : Int32)) hx hb dL_acts_607 (by decide) ?_
            refine bdv hr (fun r_120 e_121 hr => ?_)
            refine roS_i (As := [.int (x2 >>> ((4 : Int32) &&& 31)), .int (5 : Int32)]) (rest := []) ⟨hx, hb, hml, hown, hts⟩ (k_L_low l D Y  (x2 >>> ((4 : Int32) &&& 31)) (5 : Int32) r_120 e_121) (va_cwS 2 hts gL_acts_L_low rfl rfl rfl (by decide +kernel) ⟨Nat.le_of_ble_eq_true rfl, Nat.le_of_ble_eq_true rfl⟩) (hP.sub (ws' := []) [] rfl) hK hN (hZ.at hS).F rfl hl.1 rfl (Nat.le_of_ble_eq_true rfl) dL_acts_608 ⟨Nat.le_refl 0, Nat.le_refl 0⟩ ?_
            refine lv_istore (lv' := [(4, .int r_120), (3, .int r_118), (0, .ref (ad 0)), (1, .int x1), (2, .int x2)]) hx hb dL_acts_611 hl (by decide) rfl (fun ls hl => ?_)
            refine lv_iconst (v := (1 : Int32)) hx hb dL_acts_613 (by decide) ?_
            refine lv_iload_n hx hb dL_acts_614 rfl (lv_at hl 4 rfl) ?_
            refine lv_bipush (v := (7 : Int32)) hx hb dL_acts_615 (by decide) ?_
            refine lv_ishr hx hb dL_acts_617 ?_
            refine lv_bipush (v := (30 : Int32)) hx hb dL_acts_618 (by decide) ?_
            refine bdv hr (fun r_122 e_123 hr => ?_)
            refine roS_i (As := [.int (x2 >>> ((7 : Int32) &&& 31)), .int (30 : Int32)]) (rest := [.int (1 : Int32)]) ⟨hx, hb, hml, hown, hts⟩ (k_L_low l D Y  (x2 >>> ((7 : Int32) &&& 31)) (30 : Int32) r_122 e_123) (va_cwS 2 hts gL_acts_L_low rfl rfl rfl (by decide +kernel) ⟨Nat.le_of_ble_eq_true rfl, Nat.le_of_ble_eq_true rfl⟩) (hP.sub (ws' := []) [] rfl) hK hN (hZ.at hS).F rfl hl.1 rfl (Nat.le_of_ble_eq_true rfl) dL_acts_620 ⟨Nat.le_refl 0, Nat.le_refl 0⟩ ?_
            refine lv_iadd hx hb dL_acts_623 ?_
            refine lv_istore (lv' := [(5, .int ((1 : Int32) + r_122)), (4, .int r_120), (3, .int r_118), (0, .ref (ad 0)), (1, .int x1), (2, .int x2)]) hx hb dL_acts_624 hl (by decide) rfl (fun ls hl => ?_)
            refine lv_aload_n hx hb dL_acts_626 rfl (lv_at hl 3 rfl) ?_
            refine lv_iconst (v := (0 : Int32)) hx hb dL_acts_627 (by decide) ?_
            refine nmv hr (fun r_124 e_125 hr => ?_)
            refine roV_i (As := [.int (0 : Int32)]) (rest := []) ⟨hx, hb, hml, hown, hts⟩ (k_X5_count l D Y ad V (0 : Int32) r_124 e_125) (cwV 1 hts gL_acts_X5_count rfl rfl rfl (by decide +kernel) ⟨Nat.le_of_ble_eq_true rfl, Nat.le_of_ble_eq_true rfl⟩) hP hK hN (hZ.at hS).F 0 5 rfl rfl rfl hl.1 rfl (Nat.le_of_ble_eq_true rfl) dL_acts_628 ⟨Nat.le_refl 0, Nat.le_refl 0⟩ ?_
            refine lv_istore (lv' := [(6, .int r_124), (5, .int ((1 : Int32) + r_122)), (4, .int r_120), (3, .int r_118), (0, .ref (ad 0)), (1, .int x1), (2, .int x2)]) hx hb dL_acts_631 hl (by decide) rfl (fun ls hl => ?_)
            refine lv_aload_n hx hb dL_acts_633 rfl (lv_at hl 4 rfl) ?_
            refine lv_iconst (v := (1 : Int32)) hx hb dL_acts_634 (by decide) ?_
            refine nmv hr (fun r_126 e_127 hr => ?_)
            refine roV_i (As := [.int (1 : Int32)]) (rest := []) ⟨hx, hb, hml, hown, hts⟩ (k_X5_count l D Y ad V (1 : Int32) r_126 e_127) (cwV 1 hts gL_acts_X5_count rfl rfl rfl (by decide +kernel) ⟨Nat.le_of_ble_eq_true rfl, Nat.le_of_ble_eq_true rfl⟩) hP hK hN (hZ.at hS).F 0 5 rfl rfl rfl hl.1 rfl (Nat.le_of_ble_eq_true rfl) dL_acts_635 ⟨Nat.le_refl 0, Nat.le_refl 0⟩ ?_
            refine lv_aload_n hx hb dL_acts_638 rfl (lv_at hl 4 rfl) ?_
            refine lv_iconst (v := (2 : Int32)) hx hb dL_acts_639 (by decide) ?_
            refine nmv hr (fun r_128 e_129 hr => ?_)
            refine roV_i (As := [.int (2 : Int32)]) (rest := [.int r_126]) ⟨hx, hb, hml, hown, hts⟩ (k_X5_count l D Y ad V (2 : Int32) r_128 e_129) (cwV 1 hts gL_acts_X5_count rfl rfl rfl (by decide +kernel) ⟨Nat.le_of_ble_eq_true rfl, Nat.le_of_ble_eq_true rfl⟩) hP hK hN (hZ.at hS).F 0 5 rfl rfl rfl hl.1 rfl (Nat.le_of_ble_eq_true rfl) dL_acts_640 ⟨Nat.le_refl 0, Nat.le_refl 0⟩ ?_
            refine lv_iadd hx hb dL_acts_643 ?_
            refine lv_aload_n hx hb dL_acts_644 rfl (lv_at hl 4 rfl) ?_
            refine lv_iconst (v := (3 : Int32)) hx hb dL_acts_645 (by decide) ?_
            refine nmv hr (fun r_130 e_131 hr => ?_)
            refine roV_i (As := [.int (3 : Int32)]) (rest := [.int (r_126 + r_128)]) ⟨hx, hb, hml, hown, hts⟩ (k_X5_count l D Y ad V (3 : Int32) r_130 e_131) (cwV 1 hts gL_acts_X5_count rfl rfl rfl (by decide +kernel) ⟨Nat.le_of_ble_eq_true rfl, Nat.le_of_ble_eq_true rfl⟩) hP hK hN (hZ.at hS).F 0 5 rfl rfl rfl hl.1 rfl (Nat.le_of_ble_eq_true rfl) dL_acts_646 ⟨Nat.le_refl 0, Nat.le_refl 0⟩ ?_
            refine lv_iadd hx hb dL_acts_649 ?_
            refine lv_aload_n hx hb dL_acts_650 rfl (lv_at hl 4 rfl) ?_
            refine lv_iconst (v := (5 : Int32)) hx hb dL_acts_651 (by decide) ?_
            refine nmv hr (fun r_132 e_133 hr => ?_)
            refine roV_i (As := [.int (5 : Int32)]) (rest := [.int ((r_126 + r_128) + r_130)]) ⟨hx, hb, hml, hown, hts⟩ (k_X5_count l D Y ad V (5 : Int32) r_132 e_133) (cwV 1 hts gL_acts_X5_count rfl rfl rfl (by decide +kernel) ⟨Nat.le_of_ble_eq_true rfl, Nat.le_of_ble_eq_true rfl⟩) hP hK hN (hZ.at hS).F 0 5 rfl rfl rfl hl.1 rfl (Nat.le_of_ble_eq_true rfl) dL_acts_652 ⟨Nat.le_refl 0, Nat.le_refl 0⟩ ?_
            refine lv_iadd hx hb dL_acts_655 ?_
            refine lv_istore (lv' := [(7, .int (((r_126 + r_128) + r_130) + r_132)), (6, .int r_124), (5, .int ((1 : Int32) + r_122)), (4, .int r_120), (3, .int r_118), (0, .ref (ad 0)), (1, .int x1), (2, .int x2)]) hx hb dL_acts_656 hl (by decide) rfl (fun ls hl => ?_)
            refine lv_aload_n hx hb dL_acts_658 rfl (lv_at hl 5 rfl) ?_
            refine lv_iload_n hx hb dL_acts_659 rfl (lv_at hl 4 rfl) ?_
            refine nmv hr (fun r_134 e_135 hr => ?_)
            refine roS_i (As := [.int r_118]) (rest := [.ref (ad 0)]) ⟨hx, hb, hml, hown, hts⟩ (k_L_speed l D Y  r_118 r_134 e_135) (va_cwS 1 hts gL_acts_L_speed rfl rfl rfl (by decide +kernel) ⟨Nat.le_of_ble_eq_true rfl, Nat.le_of_ble_eq_true rfl⟩) (hP.sub (ws' := []) [] rfl) hK hN (hZ.at hS).F rfl hl.1 rfl (Nat.le_of_ble_eq_true rfl) dL_acts_660 ⟨Nat.le_refl 0, Nat.le_refl 0⟩ ?_
            refine lv_iload hx hb dL_acts_663 (lv_at hl 3 rfl) ?_
            refine nmv hr (fun r_136 e_137 hr => ?_)
            refine roS_i (As := [.int r_120]) (rest := [.int r_134, .ref (ad 0)]) ⟨hx, hb, hml, hown, hts⟩ (k_L_pedal l D Y  r_120 r_136 e_137) (va_cwS 1 hts gL_acts_L_pedal rfl rfl rfl (by decide +kernel) ⟨Nat.le_of_ble_eq_true rfl, Nat.le_of_ble_eq_true rfl⟩) (hP.sub (ws' := []) [] rfl) hK hN (hZ.at hS).F rfl hl.1 rfl (Nat.le_of_ble_eq_true rfl) dL_acts_665 ⟨Nat.le_refl 0, Nat.le_refl 0⟩ ?_
            refine lv_iload hx hb dL_acts_668 (lv_at hl 2 rfl) ?_
            refine bdv hr (fun r_138 e_139 hr => ?_)
            refine rwV_iw (As := [.int r_134, .int r_136, .int ((1 : Int32) + r_122)]) (rest := []) ⟨hx, hb, hml, hown, hts⟩ (k_X5_drive l D Y ad V r_134 r_136 ((1 : Int32) + r_122) r_138 e_139) (cwV 3 hts gL_acts_X5_drive rfl rfl rfl (by decide +kernel) ⟨Nat.le_of_ble_eq_true rfl, Nat.le_of_ble_eq_true rfl⟩) hP hK hN hZ hD hS rfl 0 5 rfl rfl rfl hl.1 rfl (Nat.le_of_ble_eq_true rfl) dL_acts_670 ⟨Nat.le_refl 0, Nat.le_refl 0⟩ (fun H locs hP hD hS => ?_)
            refine lv_istore (lv' := [(8, .int r_138.1), (7, .int (((r_126 + r_128) + r_130) + r_132)), (6, .int r_124), (5, .int ((1 : Int32) + r_122)), (4, .int r_120), (3, .int r_118), (0, .ref (ad 0)), (1, .int x1), (2, .int x2)]) hx hb dL_acts_673 hl (by decide) rfl (fun ls hl => ?_)
            refine lv_aload_n hx hb dL_acts_675 rfl (lv_at hl 6 rfl) ?_
            refine lv_iconst (v := (0 : Int32)) hx hb dL_acts_676 (by decide) ?_
            refine nmv hr (fun r_140 e_141 hr => ?_)
            refine roV_i (As := [.int (0 : Int32)]) (rest := []) ⟨hx, hb, hml, hown, hts⟩ (k_X5_count l D Y ad r_138.2 (0 : Int32) r_140 e_141) (cwV 1 hts gL_acts_X5_count rfl rfl rfl (by decide +kernel) ⟨Nat.le_of_ble_eq_true rfl, Nat.le_of_ble_eq_true rfl⟩) hP hK hN (hZ.at hS).F 0 5 rfl rfl rfl hl.1 rfl (Nat.le_of_ble_eq_true rfl) dL_acts_677 ⟨Nat.le_refl 0, Nat.le_refl 0⟩ ?_
            refine lv_iload hx hb dL_acts_680 (lv_at hl 2 rfl) ?_
            refine lv_iload hx hb dL_acts_682 (lv_at hl 3 rfl) ?_
            refine lv_iadd hx hb dL_acts_684 ?_
            refine lv_icmp_ne (tgt := 723) hx hb dL_acts_685 (by decide) (fun c_142 => ?_) (fun c_142 => ?_)
            · have hr := hr.trans (if_neg c_142)
              refine lv_iconst (v := (0 : Int32)) hx hb dL_acts_723 (by decide) ?_
              have hr := Option.some.inj hr
              subst hr
              exact W.zret (ty := .boolean) hx hb hrt (by decide) (fun t ht hW => ⟨⟨_, (), rfl, rfl, by show va_P D vwCl _ t.heap; rw [ht]; exact hP⟩, hS.F ht⟩) hS.2.2 dL_acts_724
            · have hr := hr.trans (if_pos c_142)
              refine lv_aload_n hx hb dL_acts_688 rfl (lv_at hl 6 rfl) ?_
              refine lv_iconst (v := (1 : Int32)) hx hb dL_acts_689 (by decide) ?_
              refine nmv hr (fun r_143 e_144 hr => ?_)
              refine roV_i (As := [.int (1 : Int32)]) (rest := []) ⟨hx, hb, hml, hown, hts⟩ (k_X5_count l D Y ad r_138.2 (1 : Int32) r_143 e_144) (cwV 1 hts gL_acts_X5_count rfl rfl rfl (by decide +kernel) ⟨Nat.le_of_ble_eq_true rfl, Nat.le_of_ble_eq_true rfl⟩) hP hK hN (hZ.at hS).F 0 5 rfl rfl rfl hl.1 rfl (Nat.le_of_ble_eq_true rfl) dL_acts_690 ⟨Nat.le_refl 0, Nat.le_refl 0⟩ ?_
              refine lv_aload_n hx hb dL_acts_693 rfl (lv_at hl 6 rfl) ?_
              refine lv_iconst (v := (2 : Int32)) hx hb dL_acts_694 (by decide) ?_
              refine nmv hr (fun r_145 e_146 hr => ?_)
              refine roV_i (As := [.int (2 : Int32)]) (rest := [.int r_143]) ⟨hx, hb, hml, hown, hts⟩ (k_X5_count l D Y ad r_138.2 (2 : Int32) r_145 e_146) (cwV 1 hts gL_acts_X5_count rfl rfl rfl (by decide +kernel) ⟨Nat.le_of_ble_eq_true rfl, Nat.le_of_ble_eq_true rfl⟩) hP hK hN (hZ.at hS).F 0 5 rfl rfl rfl hl.1 rfl (Nat.le_of_ble_eq_true rfl) dL_acts_695 ⟨Nat.le_refl 0, Nat.le_refl 0⟩ ?_
              refine lv_iadd hx hb dL_acts_698 ?_
              refine lv_aload_n hx hb dL_acts_699 rfl (lv_at hl 6 rfl) ?_
              refine lv_iconst (v := (3 : Int32)) hx hb dL_acts_700 (by decide) ?_
              refine nmv hr (fun r_147 e_148 hr => ?_)
              refine roV_i (As := [.int (3 : Int32)]) (rest := [.int (r_143 + r_145)]) ⟨hx, hb, hml, hown, hts⟩ (k_X5_count l D Y ad r_138.2 (3 : Int32) r_147 e_148) (cwV 1 hts gL_acts_X5_count rfl rfl rfl (by decide +kernel) ⟨Nat.le_of_ble_eq_true rfl, Nat.le_of_ble_eq_true rfl⟩) hP hK hN (hZ.at hS).F 0 5 rfl rfl rfl hl.1 rfl (Nat.le_of_ble_eq_true rfl) dL_acts_701 ⟨Nat.le_refl 0, Nat.le_refl 0⟩ ?_
              refine lv_iadd hx hb dL_acts_704 ?_
              refine lv_aload_n hx hb dL_acts_705 rfl (lv_at hl 6 rfl) ?_
              refine lv_iconst (v := (5 : Int32)) hx hb dL_acts_706 (by decide) ?_
              refine nmv hr (fun r_149 e_150 hr => ?_)
              refine roV_i (As := [.int (5 : Int32)]) (rest := [.int ((r_143 + r_145) + r_147)]) ⟨hx, hb, hml, hown, hts⟩ (k_X5_count l D Y ad r_138.2 (5 : Int32) r_149 e_150) (cwV 1 hts gL_acts_X5_count rfl rfl rfl (by decide +kernel) ⟨Nat.le_of_ble_eq_true rfl, Nat.le_of_ble_eq_true rfl⟩) hP hK hN (hZ.at hS).F 0 5 rfl rfl rfl hl.1 rfl (Nat.le_of_ble_eq_true rfl) dL_acts_707 ⟨Nat.le_refl 0, Nat.le_refl 0⟩ ?_
              refine lv_iadd hx hb dL_acts_710 ?_
              refine lv_iload hx hb dL_acts_711 (lv_at hl 1 rfl) ?_
              refine lv_iload hx hb dL_acts_713 (lv_at hl 0 rfl) ?_
              refine lv_iadd hx hb dL_acts_715 ?_
              refine lv_icmp_ne (tgt := 723) hx hb dL_acts_716 (by decide) (fun c_151 => ?_) (fun c_151 => ?_)
              · have hr := hr.trans (if_neg c_151)
                refine lv_iconst (v := (0 : Int32)) hx hb dL_acts_723 (by decide) ?_
                have hr := Option.some.inj hr
                subst hr
                exact W.zret (ty := .boolean) hx hb hrt (by decide) (fun t ht hW => ⟨⟨_, (), rfl, rfl, by show va_P D vwCl _ t.heap; rw [ht]; exact hP⟩, hS.F ht⟩) hS.2.2 dL_acts_724
              · have hr := hr.trans (if_pos c_151)
                refine lv_iconst (v := (1 : Int32)) hx hb dL_acts_719 (by decide) ?_
                refine lv_goto (tgt := 724) hx hb dL_acts_720 (by decide) ?_
                have hr := Option.some.inj hr
                subst hr
                exact W.zret (ty := .boolean) hx hb hrt (by decide) (fun t ht hW => ⟨⟨_, (), rfl, rfl, by show va_P D vwCl _ t.heap; rw [ht]; exact hP⟩, hS.F ht⟩) hS.2.2 dL_acts_724
          · have hr := hr.trans (if_neg c_117)
            by_cases c_152 : r_1 = (5 : Int32)
            · have hr := hr.trans (if_pos c_152)
              refine lv_tableIn (off := 719) (tgt := 725) hx hb dL_acts_6 (by rw [c_152]; decide) (by rw [c_152]; decide) (by rw [c_152]; rfl) (by decide) ?_
              refine lv_iload_n hx hb dL_acts_725 rfl (lv_at hl 2 rfl) ?_
              refine lv_iconst (v := (3 : Int32)) hx hb dL_acts_726 (by decide) ?_
              refine bdv hr (fun r_153 e_154 hr => ?_)
              refine roS_i (As := [.int x2, .int (3 : Int32)]) (rest := []) ⟨hx, hb, hml, hown, hts⟩ (k_L_low l D Y  x2 (3 : Int32) r_153 e_154) (va_cwS 2 hts gL_acts_L_low rfl rfl rfl (by decide +kernel) ⟨Nat.le_of_ble_eq_true rfl, Nat.le_of_ble_eq_true rfl⟩) (hP.sub (ws' := []) [] rfl) hK hN (hZ.at hS).F rfl hl.1 rfl (Nat.le_of_ble_eq_true rfl) dL_acts_727 ⟨Nat.le_refl 0, Nat.le_refl 0⟩ ?_
              refine lv_if_gt (tgt := 756) hx hb dL_acts_730 (by decide) (fun c_155 => ?_) (fun c_155 => ?_)
              · have hr := hr.trans (if_pos c_155)
                exact B756 V _ _ _ hr hP hD hS (lv_sub hl [] rfl)
              · have hr := hr.trans (if_neg c_155)
                refine lv_aload_n hx hb dL_acts_733 rfl (lv_at hl 0 rfl) ?_
                refine lv_iload_n hx hb dL_acts_734 rfl (lv_at hl 2 rfl) ?_
                refine lv_iconst (v := (2 : Int32)) hx hb dL_acts_735 (by decide) ?_
                refine lv_ishr hx hb dL_acts_736 ?_
                refine lv_bipush (v := (12 : Int32)) hx hb dL_acts_737 (by decide) ?_
                refine bdv hr (fun r_156 e_157 hr => ?_)
                refine roS_i (As := [.int (x2 >>> ((2 : Int32) &&& 31)), .int (12 : Int32)]) (rest := [.ref (ad 0)]) ⟨hx, hb, hml, hown, hts⟩ (k_L_low l D Y  (x2 >>> ((2 : Int32) &&& 31)) (12 : Int32) r_156 e_157) (va_cwS 2 hts gL_acts_L_low rfl rfl rfl (by decide +kernel) ⟨Nat.le_of_ble_eq_true rfl, Nat.le_of_ble_eq_true rfl⟩) (hP.sub (ws' := []) [] rfl) hK hN (hZ.at hS).F rfl hl.1 rfl (Nat.le_of_ble_eq_true rfl) dL_acts_739 ⟨Nat.le_refl 0, Nat.le_refl 0⟩ ?_
                refine lv_iload_n hx hb dL_acts_742 rfl (lv_at hl 2 rfl) ?_
                refine lv_bipush (v := (6 : Int32)) hx hb dL_acts_743 (by decide) ?_
                refine lv_ishr hx hb dL_acts_745 ?_
                refine lv_iconst (v := (5 : Int32)) hx hb dL_acts_746 (by decide) ?_
                refine bdv hr (fun r_158 e_159 hr => ?_)
                refine roS_i (As := [.int (x2 >>> ((6 : Int32) &&& 31)), .int (5 : Int32)]) (rest := [.int r_156, .ref (ad 0)]) ⟨hx, hb, hml, hown, hts⟩ (k_L_low l D Y  (x2 >>> ((6 : Int32) &&& 31)) (5 : Int32) r_158 e_159) (va_cwS 2 hts gL_acts_L_low rfl rfl rfl (by decide +kernel) ⟨Nat.le_of_ble_eq_true rfl, Nat.le_of_ble_eq_true rfl⟩) (hP.sub (ws' := []) [] rfl) hK hN (hZ.at hS).F rfl hl.1 rfl (Nat.le_of_ble_eq_true rfl) dL_acts_747 ⟨Nat.le_refl 0, Nat.le_refl 0⟩ ?_
                refine bdv hr (fun r_160 e_161 hr => ?_)
                refine rwS_iw (As := [.ref (ad 0), .int r_156, .int r_158]) (rest := []) ⟨hx, hb, hml, hown, hts⟩ (k_L_settles l D Y ad V r_156 r_158 r_160 e_161) (va_cwS 3 hts gL_acts_L_settles rfl rfl rfl (by decide +kernel) ⟨Nat.le_of_ble_eq_true rfl, Nat.le_of_ble_eq_true rfl⟩) hP hK hN hZ hD hS rfl rfl hl.1 rfl (Nat.le_of_ble_eq_true rfl) dL_acts_750 ⟨Nat.le_refl 0, Nat.le_refl 0⟩ (fun H locs hP hD hS => ?_)
                refine lv_if_eq (tgt := 760) hx hb dL_acts_753 (by decide) (fun c_162 => ?_) (fun c_162 => ?_)
                · have hr := hr.trans (if_pos c_162)
                  refine lv_iconst (v := (0 : Int32)) hx hb dL_acts_760 (by decide) ?_
                  have hr := Option.some.inj hr
                  subst hr
                  exact W.zret (ty := .boolean) hx hb hrt (by decide) (fun t ht hW => ⟨⟨_, (), rfl, rfl, by show va_P D vwCl _ t.heap; rw [ht]; exact hP⟩, hS.F ht⟩) hS.2.2 dL_acts_761
                · have hr := hr.trans (if_neg c_162)
                  exact B756 r_160.2 _ _ _ hr hP hD hS (lv_sub hl [] rfl)
            · have hr := hr.trans (if_neg c_152)
              refine lv_tableOut (tgt := 762) hx hb dL_acts_6 (by have z0 := lv_neT (k := (0 : Int32)) (a := 0) c_3 rfl; have z1 := lv_neT (k := (1 : Int32)) (a := 1) c_34 rfl; have z2 := lv_neT (k := (2 : Int32)) (a := 2) c_65 rfl; have z3 := lv_neT (k := (3 : Int32)) (a := 3) c_82 rfl; have z4 := lv_neT (k := (4 : Int32)) (a := 4) c_117 rfl; have z5 := lv_neT (k := (5 : Int32)) (a := 5) c_152 rfl; omega) (by decide) ?_
              refine lv_aload_n hx hb dL_acts_762 rfl (lv_at hl 0 rfl) ?_
              refine lv_iload_n hx hb dL_acts_763 rfl (lv_at hl 2 rfl) ?_
              refine lv_bipush (v := (12 : Int32)) hx hb dL_acts_764 (by decide) ?_
              refine bdv hr (fun r_163 e_164 hr => ?_)
              refine roS_i (As := [.int x2, .int (12 : Int32)]) (rest := [.ref (ad 0)]) ⟨hx, hb, hml, hown, hts⟩ (k_L_low l D Y  x2 (12 : Int32) r_163 e_164) (va_cwS 2 hts gL_acts_L_low rfl rfl rfl (by decide +kernel) ⟨Nat.le_of_ble_eq_true rfl, Nat.le_of_ble_eq_true rfl⟩) (hP.sub (ws' := []) [] rfl) hK hN (hZ.at hS).F rfl hl.1 rfl (Nat.le_of_ble_eq_true rfl) dL_acts_766 ⟨Nat.le_refl 0, Nat.le_refl 0⟩ ?_
              refine lv_iload_n hx hb dL_acts_769 rfl (lv_at hl 2 rfl) ?_
              refine lv_iconst (v := (4 : Int32)) hx hb dL_acts_770 (by decide) ?_
              refine lv_ishr hx hb dL_acts_771 ?_
              refine lv_iconst (v := (5 : Int32)) hx hb dL_acts_772 (by decide) ?_
              refine bdv hr (fun r_165 e_166 hr => ?_)
              refine roS_i (As := [.int (x2 >>> ((4 : Int32) &&& 31)), .int (5 : Int32)]) (rest := [.int r_163, .ref (ad 0)]) ⟨hx, hb, hml, hown, hts⟩ (k_L_low l D Y  (x2 >>> ((4 : Int32) &&& 31)) (5 : Int32) r_165 e_166) (va_cwS 2 hts gL_acts_L_low rfl rfl rfl (by decide +kernel) ⟨Nat.le_of_ble_eq_true rfl, Nat.le_of_ble_eq_true rfl⟩) (hP.sub (ws' := []) [] rfl) hK hN (hZ.at hS).F rfl hl.1 rfl (Nat.le_of_ble_eq_true rfl) dL_acts_773 ⟨Nat.le_refl 0, Nat.le_refl 0⟩ ?_
              refine bdv hr (fun r_167 e_168 hr => ?_)
              refine rwS_iw (As := [.ref (ad 0), .int r_163, .int r_165]) (rest := []) ⟨hx, hb, hml, hown, hts⟩ (k_L_tick l D Y ad V r_163 r_165 r_167 e_168) (va_cwS 3 hts gL_acts_L_tick rfl rfl rfl (by decide +kernel) ⟨Nat.le_of_ble_eq_true rfl, Nat.le_of_ble_eq_true rfl⟩) hP hK hN hZ hD hS rfl rfl hl.1 rfl (Nat.le_of_ble_eq_true rfl) dL_acts_776 ⟨Nat.le_refl 0, Nat.le_refl 0⟩ (fun H locs hP hD hS => ?_)
              refine gdv hr (fun g_169 hr => ?_)
              have hnz := nar_z g_169
              have hr := Option.some.inj hr
              subst hr
              exact W.zret (ty := .boolean) hx hb hrt hnz (fun t ht hW => ⟨⟨_, (), rfl, rfl, by show va_P D vwCl _ t.heap; rw [ht]; exact hP⟩, hS.F ht⟩) hS.2.2 dL_acts_779

set_option maxHeartbeats 4000000 in
set_option maxRecDepth 100000 in
theorem k_L_errors (l : Launch) (D : va_G) (Y : Nat → ClassId) (ad : Nat → Nat) (V : CarV) (R : Int32 × CarV) (hr : some R = mf_L_errors V) : Met l yL_errors wsL_errors ({ frames := 7, cells := 0, slots := 0, locals := 163 } : Room) (va_Pc [.ref (ad 0)] (PW D Y (carW Y ad V))) (va_Qi (S := Unit) (fun r _ => r = R.1) (fun _ t => va_P D vwCl (carW Y ad R.2) t.heap) (wA (carW Y ad V))) 0 0 (wA (carW Y ad V)) := by
  refine Met.ofW (cc := cL_errors) (maxL := 3) (ret := (some .boolean)) (by decide) rfl ?_
  intro p e s m args below meth c s₁ B hml hv
  obtain ⟨rfl, hP, hK, hN, hZ, hD⟩ := hv
  have hx := B.exec
  have hb := B.bytes
  have hrt := B.returns
  have hts := atoms_spec (ws := wsL_errors) B.pre
  have hown : s.vm.findClass RL = some m.cls := findClass_of_methodNamed B.named
  have hlocks := B.notSynchronized
  generalize hAe : wA (carW Y ad V) = A at hZ hD ⊢
  have hS : va_S A s.heap s.heap [] := va_S.rf
  have hl := lv_entry ([.ref (ad 0)]) (n := 3) (Nat.le_of_ble_eq_true rfl)
  rw [lg_entry_eq]
  generalize (lg_sl ([.ref (ad 0)]) ++ List.replicate (3 - (lg_sl ([.ref (ad 0)])).length) Slot.unset).toArray = ls at hl ⊢
  have hl : lv_has ls 3 [(0, .ref (ad 0))] := hl
  have B413 : ∀ (W0 : CarV) (y0 : Int32) (y1 : Int32) (H : Heap) (locs : List Loc) (ls : Array Slot), some R = mf_L_errors_B413 W0 y0 y1 → va_P D vwCl (carW Y ad W0) H → va_D A (carW Y ad W0) → va_S A s.heap H locs → lv_has ls 3 [] → W p l e ({ frames := 7, cells := 0, slots := 0, locals := 163 } : Room) s m ([.ref (ad 0)] : List Value).toArray below meth c H locs 0 0 (MQ below (va_Qi (S := Unit) (fun r _ => r = R.1) (fun _ t => va_P D vwCl (carW Y ad R.2) t.heap) A) ([.ref (ad 0)] : List Value).toArray s 0 0 A) (F0 m 413 ls [.int y0, .int y1]) := by
    intro W0 y0 y1 H locs ls hr hP hD hS hl
    rw [mf_L_errors_B413] at hr
    refine lv_icmp_ne (tgt := 420) hx hb dL_errors_413 (by decide) (fun c_29 => ?_) (fun c_29 => ?_)
    · have hr := hr.trans (if_neg c_29)
      refine lv_iconst (v := (0 : Int32)) hx hb dL_errors_420 (by decide) ?_
      have hr := Option.some.inj hr
      subst hr
      exact W.zret (ty := .boolean) hx hb hrt (by decide) (fun t ht hW => ⟨⟨_, (), rfl, rfl, by show va_P D vwCl _ t.heap; rw [ht]; exact hP⟩, hS.F ht⟩) hS.2.2 dL_errors_421
    · have hr := hr.trans (if_pos c_29)
      refine lv_iconst (v := (1 : Int32)) hx hb dL_errors_416 (by decide) ?_
      refine lv_goto (tgt := 421) hx hb dL_errors_417 (by decide) ?_
      have hr := Option.some.inj hr
      subst hr
      exact W.zret (ty := .boolean) hx hb hrt (by decide) (fun t ht hW => ⟨⟨_, (), rfl, rfl, by show va_P D vwCl _ t.heap; rw [ht]; exact hP⟩, hS.F ht⟩) hS.2.2 dL_errors_421
  have B385 : ∀ (W0 : CarV) (y0 : Int32) (H : Heap) (locs : List Loc) (ls : Array Slot), some R = mf_L_errors_B385 W0 y0 → va_P D vwCl (carW Y ad W0) H → va_D A (carW Y ad W0) → va_S A s.heap H locs → lv_has ls 3 [(0, .ref (ad 0))] → W p l e ({ frames := 7, cells := 0, slots := 0, locals := 163 } : Room) s m ([.ref (ad 0)] : List Value).toArray below meth c H locs 0 0 (MQ below (va_Qi (S := Unit) (fun r _ => r = R.1) (fun _ t => va_P D vwCl (carW Y ad R.2) t.heap) A) ([.ref (ad 0)] : List Value).toArray s 0 0 A) (F0 m 385 ls [.int y0]) := by
    intro W0 y0 H locs ls hr hP hD hS hl
    rw [mf_L_errors_B385] at hr
    refine lv_istore_n (lv' := [(1, .int y0), (0, .ref (ad 0))]) hx hb dL_errors_385 rfl hl (by decide) rfl (fun ls hl => ?_)
    refine lv_aload_n hx hb dL_errors_386 rfl (lv_at hl 1 rfl) ?_
    refine lv_bipush (v := (13 : Int32)) hx hb dL_errors_387 (by decide) ?_
    refine nmv hr (fun r_23 e_24 hr => ?_)
    refine roV_i (As := [.int (13 : Int32)]) (rest := []) ⟨hx, hb, hml, hown, hts⟩ (k_X5_count l D Y ad W0 (13 : Int32) r_23 e_24) (cwV 1 hts gL_errors_X5_count rfl rfl rfl (by decide +kernel) ⟨Nat.le_of_ble_eq_true rfl, Nat.le_of_ble_eq_true rfl⟩) hP hK hN (hZ.at hS).F 0 5 rfl rfl rfl hl.1 rfl (Nat.le_of_ble_eq_true rfl) dL_errors_389 ⟨Nat.le_refl 0, Nat.le_refl 0⟩ ?_
    refine lv_istore_n (lv' := [(2, .int r_23), (1, .int y0), (0, .ref (ad 0))]) hx hb dL_errors_392 rfl hl (by decide) rfl (fun ls hl => ?_)
    refine lv_iload_n hx hb dL_errors_393 rfl (lv_at hl 1 rfl) ?_
    refine lv_if_eq (tgt := 420) hx hb dL_errors_394 (by decide) (fun c_25 => ?_) (fun c_25 => ?_)
    · have hr := hr.trans (if_pos c_25)
      refine lv_iconst (v := (0 : Int32)) hx hb dL_errors_420 (by decide) ?_
      have hr := Option.some.inj hr
      subst hr
      exact W.zret (ty := .boolean) hx hb hrt (by decide) (fun t ht hW => ⟨⟨_, (), rfl, rfl, by show va_P D vwCl _ t.heap; rw [ht]; exact hP⟩, hS.F ht⟩) hS.2.2 dL_errors_421
    · have hr := hr.trans (if_neg c_25)
      refine lv_aload_n hx hb dL_errors_397 rfl (lv_at hl 2 rfl) ?_
      refine bdv hr (fun r_26 e_27 hr => ?_)
      refine rwV_iw (As := []) (rest := []) ⟨hx, hb, hml, hown, hts⟩ (k_X5_undo l D Y ad W0 r_26 e_27) (cwV 0 hts gL_errors_X5_undo rfl rfl rfl (by decide +kernel) ⟨Nat.le_of_ble_eq_true rfl, Nat.le_of_ble_eq_true rfl⟩) hP hK hN hZ hD hS rfl 0 5 rfl rfl rfl hl.1 rfl (Nat.le_of_ble_eq_true rfl) dL_errors_398 ⟨Nat.le_refl 0, Nat.le_refl 0⟩ (fun H locs hP hD hS => ?_)
      refine lv_iload_n hx hb dL_errors_401 rfl (lv_at hl 0 rfl) ?_
      refine lv_if_le (tgt := 411) hx hb dL_errors_402 (by decide) (fun c_28 => ?_) (fun c_28 => ?_)
      · have hr := hr.trans (if_pos c_28)
        refine lv_bipush (v := (-5 : Int32)) hx hb dL_errors_411 (by decide) ?_
        exact B413 r_26.2 (-5 : Int32) r_26.1 _ _ _ hr hP hD hS (lv_sub hl [] rfl)
      · have hr := hr.trans (if_neg c_28)
        refine lv_iload_n hx hb dL_errors_405 rfl (lv_at hl 0 rfl) ?_
        refine lv_iconst (v := (1 : Int32)) hx hb dL_errors_406 (by decide) ?_
        refine lv_isub hx hb dL_errors_407 ?_
        refine lv_goto (tgt := 413) hx hb dL_errors_408 (by decide) ?_
        exact B413 r_26.2 (r_23 - (1 : Int32)) r_26.1 _ _ _ hr hP hD hS (lv_sub hl [] rfl)
  have B384 : ∀ (W0 : CarV) (H : Heap) (locs : List Loc) (ls : Array Slot), some R = mf_L_errors_B384 W0 → va_P D vwCl (carW Y ad W0) H → va_D A (carW Y ad W0) → va_S A s.heap H locs → lv_has ls 3 [(0, .ref (ad 0))] → W p l e ({ frames := 7, cells := 0, slots := 0, locals := 163 } : Room) s m ([.ref (ad 0)] : List Value).toArray below meth c H locs 0 0 (MQ below (va_Qi (S := Unit) (fun r _ => r = R.1) (fun _ t => va_P D vwCl (carW Y ad R.2) t.heap) A) ([.ref (ad 0)] : List Value).toArray s 0 0 A) (F0 m 384 ls []) := by
    intro W0 H locs ls hr hP hD hS hl
    rw [mf_L_errors_B384] at hr
    refine lv_iconst (v := (0 : Int32)) hx hb dL_errors_384 (by decide) ?_
    exact B385 W0 (0 : Int32) _ _ _ hr hP hD hS (lv_sub hl [0] rfl)
  have B328 : ∀ (W0 : CarV) (y0 : Int32) (H : Heap) (locs : List Loc) (ls : Array Slot), some R = mf_L_errors_B328 W0 y0 → va_P D vwCl (carW Y ad W0) H → va_D A (carW Y ad W0) → va_S A s.heap H locs → lv_has ls 3 [(0, .ref (ad 0))] → W p l e ({ frames := 7, cells := 0, slots := 0, locals := 163 } : Room) s m ([.ref (ad 0)] : List Value).toArray below meth c H locs 0 0 (MQ below (va_Qi (S := Unit) (fun r _ => r = R.1) (fun _ t => va_P D vwCl (carW Y ad R.2) t.heap) A) ([.ref (ad 0)] : List Value).toArray s 0 0 A) (F0 m 328 ls [.int y0]) := by
    intro W0 y0 H locs ls hr hP hD hS hl
    rw [mf_L_errors_B328] at hr
    refine lv_istore_n (lv' := [(1, .int y0), (0, .ref (ad 0))]) hx hb dL_errors_328 rfl hl (by decide) rfl (fun ls hl => ?_)
    refine lv_aload_n hx hb dL_errors_329 rfl (lv_at hl 1 rfl) ?_
    refine lv_bipush (v := (53 : Int32)) hx hb dL_errors_330 (by decide) ?_
    refine nmv hr (fun r_14 e_15 hr => ?_)
    refine rwV_iw (As := [.int (53 : Int32)]) (rest := []) ⟨hx, hb, hml, hown, hts⟩ (k_X5_type l D Y ad W0 (53 : Int32) r_14 e_15) (cwV 1 hts gL_errors_X5_type rfl rfl rfl (by decide +kernel) ⟨Nat.le_of_ble_eq_true rfl, Nat.le_of_ble_eq_true rfl⟩) hP hK hN hZ hD hS rfl 0 5 rfl rfl rfl hl.1 rfl (Nat.le_of_ble_eq_true rfl) dL_errors_332 ⟨Nat.le_refl 0, Nat.le_refl 0⟩ (fun H locs hP hD hS => ?_)
    refine lv_pop hx hb dL_errors_335 rfl ?_
    refine lv_aload_n hx hb dL_errors_336 rfl (lv_at hl 1 rfl) ?_
    refine lv_bipush (v := (44 : Int32)) hx hb dL_errors_337 (by decide) ?_
    refine nmv hr (fun r_16 e_17 hr => ?_)
    refine rwV_iw (As := [.int (44 : Int32)]) (rest := []) ⟨hx, hb, hml, hown, hts⟩ (k_X5_type l D Y ad r_14.2 (44 : Int32) r_16 e_17) (cwV 1 hts gL_errors_X5_type rfl rfl rfl (by decide +kernel) ⟨Nat.le_of_ble_eq_true rfl, Nat.le_of_ble_eq_true rfl⟩) hP hK hN hZ hD hS rfl 0 5 rfl rfl rfl hl.1 rfl (Nat.le_of_ble_eq_true rfl) dL_errors_339 ⟨Nat.le_refl 0, Nat.le_refl 0⟩ (fun H locs hP hD hS => ?_)
    refine lv_pop hx hb dL_errors_342 rfl ?_
    refine lv_aload_n hx hb dL_errors_343 rfl (lv_at hl 1 rfl) ?_
    refine lv_bipush (v := (53 : Int32)) hx hb dL_errors_344 (by decide) ?_
    refine nmv hr (fun r_18 e_19 hr => ?_)
    refine rwV_iw (As := [.int (53 : Int32)]) (rest := []) ⟨hx, hb, hml, hown, hts⟩ (k_X5_type l D Y ad r_16.2 (53 : Int32) r_18 e_19) (cwV 1 hts gL_errors_X5_type rfl rfl rfl (by decide +kernel) ⟨Nat.le_of_ble_eq_true rfl, Nat.le_of_ble_eq_true rfl⟩) hP hK hN hZ hD hS rfl 0 5 rfl rfl rfl hl.1 rfl (Nat.le_of_ble_eq_true rfl) dL_errors_346 ⟨Nat.le_refl 0, Nat.le_refl 0⟩ (fun H locs hP hD hS => ?_)
    refine lv_pop hx hb dL_errors_349 rfl ?_
    refine lv_aload_n hx hb dL_errors_350 rfl (lv_at hl 1 rfl) ?_
    refine lv_bipush (v := (42 : Int32)) hx hb dL_errors_351 (by decide) ?_
    refine nmv hr (fun r_20 e_21 hr => ?_)
    refine rwV_iw (As := [.int (42 : Int32)]) (rest := []) ⟨hx, hb, hml, hown, hts⟩ (k_X5_type l D Y ad r_18.2 (42 : Int32) r_20 e_21) (cwV 1 hts gL_errors_X5_type rfl rfl rfl (by decide +kernel) ⟨Nat.le_of_ble_eq_true rfl, Nat.le_of_ble_eq_true rfl⟩) hP hK hN hZ hD hS rfl 0 5 rfl rfl rfl hl.1 rfl (Nat.le_of_ble_eq_true rfl) dL_errors_353 ⟨Nat.le_refl 0, Nat.le_refl 0⟩ (fun H locs hP hD hS => ?_)
    refine lv_pop hx hb dL_errors_356 rfl ?_
    refine lv_iload_n hx hb dL_errors_357 rfl (lv_at hl 0 rfl) ?_
    refine lv_if_eq (tgt := 384) hx hb dL_errors_358 (by decide) (fun c_22 => ?_) (fun c_22 => ?_)
    · have hr := hr.trans (if_pos c_22)
      exact B384 r_20.2 _ _ _ hr hP hD hS (lv_sub hl [1] rfl)
    · have hr := hr.trans (if_neg c_22)
      refine lv_aload_n hx hb dL_errors_361 rfl (lv_at hl 1 rfl) ?_
      refine bdv hr (fun r_30 e_31 hr => ?_)
      refine rwV_iw (As := []) (rest := []) ⟨hx, hb, hml, hown, hts⟩ (k_X5_readDrive l D Y ad r_20.2 r_30 e_31) (cwV 0 hts gL_errors_X5_readDrive rfl rfl rfl (by decide +kernel) ⟨Nat.le_of_ble_eq_true rfl, Nat.le_of_ble_eq_true rfl⟩) hP hK hN hZ hD hS rfl 0 5 rfl rfl rfl hl.1 rfl (Nat.le_of_ble_eq_true rfl) dL_errors_362 ⟨Nat.le_refl 0, Nat.le_refl 0⟩ (fun H locs hP hD hS => ?_)
      refine lv_bipush (v := (-104 : Int32)) hx hb dL_errors_365 (by decide) ?_
      refine lv_icmp_ne (tgt := 384) hx hb dL_errors_367 (by decide) (fun c_32 => ?_) (fun c_32 => ?_)
      · have hr := hr.trans (if_neg c_32)
        exact B384 r_30.2 _ _ _ hr hP hD hS (lv_sub hl [1] rfl)
      · have hr := hr.trans (if_pos c_32)
        refine lv_aload_n hx hb dL_errors_370 rfl (lv_at hl 1 rfl) ?_
        refine lv_bipush (v := (14 : Int32)) hx hb dL_errors_371 (by decide) ?_
        refine nmv hr (fun r_33 e_34 hr => ?_)
        refine roV_i (As := [.int (14 : Int32)]) (rest := []) ⟨hx, hb, hml, hown, hts⟩ (k_X5_count l D Y ad r_30.2 (14 : Int32) r_33 e_34) (cwV 1 hts gL_errors_X5_count rfl rfl rfl (by decide +kernel) ⟨Nat.le_of_ble_eq_true rfl, Nat.le_of_ble_eq_true rfl⟩) hP hK hN (hZ.at hS).F 0 5 rfl rfl rfl hl.1 rfl (Nat.le_of_ble_eq_true rfl) dL_errors_373 ⟨Nat.le_refl 0, Nat.le_refl 0⟩ ?_
        refine lv_iconst (v := (4 : Int32)) hx hb dL_errors_376 (by decide) ?_
        refine lv_icmp_ne (tgt := 384) hx hb dL_errors_377 (by decide) (fun c_35 => ?_) (fun c_35 => ?_)
        · have hr := hr.trans (if_neg c_35)
          exact B384 r_30.2 _ _ _ hr hP hD hS (lv_sub hl [1] rfl)
        · have hr := hr.trans (if_pos c_35)
          refine lv_iconst (v := (1 : Int32)) hx hb dL_errors_380 (by decide) ?_
          refine lv_goto (tgt := 385) hx hb dL_errors_381 (by decide) ?_
          exact B385 r_30.2 (1 : Int32) _ _ _ hr hP hD hS (lv_sub hl [1] rfl)
  have B327 : ∀ (W0 : CarV) (H : Heap) (locs : List Loc) (ls : Array Slot), some R = mf_L_errors_B327 W0 → va_P D vwCl (carW Y ad W0) H → va_D A (carW Y ad W0) → va_S A s.heap H locs → lv_has ls 3 [(0, .ref (ad 0))] → W p l e ({ frames := 7, cells := 0, slots := 0, locals := 163 } : Room) s m ([.ref (ad 0)] : List Value).toArray below meth c H locs 0 0 (MQ below (va_Qi (S := Unit) (fun r _ => r = R.1) (fun _ t => va_P D vwCl (carW Y ad R.2) t.heap) A) ([.ref (ad 0)] : List Value).toArray s 0 0 A) (F0 m 327 ls []) := by
    intro W0 H locs ls hr hP hD hS hl
    rw [mf_L_errors_B327] at hr
    refine lv_iconst (v := (0 : Int32)) hx hb dL_errors_327 (by decide) ?_
    exact B328 W0 (0 : Int32) _ _ _ hr hP hD hS (lv_sub hl [0] rfl)
  have B280 : ∀ (W0 : CarV) (y0 : Int32) (H : Heap) (locs : List Loc) (ls : Array Slot), some R = mf_L_errors_B280 W0 y0 → va_P D vwCl (carW Y ad W0) H → va_D A (carW Y ad W0) → va_S A s.heap H locs → lv_has ls 3 [(0, .ref (ad 0))] → W p l e ({ frames := 7, cells := 0, slots := 0, locals := 163 } : Room) s m ([.ref (ad 0)] : List Value).toArray below meth c H locs 0 0 (MQ below (va_Qi (S := Unit) (fun r _ => r = R.1) (fun _ t => va_P D vwCl (carW Y ad R.2) t.heap) A) ([.ref (ad 0)] : List Value).toArray s 0 0 A) (F0 m 280 ls [.int y0]) := by
    intro W0 y0 H locs ls hr hP hD hS hl
    rw [mf_L_errors_B280] at hr
    refine lv_istore_n (lv' := [(1, .int y0), (0, .ref (ad 0))]) hx hb dL_errors_280 rfl hl (by decide) rfl (fun ls hl => ?_)
    refine lv_aload_n hx hb dL_errors_281 rfl (lv_at hl 1 rfl) ?_
    refine lv_bipush (v := (51 : Int32)) hx hb dL_errors_282 (by decide) ?_
    refine nmv hr (fun r_7 e_8 hr => ?_)
    refine rwV_iw (As := [.int (51 : Int32)]) (rest := []) ⟨hx, hb, hml, hown, hts⟩ (k_X5_type l D Y ad W0 (51 : Int32) r_7 e_8) (cwV 1 hts gL_errors_X5_type rfl rfl rfl (by decide +kernel) ⟨Nat.le_of_ble_eq_true rfl, Nat.le_of_ble_eq_true rfl⟩) hP hK hN hZ hD hS rfl 0 5 rfl rfl rfl hl.1 rfl (Nat.le_of_ble_eq_true rfl) dL_errors_284 ⟨Nat.le_refl 0, Nat.le_refl 0⟩ (fun H locs hP hD hS => ?_)
    refine lv_pop hx hb dL_errors_287 rfl ?_
    refine lv_aload_n hx hb dL_errors_288 rfl (lv_at hl 1 rfl) ?_
    refine lv_bipush (v := (48 : Int32)) hx hb dL_errors_289 (by decide) ?_
    refine nmv hr (fun r_9 e_10 hr => ?_)
    refine rwV_iw (As := [.int (48 : Int32)]) (rest := []) ⟨hx, hb, hml, hown, hts⟩ (k_X5_type l D Y ad r_7.2 (48 : Int32) r_9 e_10) (cwV 1 hts gL_errors_X5_type rfl rfl rfl (by decide +kernel) ⟨Nat.le_of_ble_eq_true rfl, Nat.le_of_ble_eq_true rfl⟩) hP hK hN hZ hD hS rfl 0 5 rfl rfl rfl hl.1 rfl (Nat.le_of_ble_eq_true rfl) dL_errors_291 ⟨Nat.le_refl 0, Nat.le_refl 0⟩ (fun H locs hP hD hS => ?_)
    refine lv_pop hx hb dL_errors_294 rfl ?_
    refine lv_aload_n hx hb dL_errors_295 rfl (lv_at hl 1 rfl) ?_
    refine lv_bipush (v := (49 : Int32)) hx hb dL_errors_296 (by decide) ?_
    refine nmv hr (fun r_11 e_12 hr => ?_)
    refine rwV_iw (As := [.int (49 : Int32)]) (rest := []) ⟨hx, hb, hml, hown, hts⟩ (k_X5_type l D Y ad r_9.2 (49 : Int32) r_11 e_12) (cwV 1 hts gL_errors_X5_type rfl rfl rfl (by decide +kernel) ⟨Nat.le_of_ble_eq_true rfl, Nat.le_of_ble_eq_true rfl⟩) hP hK hN hZ hD hS rfl 0 5 rfl rfl rfl hl.1 rfl (Nat.le_of_ble_eq_true rfl) dL_errors_298 ⟨Nat.le_refl 0, Nat.le_refl 0⟩ (fun H locs hP hD hS => ?_)
    refine lv_pop hx hb dL_errors_301 rfl ?_
    refine lv_iload_n hx hb dL_errors_302 rfl (lv_at hl 0 rfl) ?_
    refine lv_if_eq (tgt := 327) hx hb dL_errors_303 (by decide) (fun c_13 => ?_) (fun c_13 => ?_)
    · have hr := hr.trans (if_pos c_13)
      exact B327 r_11.2 _ _ _ hr hP hD hS (lv_sub hl [1] rfl)
    · have hr := hr.trans (if_neg c_13)
      refine lv_aload_n hx hb dL_errors_306 rfl (lv_at hl 1 rfl) ?_
      refine bdv hr (fun r_36 e_37 hr => ?_)
      refine rwV_iw (As := []) (rest := []) ⟨hx, hb, hml, hown, hts⟩ (k_X5_readDrive l D Y ad r_11.2 r_36 e_37) (cwV 0 hts gL_errors_X5_readDrive rfl rfl rfl (by decide +kernel) ⟨Nat.le_of_ble_eq_true rfl, Nat.le_of_ble_eq_true rfl⟩) hP hK hN hZ hD hS rfl 0 5 rfl rfl rfl hl.1 rfl (Nat.le_of_ble_eq_true rfl) dL_errors_307 ⟨Nat.le_refl 0, Nat.le_refl 0⟩ (fun H locs hP hD hS => ?_)
      refine lv_bipush (v := (-102 : Int32)) hx hb dL_errors_310 (by decide) ?_
      refine lv_icmp_ne (tgt := 327) hx hb dL_errors_312 (by decide) (fun c_38 => ?_) (fun c_38 => ?_)
      · have hr := hr.trans (if_neg c_38)
        exact B327 r_36.2 _ _ _ hr hP hD hS (lv_sub hl [1] rfl)
      · have hr := hr.trans (if_pos c_38)
        refine lv_aload_n hx hb dL_errors_315 rfl (lv_at hl 1 rfl) ?_
        refine nmv hr (fun r_39 e_40 hr => ?_)
        refine rwV_iw (As := []) (rest := []) ⟨hx, hb, hml, hown, hts⟩ (k_X5_clearText l D Y ad r_36.2 r_39 e_40) (cwV 0 hts gL_errors_X5_clearText rfl rfl rfl (by decide +kernel) ⟨Nat.le_of_ble_eq_true rfl, Nat.le_of_ble_eq_true rfl⟩) hP hK hN hZ hD hS rfl 0 5 rfl rfl rfl hl.1 rfl (Nat.le_of_ble_eq_true rfl) dL_errors_316 ⟨Nat.le_refl 0, Nat.le_refl 0⟩ (fun H locs hP hD hS => ?_)
        refine lv_iconst (v := (3 : Int32)) hx hb dL_errors_319 (by decide) ?_
        refine lv_icmp_ne (tgt := 327) hx hb dL_errors_320 (by decide) (fun c_41 => ?_) (fun c_41 => ?_)
        · have hr := hr.trans (if_neg c_41)
          exact B327 r_39.2 _ _ _ hr hP hD hS (lv_sub hl [1] rfl)
        · have hr := hr.trans (if_pos c_41)
          refine lv_iconst (v := (1 : Int32)) hx hb dL_errors_323 (by decide) ?_
          refine lv_goto (tgt := 328) hx hb dL_errors_324 (by decide) ?_
          exact B328 r_39.2 (1 : Int32) _ _ _ hr hP hD hS (lv_sub hl [1] rfl)
  have B279 : ∀ (W0 : CarV) (H : Heap) (locs : List Loc) (ls : Array Slot), some R = mf_L_errors_B279 W0 → va_P D vwCl (carW Y ad W0) H → va_D A (carW Y ad W0) → va_S A s.heap H locs → lv_has ls 3 [(0, .ref (ad 0))] → W p l e ({ frames := 7, cells := 0, slots := 0, locals := 163 } : Room) s m ([.ref (ad 0)] : List Value).toArray below meth c H locs 0 0 (MQ below (va_Qi (S := Unit) (fun r _ => r = R.1) (fun _ t => va_P D vwCl (carW Y ad R.2) t.heap) A) ([.ref (ad 0)] : List Value).toArray s 0 0 A) (F0 m 279 ls []) := by
    intro W0 H locs ls hr hP hD hS hl
    rw [mf_L_errors_B279] at hr
    refine lv_iconst (v := (0 : Int32)) hx hb dL_errors_279 (by decide) ?_
    exact B280 W0 (0 : Int32) _ _ _ hr hP hD hS (lv_sub hl [0] rfl)
  have B256 : ∀ (W0 : CarV) (y0 : Int32) (H : Heap) (locs : List Loc) (ls : Array Slot), some R = mf_L_errors_B256 W0 y0 → va_P D vwCl (carW Y ad W0) H → va_D A (carW Y ad W0) → va_S A s.heap H locs → lv_has ls 3 [(0, .ref (ad 0))] → W p l e ({ frames := 7, cells := 0, slots := 0, locals := 163 } : Room) s m ([.ref (ad 0)] : List Value).toArray below meth c H locs 0 0 (MQ below (va_Qi (S := Unit) (fun r _ => r = R.1) (fun _ t => va_P D vwCl (carW Y ad R.2) t.heap) A) ([.ref (ad 0)] : List Value).toArray s 0 0 A) (F0 m 256 ls [.int y0]) := by
    intro W0 y0 H locs ls hr hP hD hS hl
    rw [mf_L_errors_B256] at hr
    refine lv_istore_n (lv' := [(1, .int y0), (0, .ref (ad 0))]) hx hb dL_errors_256 rfl hl (by decide) rfl (fun ls hl => ?_)
    refine lv_aload_n hx hb dL_errors_257 rfl (lv_at hl 1 rfl) ?_
    refine nmv hr (fun r_4 e_5 hr => ?_)
    refine rwV_iw (As := []) (rest := []) ⟨hx, hb, hml, hown, hts⟩ (k_X5_clearText l D Y ad W0 r_4 e_5) (cwV 0 hts gL_errors_X5_clearText rfl rfl rfl (by decide +kernel) ⟨Nat.le_of_ble_eq_true rfl, Nat.le_of_ble_eq_true rfl⟩) hP hK hN hZ hD hS rfl 0 5 rfl rfl rfl hl.1 rfl (Nat.le_of_ble_eq_true rfl) dL_errors_258 ⟨Nat.le_refl 0, Nat.le_refl 0⟩ (fun H locs hP hD hS => ?_)
    refine lv_pop hx hb dL_errors_261 rfl ?_
    refine lv_iload_n hx hb dL_errors_262 rfl (lv_at hl 0 rfl) ?_
    refine lv_if_eq (tgt := 279) hx hb dL_errors_263 (by decide) (fun c_6 => ?_) (fun c_6 => ?_)
    · have hr := hr.trans (if_pos c_6)
      exact B279 r_4.2 _ _ _ hr hP hD hS (lv_sub hl [1] rfl)
    · have hr := hr.trans (if_neg c_6)
      refine lv_aload_n hx hb dL_errors_266 rfl (lv_at hl 1 rfl) ?_
      refine bdv hr (fun r_42 e_43 hr => ?_)
      refine rwV_iw (As := []) (rest := []) ⟨hx, hb, hml, hown, hts⟩ (k_X5_readDrive l D Y ad r_4.2 r_42 e_43) (cwV 0 hts gL_errors_X5_readDrive rfl rfl rfl (by decide +kernel) ⟨Nat.le_of_ble_eq_true rfl, Nat.le_of_ble_eq_true rfl⟩) hP hK hN hZ hD hS rfl 0 5 rfl rfl rfl hl.1 rfl (Nat.le_of_ble_eq_true rfl) dL_errors_267 ⟨Nat.le_refl 0, Nat.le_refl 0⟩ (fun H locs hP hD hS => ?_)
      refine lv_bipush (v := (-100 : Int32)) hx hb dL_errors_270 (by decide) ?_
      refine lv_icmp_ne (tgt := 279) hx hb dL_errors_272 (by decide) (fun c_44 => ?_) (fun c_44 => ?_)
      · have hr := hr.trans (if_neg c_44)
        exact B279 r_42.2 _ _ _ hr hP hD hS (lv_sub hl [1] rfl)
      · have hr := hr.trans (if_pos c_44)
        refine lv_iconst (v := (1 : Int32)) hx hb dL_errors_275 (by decide) ?_
        refine lv_goto (tgt := 280) hx hb dL_errors_276 (by decide) ?_
        exact B280 r_42.2 (1 : Int32) _ _ _ hr hP hD hS (lv_sub hl [1] rfl)
  have B255 : ∀ (W0 : CarV) (H : Heap) (locs : List Loc) (ls : Array Slot), some R = mf_L_errors_B255 W0 → va_P D vwCl (carW Y ad W0) H → va_D A (carW Y ad W0) → va_S A s.heap H locs → lv_has ls 3 [(0, .ref (ad 0))] → W p l e ({ frames := 7, cells := 0, slots := 0, locals := 163 } : Room) s m ([.ref (ad 0)] : List Value).toArray below meth c H locs 0 0 (MQ below (va_Qi (S := Unit) (fun r _ => r = R.1) (fun _ t => va_P D vwCl (carW Y ad R.2) t.heap) A) ([.ref (ad 0)] : List Value).toArray s 0 0 A) (F0 m 255 ls []) := by
    intro W0 H locs ls hr hP hD hS hl
    rw [mf_L_errors_B255] at hr
    refine lv_iconst (v := (0 : Int32)) hx hb dL_errors_255 (by decide) ?_
    exact B256 W0 (0 : Int32) _ _ _ hr hP hD hS (lv_sub hl [0] rfl)
  rw [mf_L_errors] at hr
  suffices KK : ∀ (H : Heap) (locs : List Loc), va_P D vwCl (carW Y ad V) H → va_S A s.heap H locs → W p l e ({ frames := 7, cells := 0, slots := 0, locals := 163 } : Room) s m ([.ref (ad 0)] : List Value).toArray below meth c H locs 0 0 (MQ below (va_Qi (S := Unit) (fun r _ => r = R.1) (fun _ t => va_P D vwCl (carW Y ad R.2) t.heap) A) ([.ref (ad 0)] : List Value).toArray s 0 0 A) (F0 m 0 ls []) from KK _ _ hP hS
  intro H locs hP hS
  refine lv_aload_n hx hb dL_errors_0 rfl (lv_at hl 0 rfl) ?_
  refine lv_iconst (v := (0 : Int32)) hx hb dL_errors_1 (by decide) ?_
  refine lv_iconst (v := (4 : Int32)) hx hb dL_errors_2 (by decide) ?_
  refine lv_iconst (v := (0 : Int32)) hx hb dL_errors_3 (by decide) ?_
  refine bdv hr (fun r_1 e_2 hr => ?_)
  refine rwV_iw (As := [.int (0 : Int32), .int (4 : Int32), .int (0 : Int32)]) (rest := []) ⟨hx, hb, hml, hown, hts⟩ (k_X5_setMap l D Y ad V (0 : Int32) (4 : Int32) (0 : Int32) r_1 e_2) (cwV 3 hts gL_errors_X5_setMap rfl rfl rfl (by decide +kernel) ⟨Nat.le_of_ble_eq_true rfl, Nat.le_of_ble_eq_true rfl⟩) hP hK hN hZ hD hS rfl 0 5 rfl rfl rfl hl.1 rfl (Nat.le_of_ble_eq_true rfl) dL_errors_4 ⟨Nat.le_refl 0, Nat.le_refl 0⟩ (fun H locs hP hD hS => ?_)
  refine lv_bipush (v := (-2 : Int32)) hx hb dL_errors_7 (by decide) ?_
  refine lv_icmp_ne (tgt := 255) hx hb dL_errors_9 (by decide) (fun c_3 => ?_) (fun c_3 => ?_)
  · have hr := hr.trans (if_neg c_3)
    exact B255 r_1.2 _ _ _ hr hP hD hS (lv_sub hl [0] rfl)
  · have hr := hr.trans (if_pos c_3)
    refine lv_aload_n hx hb dL_errors_12 rfl (lv_at hl 0 rfl) ?_
    refine lv_iconst (v := (0 : Int32)) hx hb dL_errors_13 (by decide) ?_
    refine lv_iconst (v := (0 : Int32)) hx hb dL_errors_14 (by decide) ?_
    refine lv_iconst (v := (0 : Int32)) hx hb dL_errors_15 (by decide) ?_
    refine bdv hr (fun r_45 e_46 hr => ?_)
    refine rwV_iw (As := [.int (0 : Int32), .int (0 : Int32), .int (0 : Int32)]) (rest := []) ⟨hx, hb, hml, hown, hts⟩ (k_X5_setMap l D Y ad r_1.2 (0 : Int32) (0 : Int32) (0 : Int32) r_45 e_46) (cwV 3 hts gL_errors_X5_setMap rfl rfl rfl (by decide +kernel) ⟨Nat.le_of_ble_eq_true rfl, Nat.le_of_ble_eq_true rfl⟩) hP hK hN hZ hD hS rfl 0 5 rfl rfl rfl hl.1 rfl (Nat.le_of_ble_eq_true rfl) dL_errors_16 ⟨Nat.le_refl 0, Nat.le_refl 0⟩ (fun H locs hP hD hS => ?_)
    refine lv_iconst (v := (-1 : Int32)) hx hb dL_errors_19 (by decide) ?_
    refine lv_icmp_ne (tgt := 255) hx hb dL_errors_20 (by decide) (fun c_47 => ?_) (fun c_47 => ?_)
    · have hr := hr.trans (if_neg c_47)
      exact B255 r_45.2 _ _ _ hr hP hD hS (lv_sub hl [0] rfl)
    · have hr := hr.trans (if_pos c_47)
      refine lv_aload_n hx hb dL_errors_23 rfl (lv_at hl 0 rfl) ?_
      refine lv_iconst (v := (5 : Int32)) hx hb dL_errors_24 (by decide) ?_
      refine lv_iconst (v := (2 : Int32)) hx hb dL_errors_25 (by decide) ?_
      refine lv_iconst (v := (0 : Int32)) hx hb dL_errors_26 (by decide) ?_
      refine bdv hr (fun r_48 e_49 hr => ?_)
      refine rwV_iw (As := [.int (5 : Int32), .int (2 : Int32), .int (0 : Int32)]) (rest := []) ⟨hx, hb, hml, hown, hts⟩ (k_X5_setMap l D Y ad r_45.2 (5 : Int32) (2 : Int32) (0 : Int32) r_48 e_49) (cwV 3 hts gL_errors_X5_setMap rfl rfl rfl (by decide +kernel) ⟨Nat.le_of_ble_eq_true rfl, Nat.le_of_ble_eq_true rfl⟩) hP hK hN hZ hD hS rfl 0 5 rfl rfl rfl hl.1 rfl (Nat.le_of_ble_eq_true rfl) dL_errors_27 ⟨Nat.le_refl 0, Nat.le_refl 0⟩ (fun H locs hP hD hS => ?_)
      refine lv_iconst (v := (-1 : Int32)) hx hb dL_errors_30 (by decide) ?_
      refine lv_icmp_ne (tgt := 255) hx hb dL_errors_31 (by decide) (fun c_50 => ?_) (fun c_50 => ?_)
      · have hr := hr.trans (if_neg c_50)
        exact B255 r_48.2 _ _ _ hr hP hD hS (lv_sub hl [0] rfl)
      · have hr := hr.trans (if_pos c_50)
        refine lv_aload_n hx hb dL_errors_34 rfl (lv_at hl 0 rfl) ?_
        refine lv_bipush (v := (6 : Int32)) hx hb dL_errors_35 (by decide) ?_
        refine lv_iconst (v := (3 : Int32)) hx hb dL_errors_37 (by decide) ?_
        refine lv_iconst (v := (0 : Int32)) hx hb dL_errors_38 (by decide) ?_
        refine bdv hr (fun r_51 e_52 hr => ?_)
        refine rwV_iw (As := [.int (6 : Int32), .int (3 : Int32), .int (0 : Int32)]) (rest := []) ⟨hx, hb, hml, hown, hts⟩ (k_X5_setMap l D Y ad r_48.2 (6 : Int32) (3 : Int32) (0 : Int32) r_51 e_52) (cwV 3 hts gL_errors_X5_setMap rfl rfl rfl (by decide +kernel) ⟨Nat.le_of_ble_eq_true rfl, Nat.le_of_ble_eq_true rfl⟩) hP hK hN hZ hD hS rfl 0 5 rfl rfl rfl hl.1 rfl (Nat.le_of_ble_eq_true rfl) dL_errors_39 ⟨Nat.le_refl 0, Nat.le_refl 0⟩ (fun H locs hP hD hS => ?_)
        refine lv_iconst (v := (-1 : Int32)) hx hb dL_errors_42 (by decide) ?_
        refine lv_icmp_ne (tgt := 255) hx hb dL_errors_43 (by decide) (fun c_53 => ?_) (fun c_53 => ?_)
        · have hr := hr.trans (if_neg c_53)
          exact B255 r_51.2 _ _ _ hr hP hD hS (lv_sub hl [0] rfl)
        · have hr := hr.trans (if_pos c_53)
          refine lv_aload_n hx hb dL_errors_46 rfl (lv_at hl 0 rfl) ?_
          refine lv_iconst (v := (1 : Int32)) hx hb dL_errors_47 (by decide) ?_
          refine lv_iconst (v := (0 : Int32)) hx hb dL_errors_48 (by decide) ?_
          refine lv_ldc hx hb hown (hts (.constant RL 128 (-2147483648)) (List.mem_of_getElem? (i := 1) rfl)) dL_errors_49 ?_
          refine bdv hr (fun r_54 e_55 hr => ?_)
          refine rwV_iw (As := [.int (1 : Int32), .int (0 : Int32), .int (-2147483648 : Int32)]) (rest := []) ⟨hx, hb, hml, hown, hts⟩ (k_X5_setMap l D Y ad r_51.2 (1 : Int32) (0 : Int32) (-2147483648 : Int32) r_54 e_55) (cwV 3 hts gL_errors_X5_setMap rfl rfl rfl (by decide +kernel) ⟨Nat.le_of_ble_eq_true rfl, Nat.le_of_ble_eq_true rfl⟩) hP hK hN hZ hD hS rfl 0 5 rfl rfl rfl hl.1 rfl (Nat.le_of_ble_eq_true rfl) dL_errors_51 ⟨Nat.le_refl 0, Nat.le_refl 0⟩ (fun H locs hP hD hS => ?_)
          refine lv_bipush (v := (-2 : Int32)) hx hb dL_errors_54 (by decide) ?_
          refine lv_icmp_ne (tgt := 255) hx hb dL_errors_56 (by decide) (fun c_56 => ?_) (fun c_56 => ?_)
          · have hr := hr.trans (if_neg c_56)
            exact B255 r_54.2 _ _ _ hr hP hD hS (lv_sub hl [0] rfl)
          · have hr := hr.trans (if_pos c_56)
            refine lv_aload_n hx hb dL_errors_59 rfl (lv_at hl 0 rfl) ?_
            refine lv_iconst (v := (1 : Int32)) hx hb dL_errors_60 (by decide) ?_
            refine lv_iconst (v := (0 : Int32)) hx hb dL_errors_61 (by decide) ?_
            refine lv_ldc hx hb hown (hts (.constant RL 129 (1133903873)) (List.mem_of_getElem? (i := 2) rfl)) dL_errors_62 ?_
            refine bdv hr (fun r_57 e_58 hr => ?_)
            refine rwV_iw (As := [.int (1 : Int32), .int (0 : Int32), .int (1133903873 : Int32)]) (rest := []) ⟨hx, hb, hml, hown, hts⟩ (k_X5_setMap l D Y ad r_54.2 (1 : Int32) (0 : Int32) (1133903873 : Int32) r_57 e_58) (cwV 3 hts gL_errors_X5_setMap rfl rfl rfl (by decide +kernel) ⟨Nat.le_of_ble_eq_true rfl, Nat.le_of_ble_eq_true rfl⟩) hP hK hN hZ hD hS rfl 0 5 rfl rfl rfl hl.1 rfl (Nat.le_of_ble_eq_true rfl) dL_errors_64 ⟨Nat.le_refl 0, Nat.le_refl 0⟩ (fun H locs hP hD hS => ?_)
            refine lv_bipush (v := (-2 : Int32)) hx hb dL_errors_67 (by decide) ?_
            refine lv_icmp_ne (tgt := 255) hx hb dL_errors_69 (by decide) (fun c_59 => ?_) (fun c_59 => ?_)
            · have hr := hr.trans (if_neg c_59)
              exact B255 r_57.2 _ _ _ hr hP hD hS (lv_sub hl [0] rfl)
            · have hr := hr.trans (if_pos c_59)
              refine lv_aload_n hx hb dL_errors_72 rfl (lv_at hl 0 rfl) ?_
              refine lv_iconst (v := (1 : Int32)) hx hb dL_errors_73 (by decide) ?_
              refine lv_iconst (v := (0 : Int32)) hx hb dL_errors_74 (by decide) ?_
              refine lv_ldc hx hb hown (hts (.constant RL 130 (2143289344)) (List.mem_of_getElem? (i := 3) rfl)) dL_errors_75 ?_
              refine bdv hr (fun r_60 e_61 hr => ?_)
              refine rwV_iw (As := [.int (1 : Int32), .int (0 : Int32), .int (2143289344 : Int32)]) (rest := []) ⟨hx, hb, hml, hown, hts⟩ (k_X5_setMap l D Y ad r_57.2 (1 : Int32) (0 : Int32) (2143289344 : Int32) r_60 e_61) (cwV 3 hts gL_errors_X5_setMap rfl rfl rfl (by decide +kernel) ⟨Nat.le_of_ble_eq_true rfl, Nat.le_of_ble_eq_true rfl⟩) hP hK hN hZ hD hS rfl 0 5 rfl rfl rfl hl.1 rfl (Nat.le_of_ble_eq_true rfl) dL_errors_77 ⟨Nat.le_refl 0, Nat.le_refl 0⟩ (fun H locs hP hD hS => ?_)
              refine lv_bipush (v := (-2 : Int32)) hx hb dL_errors_80 (by decide) ?_
              refine lv_icmp_ne (tgt := 255) hx hb dL_errors_82 (by decide) (fun c_62 => ?_) (fun c_62 => ?_)
              · have hr := hr.trans (if_neg c_62)
                exact B255 r_60.2 _ _ _ hr hP hD hS (lv_sub hl [0] rfl)
              · have hr := hr.trans (if_pos c_62)
                refine lv_aload_n hx hb dL_errors_85 rfl (lv_at hl 0 rfl) ?_
                refine lv_iconst (v := (4 : Int32)) hx hb dL_errors_86 (by decide) ?_
                refine lv_iconst (v := (1 : Int32)) hx hb dL_errors_87 (by decide) ?_
                refine bdv hr (fun r_63 e_64 hr => ?_)
                refine rwV_iw (As := [.int (4 : Int32), .int (1 : Int32)]) (rest := []) ⟨hx, hb, hml, hown, hts⟩ (k_X5_setNumber l D Y ad r_60.2 (4 : Int32) (1 : Int32) r_63 e_64) (cwV 2 hts gL_errors_X5_setNumber rfl rfl rfl (by decide +kernel) ⟨Nat.le_of_ble_eq_true rfl, Nat.le_of_ble_eq_true rfl⟩) hP hK hN hZ hD hS rfl 0 5 rfl rfl rfl hl.1 rfl (Nat.le_of_ble_eq_true rfl) dL_errors_88 ⟨Nat.le_refl 0, Nat.le_refl 0⟩ (fun H locs hP hD hS => ?_)
                refine lv_iconst (v := (-1 : Int32)) hx hb dL_errors_91 (by decide) ?_
                refine lv_icmp_ne (tgt := 255) hx hb dL_errors_92 (by decide) (fun c_65 => ?_) (fun c_65 => ?_)
                · have hr := hr.trans (if_neg c_65)
                  exact B255 r_63.2 _ _ _ hr hP hD hS (lv_sub hl [0] rfl)
                · have hr := hr.trans (if_pos c_65)
                  refine lv_aload_n hx hb dL_errors_95 rfl (lv_at hl 0 rfl) ?_
                  refine lv_iconst (v := (2 : Int32)) hx hb dL_errors_96 (by decide) ?_
                  refine lv_iconst (v := (0 : Int32)) hx hb dL_errors_97 (by decide) ?_
                  refine bdv hr (fun r_66 e_67 hr => ?_)
                  refine rwV_iw (As := [.int (2 : Int32), .int (0 : Int32)]) (rest := []) ⟨hx, hb, hml, hown, hts⟩ (k_X5_setNumber l D Y ad r_63.2 (2 : Int32) (0 : Int32) r_66 e_67) (cwV 2 hts gL_errors_X5_setNumber rfl rfl rfl (by decide +kernel) ⟨Nat.le_of_ble_eq_true rfl, Nat.le_of_ble_eq_true rfl⟩) hP hK hN hZ hD hS rfl 0 5 rfl rfl rfl hl.1 rfl (Nat.le_of_ble_eq_true rfl) dL_errors_98 ⟨Nat.le_refl 0, Nat.le_refl 0⟩ (fun H locs hP hD hS => ?_)
                  refine lv_bipush (v := (-2 : Int32)) hx hb dL_errors_101 (by decide) ?_
                  refine lv_icmp_ne (tgt := 255) hx hb dL_errors_103 (by decide) (fun c_68 => ?_) (fun c_68 => ?_)
                  · have hr := hr.trans (if_neg c_68)
                    exact B255 r_66.2 _ _ _ hr hP hD hS (lv_sub hl [0] rfl)
                  · have hr := hr.trans (if_pos c_68)
                    refine lv_aload_n hx hb dL_errors_106 rfl (lv_at hl 0 rfl) ?_
                    refine lv_iconst (v := (3 : Int32)) hx hb dL_errors_107 (by decide) ?_
                    refine lv_bipush (v := (101 : Int32)) hx hb dL_errors_108 (by decide) ?_
                    refine bdv hr (fun r_69 e_70 hr => ?_)
                    refine rwV_iw (As := [.int (3 : Int32), .int (101 : Int32)]) (rest := []) ⟨hx, hb, hml, hown, hts⟩ (k_X5_setNumber l D Y ad r_66.2 (3 : Int32) (101 : Int32) r_69 e_70) (cwV 2 hts gL_errors_X5_setNumber rfl rfl rfl (by decide +kernel) ⟨Nat.le_of_ble_eq_true rfl, Nat.le_of_ble_eq_true rfl⟩) hP hK hN hZ hD hS rfl 0 5 rfl rfl rfl hl.1 rfl (Nat.le_of_ble_eq_true rfl) dL_errors_110 ⟨Nat.le_refl 0, Nat.le_refl 0⟩ (fun H locs hP hD hS => ?_)
                    refine lv_bipush (v := (-2 : Int32)) hx hb dL_errors_113 (by decide) ?_
                    refine lv_icmp_ne (tgt := 255) hx hb dL_errors_115 (by decide) (fun c_71 => ?_) (fun c_71 => ?_)
                    · have hr := hr.trans (if_neg c_71)
                      exact B255 r_69.2 _ _ _ hr hP hD hS (lv_sub hl [0] rfl)
                    · have hr := hr.trans (if_pos c_71)
                      refine lv_aload_n hx hb dL_errors_118 rfl (lv_at hl 0 rfl) ?_
                      refine lv_iconst (v := (0 : Int32)) hx hb dL_errors_119 (by decide) ?_
                      refine lv_bipush (v := (21 : Int32)) hx hb dL_errors_120 (by decide) ?_
                      refine bdv hr (fun r_72 e_73 hr => ?_)
                      refine rwV_iw (As := [.int (0 : Int32), .int (21 : Int32)]) (rest := []) ⟨hx, hb, hml, hown, hts⟩ (k_X5_setNumber l D Y ad r_69.2 (0 : Int32) (21 : Int32) r_72 e_73) (cwV 2 hts gL_errors_X5_setNumber rfl rfl rfl (by decide +kernel) ⟨Nat.le_of_ble_eq_true rfl, Nat.le_of_ble_eq_true rfl⟩) hP hK hN hZ hD hS rfl 0 5 rfl rfl rfl hl.1 rfl (Nat.le_of_ble_eq_true rfl) dL_errors_122 ⟨Nat.le_refl 0, Nat.le_refl 0⟩ (fun H locs hP hD hS => ?_)
                      refine lv_bipush (v := (-2 : Int32)) hx hb dL_errors_125 (by decide) ?_
                      refine lv_icmp_ne (tgt := 255) hx hb dL_errors_127 (by decide) (fun c_74 => ?_) (fun c_74 => ?_)
                      · have hr := hr.trans (if_neg c_74)
                        exact B255 r_72.2 _ _ _ hr hP hD hS (lv_sub hl [0] rfl)
                      · have hr := hr.trans (if_pos c_74)
                        refine lv_aload_n hx hb dL_errors_130 rfl (lv_at hl 0 rfl) ?_
                        refine lv_iconst (v := (0 : Int32)) hx hb dL_errors_131 (by decide) ?_
                        refine lv_iconst (v := (0 : Int32)) hx hb dL_errors_132 (by decide) ?_
                        refine lv_iconst (v := (0 : Int32)) hx hb dL_errors_133 (by decide) ?_
                        refine bdv hr (fun r_75 e_76 hr => ?_)
                        refine rwV_iw (As := [.int (0 : Int32), .int (0 : Int32), .int (0 : Int32)]) (rest := []) ⟨hx, hb, hml, hown, hts⟩ (k_X5_drive l D Y ad r_72.2 (0 : Int32) (0 : Int32) (0 : Int32) r_75 e_76) (cwV 3 hts gL_errors_X5_drive rfl rfl rfl (by decide +kernel) ⟨Nat.le_of_ble_eq_true rfl, Nat.le_of_ble_eq_true rfl⟩) hP hK hN hZ hD hS rfl 0 5 rfl rfl rfl hl.1 rfl (Nat.le_of_ble_eq_true rfl) dL_errors_134 ⟨Nat.le_refl 0, Nat.le_refl 0⟩ (fun H locs hP hD hS => ?_)
                        refine lv_bipush (v := (-2 : Int32)) hx hb dL_errors_137 (by decide) ?_
                        refine lv_icmp_ne (tgt := 255) hx hb dL_errors_139 (by decide) (fun c_77 => ?_) (fun c_77 => ?_)
                        · have hr := hr.trans (if_neg c_77)
                          exact B255 r_75.2 _ _ _ hr hP hD hS (lv_sub hl [0] rfl)
                        · have hr := hr.trans (if_pos c_77)
                          refine lv_aload_n hx hb dL_errors_142 rfl (lv_at hl 0 rfl) ?_
                          refine lv_iconst (v := (0 : Int32)) hx hb dL_errors_143 (by decide) ?_
                          refine lv_iconst (v := (0 : Int32)) hx hb dL_errors_144 (by decide) ?_
                          refine lv_bipush (v := (100 : Int32)) hx hb dL_errors_145 (by decide) ?_
                          refine bdv hr (fun r_78 e_79 hr => ?_)
                          refine rwV_iw (As := [.int (0 : Int32), .int (0 : Int32), .int (100 : Int32)]) (rest := []) ⟨hx, hb, hml, hown, hts⟩ (k_X5_drive l D Y ad r_75.2 (0 : Int32) (0 : Int32) (100 : Int32) r_78 e_79) (cwV 3 hts gL_errors_X5_drive rfl rfl rfl (by decide +kernel) ⟨Nat.le_of_ble_eq_true rfl, Nat.le_of_ble_eq_true rfl⟩) hP hK hN hZ hD hS rfl 0 5 rfl rfl rfl hl.1 rfl (Nat.le_of_ble_eq_true rfl) dL_errors_147 ⟨Nat.le_refl 0, Nat.le_refl 0⟩ (fun H locs hP hD hS => ?_)
                          refine lv_bipush (v := (-2 : Int32)) hx hb dL_errors_150 (by decide) ?_
                          refine lv_icmp_ne (tgt := 255) hx hb dL_errors_152 (by decide) (fun c_80 => ?_) (fun c_80 => ?_)
                          · have hr := hr.trans (if_neg c_80)
                            exact B255 r_78.2 _ _ _ hr hP hD hS (lv_sub hl [0] rfl)
                          · have hr := hr.trans (if_pos c_80)
                            refine lv_aload_n hx hb dL_errors_155 rfl (lv_at hl 0 rfl) ?_
                            refine lv_iconst (v := (0 : Int32)) hx hb dL_errors_156 (by decide) ?_
                            refine lv_ldc hx hb hown (hts (.constant RL 131 (1065353217)) (List.mem_of_getElem? (i := 4) rfl)) dL_errors_157 ?_
                            refine lv_iconst (v := (1 : Int32)) hx hb dL_errors_159 (by decide) ?_
                            refine bdv hr (fun r_81 e_82 hr => ?_)
                            refine rwV_iw (As := [.int (0 : Int32), .int (1065353217 : Int32), .int (1 : Int32)]) (rest := []) ⟨hx, hb, hml, hown, hts⟩ (k_X5_drive l D Y ad r_78.2 (0 : Int32) (1065353217 : Int32) (1 : Int32) r_81 e_82) (cwV 3 hts gL_errors_X5_drive rfl rfl rfl (by decide +kernel) ⟨Nat.le_of_ble_eq_true rfl, Nat.le_of_ble_eq_true rfl⟩) hP hK hN hZ hD hS rfl 0 5 rfl rfl rfl hl.1 rfl (Nat.le_of_ble_eq_true rfl) dL_errors_160 ⟨Nat.le_refl 0, Nat.le_refl 0⟩ (fun H locs hP hD hS => ?_)
                            refine lv_bipush (v := (-2 : Int32)) hx hb dL_errors_163 (by decide) ?_
                            refine lv_icmp_ne (tgt := 255) hx hb dL_errors_165 (by decide) (fun c_83 => ?_) (fun c_83 => ?_)
                            · have hr := hr.trans (if_neg c_83)
                              exact B255 r_81.2 _ _ _ hr hP hD hS (lv_sub hl [0] rfl)
                            · have hr := hr.trans (if_pos c_83)
                              refine lv_aload_n hx hb dL_errors_168 rfl (lv_at hl 0 rfl) ?_
                              refine lv_ldc hx hb hown (hts (.constant RL 129 (1133903873)) (List.mem_of_getElem? (i := 2) rfl)) dL_errors_169 ?_
                              refine lv_iconst (v := (0 : Int32)) hx hb dL_errors_171 (by decide) ?_
                              refine bdv hr (fun r_84 e_85 hr => ?_)
                              refine rwV_iw (As := [.int (1133903873 : Int32), .int (0 : Int32)]) (rest := []) ⟨hx, hb, hml, hown, hts⟩ (k_X5_wouldChoose l D Y ad r_81.2 (1133903873 : Int32) (0 : Int32) r_84 e_85) (cwV 2 hts gL_errors_X5_wouldChoose rfl rfl rfl (by decide +kernel) ⟨Nat.le_of_ble_eq_true rfl, Nat.le_of_ble_eq_true rfl⟩) hP hK hN hZ hD hS rfl 0 5 rfl rfl rfl hl.1 rfl (Nat.le_of_ble_eq_true rfl) dL_errors_172 ⟨Nat.le_refl 0, Nat.le_refl 0⟩ (fun H locs hP hD hS => ?_)
                              refine lv_bipush (v := (-2 : Int32)) hx hb dL_errors_175 (by decide) ?_
                              refine lv_icmp_ne (tgt := 255) hx hb dL_errors_177 (by decide) (fun c_86 => ?_) (fun c_86 => ?_)
                              · have hr := hr.trans (if_neg c_86)
                                exact B255 r_84.2 _ _ _ hr hP hD hS (lv_sub hl [0] rfl)
                              · have hr := hr.trans (if_pos c_86)
                                refine lv_aload_n hx hb dL_errors_180 rfl (lv_at hl 0 rfl) ?_
                                refine lv_iconst (v := (0 : Int32)) hx hb dL_errors_181 (by decide) ?_
                                refine lv_ldc hx hb hown (hts (.constant RL 128 (-2147483648)) (List.mem_of_getElem? (i := 1) rfl)) dL_errors_182 ?_
                                refine bdv hr (fun r_87 e_88 hr => ?_)
                                refine rwV_iw (As := [.int (0 : Int32), .int (-2147483648 : Int32)]) (rest := []) ⟨hx, hb, hml, hown, hts⟩ (k_X5_settles l D Y ad r_84.2 (0 : Int32) (-2147483648 : Int32) r_87 e_88) (cwV 2 hts gL_errors_X5_settles rfl rfl rfl (by decide +kernel) ⟨Nat.le_of_ble_eq_true rfl, Nat.le_of_ble_eq_true rfl⟩) hP hK hN hZ hD hS rfl 0 5 rfl rfl rfl hl.1 rfl (Nat.le_of_ble_eq_true rfl) dL_errors_184 ⟨Nat.le_refl 0, Nat.le_refl 0⟩ (fun H locs hP hD hS => ?_)
                                refine lv_bipush (v := (-2 : Int32)) hx hb dL_errors_187 (by decide) ?_
                                refine lv_icmp_ne (tgt := 255) hx hb dL_errors_189 (by decide) (fun c_89 => ?_) (fun c_89 => ?_)
                                · have hr := hr.trans (if_neg c_89)
                                  exact B255 r_87.2 _ _ _ hr hP hD hS (lv_sub hl [0] rfl)
                                · have hr := hr.trans (if_pos c_89)
                                  refine lv_aload_n hx hb dL_errors_192 rfl (lv_at hl 0 rfl) ?_
                                  refine lv_iconst (v := (5 : Int32)) hx hb dL_errors_193 (by decide) ?_
                                  refine lv_iconst (v := (0 : Int32)) hx hb dL_errors_194 (by decide) ?_
                                  refine nmv hr (fun r_90 e_91 hr => ?_)
                                  refine roV_f (As := [.int (5 : Int32), .int (0 : Int32)]) (rest := []) ⟨hx, hb, hml, hown, hts⟩ (k_X5_map l D Y ad r_87.2 (5 : Int32) (0 : Int32) r_90 e_91) (cwV 2 hts gL_errors_X5_map rfl rfl rfl (by decide +kernel) ⟨Nat.le_of_ble_eq_true rfl, Nat.le_of_ble_eq_true rfl⟩) hP hK hN (hZ.at hS).F 0 5 rfl rfl rfl hl.1 rfl (Nat.le_of_ble_eq_true rfl) dL_errors_195 ⟨Nat.le_refl 0, Nat.le_refl 0⟩ ?_
                                  refine nmv hr (fun r_92 e_93 hr => ?_)
                                  refine roS_i (As := [.float r_90]) (rest := []) ⟨hx, hb, hml, hown, hts⟩ (k_L_isNone l D Y  r_90 r_92 e_93) (va_cwS 1 hts gL_errors_L_isNone rfl rfl rfl (by decide +kernel) ⟨Nat.le_of_ble_eq_true rfl, Nat.le_of_ble_eq_true rfl⟩) (hP.sub (ws' := []) [] rfl) hK hN (hZ.at hS).F rfl hl.1 rfl (Nat.le_of_ble_eq_true rfl) dL_errors_198 ⟨Nat.le_refl 0, Nat.le_refl 0⟩ ?_
                                  refine lv_if_eq (tgt := 255) hx hb dL_errors_201 (by decide) (fun c_94 => ?_) (fun c_94 => ?_)
                                  · have hr := hr.trans (if_pos c_94)
                                    exact B255 r_87.2 _ _ _ hr hP hD hS (lv_sub hl [0] rfl)
                                  · have hr := hr.trans (if_neg c_94)
                                    refine lv_aload_n hx hb dL_errors_204 rfl (lv_at hl 0 rfl) ?_
                                    refine lv_iconst (v := (5 : Int32)) hx hb dL_errors_205 (by decide) ?_
                                    refine lv_iconst (v := (0 : Int32)) hx hb dL_errors_206 (by decide) ?_
                                    refine lv_iconst (v := (1 : Int32)) hx hb dL_errors_207 (by decide) ?_
                                    refine bdv hr (fun r_95 e_96 hr => ?_)
                                    refine roV_f (As := [.int (5 : Int32), .int (0 : Int32), .int (1 : Int32)]) (rest := []) ⟨hx, hb, hml, hown, hts⟩ (k_X5_border l D Y ad r_87.2 (5 : Int32) (0 : Int32) (1 : Int32) r_95 e_96) (cwV 3 hts gL_errors_X5_border rfl rfl rfl (by decide +kernel) ⟨Nat.le_of_ble_eq_true rfl, Nat.le_of_ble_eq_true rfl⟩) hP hK hN (hZ.at hS).F 0 5 rfl rfl rfl hl.1 rfl (Nat.le_of_ble_eq_true rfl) dL_errors_208 ⟨Nat.le_refl 0, Nat.le_refl 0⟩ ?_
                                    refine nmv hr (fun r_97 e_98 hr => ?_)
                                    refine roS_i (As := [.float r_95]) (rest := []) ⟨hx, hb, hml, hown, hts⟩ (k_L_isNone l D Y  r_95 r_97 e_98) (va_cwS 1 hts gL_errors_L_isNone rfl rfl rfl (by decide +kernel) ⟨Nat.le_of_ble_eq_true rfl, Nat.le_of_ble_eq_true rfl⟩) (hP.sub (ws' := []) [] rfl) hK hN (hZ.at hS).F rfl hl.1 rfl (Nat.le_of_ble_eq_true rfl) dL_errors_211 ⟨Nat.le_refl 0, Nat.le_refl 0⟩ ?_
                                    refine lv_if_eq (tgt := 255) hx hb dL_errors_214 (by decide) (fun c_99 => ?_) (fun c_99 => ?_)
                                    · have hr := hr.trans (if_pos c_99)
                                      exact B255 r_87.2 _ _ _ hr hP hD hS (lv_sub hl [0] rfl)
                                    · have hr := hr.trans (if_neg c_99)
                                      refine lv_aload_n hx hb dL_errors_217 rfl (lv_at hl 0 rfl) ?_
                                      refine lv_iconst (v := (1 : Int32)) hx hb dL_errors_218 (by decide) ?_
                                      refine lv_ldc hx hb hown (hts (.constant RL 131 (1065353217)) (List.mem_of_getElem? (i := 4) rfl)) dL_errors_219 ?_
                                      refine lv_iconst (v := (1 : Int32)) hx hb dL_errors_221 (by decide) ?_
                                      refine bdv hr (fun r_100 e_101 hr => ?_)
                                      refine roV_f (As := [.int (1 : Int32), .int (1065353217 : Int32), .int (1 : Int32)]) (rest := []) ⟨hx, hb, hml, hown, hts⟩ (k_X5_border l D Y ad r_87.2 (1 : Int32) (1065353217 : Int32) (1 : Int32) r_100 e_101) (cwV 3 hts gL_errors_X5_border rfl rfl rfl (by decide +kernel) ⟨Nat.le_of_ble_eq_true rfl, Nat.le_of_ble_eq_true rfl⟩) hP hK hN (hZ.at hS).F 0 5 rfl rfl rfl hl.1 rfl (Nat.le_of_ble_eq_true rfl) dL_errors_222 ⟨Nat.le_refl 0, Nat.le_refl 0⟩ ?_
                                      refine nmv hr (fun r_102 e_103 hr => ?_)
                                      refine roS_i (As := [.float r_100]) (rest := []) ⟨hx, hb, hml, hown, hts⟩ (k_L_isNone l D Y  r_100 r_102 e_103) (va_cwS 1 hts gL_errors_L_isNone rfl rfl rfl (by decide +kernel) ⟨Nat.le_of_ble_eq_true rfl, Nat.le_of_ble_eq_true rfl⟩) (hP.sub (ws' := []) [] rfl) hK hN (hZ.at hS).F rfl hl.1 rfl (Nat.le_of_ble_eq_true rfl) dL_errors_225 ⟨Nat.le_refl 0, Nat.le_refl 0⟩ ?_
                                      refine lv_if_eq (tgt := 255) hx hb dL_errors_228 (by decide) (fun c_104 => ?_) (fun c_104 => ?_)
                                      · have hr := hr.trans (if_pos c_104)
                                        exact B255 r_87.2 _ _ _ hr hP hD hS (lv_sub hl [0] rfl)
                                      · have hr := hr.trans (if_neg c_104)
                                        refine lv_aload_n hx hb dL_errors_231 rfl (lv_at hl 0 rfl) ?_
                                        refine lv_iconst (v := (4 : Int32)) hx hb dL_errors_232 (by decide) ?_
                                        refine nmv hr (fun r_105 e_106 hr => ?_)
                                        refine roV_i (As := [.int (4 : Int32)]) (rest := []) ⟨hx, hb, hml, hown, hts⟩ (k_X5_number l D Y ad r_87.2 (4 : Int32) r_105 e_106) (cwV 1 hts gL_errors_X5_number rfl rfl rfl (by decide +kernel) ⟨Nat.le_of_ble_eq_true rfl, Nat.le_of_ble_eq_true rfl⟩) hP hK hN (hZ.at hS).F 0 5 rfl rfl rfl hl.1 rfl (Nat.le_of_ble_eq_true rfl) dL_errors_233 ⟨Nat.le_refl 0, Nat.le_refl 0⟩ ?_
                                        refine lv_iconst (v := (-1 : Int32)) hx hb dL_errors_236 (by decide) ?_
                                        refine lv_icmp_ne (tgt := 255) hx hb dL_errors_237 (by decide) (fun c_107 => ?_) (fun c_107 => ?_)
                                        · have hr := hr.trans (if_neg c_107)
                                          exact B255 r_87.2 _ _ _ hr hP hD hS (lv_sub hl [0] rfl)
                                        · have hr := hr.trans (if_pos c_107)
                                          refine lv_aload_n hx hb dL_errors_240 rfl (lv_at hl 0 rfl) ?_
                                          refine lv_bipush (v := (15 : Int32)) hx hb dL_errors_241 (by decide) ?_
                                          refine nmv hr (fun r_108 e_109 hr => ?_)
                                          refine roV_i (As := [.int (15 : Int32)]) (rest := []) ⟨hx, hb, hml, hown, hts⟩ (k_X5_count l D Y ad r_87.2 (15 : Int32) r_108 e_109) (cwV 1 hts gL_errors_X5_count rfl rfl rfl (by decide +kernel) ⟨Nat.le_of_ble_eq_true rfl, Nat.le_of_ble_eq_true rfl⟩) hP hK hN (hZ.at hS).F 0 5 rfl rfl rfl hl.1 rfl (Nat.le_of_ble_eq_true rfl) dL_errors_243 ⟨Nat.le_refl 0, Nat.le_refl 0⟩ ?_
                                          refine lv_bipush (v := (-2 : Int32)) hx hb dL_errors_246 (by decide) ?_
                                          refine lv_icmp_ne (tgt := 255) hx hb dL_errors_248 (by decide) (fun c_110 => ?_) (fun c_110 => ?_)
                                          · have hr := hr.trans (if_neg c_110)
                                            exact B255 r_87.2 _ _ _ hr hP hD hS (lv_sub hl [0] rfl)
                                          · have hr := hr.trans (if_pos c_110)
                                            refine lv_iconst (v := (1 : Int32)) hx hb dL_errors_251 (by decide) ?_
                                            refine lv_goto (tgt := 256) hx hb dL_errors_252 (by decide) ?_
                                            exact B256 r_87.2 (1 : Int32) _ _ _ hr hP hD hS (lv_sub hl [0] rfl)
