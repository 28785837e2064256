set_option maxHeartbeats 4000000 in
set_option maxRecDepth 100000 in
theorem k_L_low (l : Launch) (D : va_G) (Y : Nat → ClassId) (x0 : Int32) (x1 : Int32) (R : Int32) (hr : some R = mf_L_low x0 x1) : Met l yL_low wsL_low ({ frames := 0, cells := 0, slots := 0, locals := 0 } : Room) (va_Pc [.int x0, .int x1] (PR D Y [])) (vp_Si (fun x => x = R)) 0 0 (fun _ => False) := by
  refine Met.ofW (cc := cL_low) (maxL := 2) (ret := (some .int)) (by decide) rfl ?_
  intro p e s m args below meth c s₁ B hml hv
  obtain ⟨rfl, hP, hK, hN, hZ⟩ := hv
  have hx := B.exec
  have hb := B.bytes
  have hrt := B.returns
  have hts := atoms_spec (ws := wsL_low) B.pre
  have hown : s.vm.findClass RL = some m.cls := findClass_of_methodNamed B.named
  have hlocks := B.notSynchronized
  have hS : va_S (fun _ => False) s.heap s.heap [] := va_S.rf
  have hl := lv_entry ([.int x0, .int x1]) (n := 2) (Nat.le_of_ble_eq_true rfl)
  rw [lg_entry_eq]
  generalize (lg_sl ([.int x0, .int x1]) ++ List.replicate (2 - (lg_sl ([.int x0, .int x1])).length) Slot.unset).toArray = ls at hl ⊢
  have hl : lv_has ls 2 [(0, .int x0), (1, .int x1)] := hl
  rw [mf_L_low] at hr
  refine lv_iload_n hx hb dL_low_0 rfl (lv_at hl 0 rfl) ?_
  refine lv_ldc hx hb hown (hts (.constant RL 8 (2147483647)) (List.mem_of_getElem? (i := 1) rfl)) dL_low_1 ?_
  refine lv_iand hx hb dL_low_3 ?_
  refine lv_iload_n hx hb dL_low_4 rfl (lv_at hl 1 rfl) ?_
  refine gdv hr (fun g_1 hr => ?_)
  refine lv_irem hx hb dL_low_5 g_1 ?_
  have hr := Option.some.inj hr
  subst hr
  exact W.iret hx hb hrt (fun t ht hW => ⟨_, rfl, rfl, ht⟩) (fun q hq => absurd hq List.not_mem_nil) dL_low_6

set_option maxHeartbeats 4000000 in
set_option maxRecDepth 100000 in
theorem k_L_speed (l : Launch) (D : va_G) (Y : Nat → ClassId) (x0 : Int32) (R : Int32) (hr : R = mf_L_speed x0) : Met l yL_speed wsL_speed ({ frames := 0, cells := 0, slots := 0, locals := 0 } : Room) (va_Pc [.int x0] (PR D Y [])) (vp_Si (fun x => x = R)) 0 0 (fun _ => False) := by
  refine Met.ofW (cc := cL_speed) (maxL := 1) (ret := (some .int)) (by decide) rfl ?_
  intro p e s m args below meth c s₁ B hml hv
  obtain ⟨rfl, hP, hK, hN, hZ⟩ := hv
  have hx := B.exec
  have hb := B.bytes
  have hrt := B.returns
  have hts := atoms_spec (ws := wsL_speed) B.pre
  have hown : s.vm.findClass RL = some m.cls := findClass_of_methodNamed B.named
  have hlocks := B.notSynchronized
  have hS : va_S (fun _ => False) s.heap s.heap [] := va_S.rf
  have hl := lv_entry ([.int x0]) (n := 1) (Nat.le_of_ble_eq_true rfl)
  rw [lg_entry_eq]
  generalize (lg_sl ([.int x0]) ++ List.replicate (1 - (lg_sl ([.int x0])).length) Slot.unset).toArray = ls at hl ⊢
  have hl : lv_has ls 1 [(0, .int x0)] := hl
  rw [mf_L_speed] at hr
  refine lv_iload_n hx hb dL_speed_0 rfl (lv_at hl 0 rfl) ?_
  by_cases c_1 : x0 = (0 : Int32)
  · have hr := hr.trans (if_pos c_1)
    refine lv_tableIn (off := 59) (tgt := 60) hx hb dL_speed_1 (by rw [c_1]; decide) (by rw [c_1]; decide) (by rw [c_1]; rfl) (by decide) ?_
    refine lv_iconst (v := (0 : Int32)) hx hb dL_speed_60 (by decide) ?_
    subst hr
    exact W.iret hx hb hrt (fun t ht hW => ⟨_, rfl, rfl, ht⟩) (fun q hq => absurd hq List.not_mem_nil) dL_speed_61
  · have hr := hr.trans (if_neg c_1)
    by_cases c_2 : x0 = (1 : Int32)
    · have hr := hr.trans (if_pos c_2)
      refine lv_tableIn (off := 61) (tgt := 62) hx hb dL_speed_1 (by rw [c_2]; decide) (by rw [c_2]; decide) (by rw [c_2]; rfl) (by decide) ?_
      refine lv_ldc hx hb hown (hts (.constant RL 9 (1092616192)) (List.mem_of_getElem? (i := 1) rfl)) dL_speed_62 ?_
      subst hr
      exact W.iret hx hb hrt (fun t ht hW => ⟨_, rfl, rfl, ht⟩) (fun q hq => absurd hq List.not_mem_nil) dL_speed_64
    · have hr := hr.trans (if_neg c_2)
      by_cases c_3 : x0 = (2 : Int32)
      · have hr := hr.trans (if_pos c_3)
        refine lv_tableIn (off := 64) (tgt := 65) hx hb dL_speed_1 (by rw [c_3]; decide) (by rw [c_3]; decide) (by rw [c_3]; rfl) (by decide) ?_
        refine lv_ldc hx hb hown (hts (.constant RL 10 (1101004800)) (List.mem_of_getElem? (i := 2) rfl)) dL_speed_65 ?_
        subst hr
        exact W.iret hx hb hrt (fun t ht hW => ⟨_, rfl, rfl, ht⟩) (fun q hq => absurd hq List.not_mem_nil) dL_speed_67
      · have hr := hr.trans (if_neg c_3)
        by_cases c_4 : x0 = (3 : Int32)
        · have hr := hr.trans (if_pos c_4)
          refine lv_tableIn (off := 67) (tgt := 68) hx hb dL_speed_1 (by rw [c_4]; decide) (by rw [c_4]; decide) (by rw [c_4]; rfl) (by decide) ?_
          refine lv_ldc hx hb hown (hts (.constant RL 11 (1107820544)) (List.mem_of_getElem? (i := 3) rfl)) dL_speed_68 ?_
          subst hr
          exact W.iret hx hb hrt (fun t ht hW => ⟨_, rfl, rfl, ht⟩) (fun q hq => absurd hq List.not_mem_nil) dL_speed_70
        · have hr := hr.trans (if_neg c_4)
          by_cases c_5 : x0 = (4 : Int32)
          · have hr := hr.trans (if_pos c_5)
            refine lv_tableIn (off := 70) (tgt := 71) hx hb dL_speed_1 (by rw [c_5]; decide) (by rw [c_5]; decide) (by rw [c_5]; rfl) (by decide) ?_
            refine lv_ldc hx hb hown (hts (.constant RL 12 (1112014848)) (List.mem_of_getElem? (i := 4) rfl)) dL_speed_71 ?_
            subst hr
            exact W.iret hx hb hrt (fun t ht hW => ⟨_, rfl, rfl, ht⟩) (fun q hq => absurd hq List.not_mem_nil) dL_speed_73
          · have hr := hr.trans (if_neg c_5)
            by_cases c_6 : x0 = (5 : Int32)
            · have hr := hr.trans (if_pos c_6)
              refine lv_tableIn (off := 73) (tgt := 74) hx hb dL_speed_1 (by rw [c_6]; decide) (by rw [c_6]; decide) (by rw [c_6]; rfl) (by decide) ?_
              refine lv_ldc hx hb hown (hts (.constant RL 13 (1112276992)) (List.mem_of_getElem? (i := 5) rfl)) dL_speed_74 ?_
              subst hr
              exact W.iret hx hb hrt (fun t ht hW => ⟨_, rfl, rfl, ht⟩) (fun q hq => absurd hq List.not_mem_nil) dL_speed_76
            · have hr := hr.trans (if_neg c_6)
              by_cases c_7 : x0 = (6 : Int32)
              · have hr := hr.trans (if_pos c_7)
                refine lv_tableIn (off := 76) (tgt := 77) hx hb dL_speed_1 (by rw [c_7]; decide) (by rw [c_7]; decide) (by rw [c_7]; rfl) (by decide) ?_
                refine lv_ldc hx hb hown (hts (.constant RL 14 (1115160576)) (List.mem_of_getElem? (i := 6) rfl)) dL_speed_77 ?_
                subst hr
                exact W.iret hx hb hrt (fun t ht hW => ⟨_, rfl, rfl, ht⟩) (fun q hq => absurd hq List.not_mem_nil) dL_speed_79
              · have hr := hr.trans (if_neg c_7)
                by_cases c_8 : x0 = (7 : Int32)
                · have hr := hr.trans (if_pos c_8)
                  refine lv_tableIn (off := 79) (tgt := 80) hx hb dL_speed_1 (by rw [c_8]; decide) (by rw [c_8]; decide) (by rw [c_8]; rfl) (by decide) ?_
                  refine lv_ldc hx hb hown (hts (.constant RL 15 (1119092736)) (List.mem_of_getElem? (i := 7) rfl)) dL_speed_80 ?_
                  subst hr
                  exact W.iret hx hb hrt (fun t ht hW => ⟨_, rfl, rfl, ht⟩) (fun q hq => absurd hq List.not_mem_nil) dL_speed_82
                · have hr := hr.trans (if_neg c_8)
                  by_cases c_9 : x0 = (8 : Int32)
                  · have hr := hr.trans (if_pos c_9)
                    refine lv_tableIn (off := 82) (tgt := 83) hx hb dL_speed_1 (by rw [c_9]; decide) (by rw [c_9]; decide) (by rw [c_9]; rfl) (by decide) ?_
                    refine lv_ldc hx hb hown (hts (.constant RL 16 (1120403456)) (List.mem_of_getElem? (i := 8) rfl)) dL_speed_83 ?_
                    subst hr
                    exact W.iret hx hb hrt (fun t ht hW => ⟨_, rfl, rfl, ht⟩) (fun q hq => absurd hq List.not_mem_nil) dL_speed_85
                  · have hr := hr.trans (if_neg c_9)
                    by_cases c_10 : x0 = (9 : Int32)
                    · have hr := hr.trans (if_pos c_10)
                      refine lv_tableIn (off := 85) (tgt := 86) hx hb dL_speed_1 (by rw [c_10]; decide) (by rw [c_10]; decide) (by rw [c_10]; rfl) (by decide) ?_
                      refine lv_ldc hx hb hown (hts (.constant RL 17 (1125515264)) (List.mem_of_getElem? (i := 9) rfl)) dL_speed_86 ?_
                      subst hr
                      exact W.iret hx hb hrt (fun t ht hW => ⟨_, rfl, rfl, ht⟩) (fun q hq => absurd hq List.not_mem_nil) dL_speed_88
                    · have hr := hr.trans (if_neg c_10)
                      by_cases c_11 : x0 = (10 : Int32)
                      · have hr := hr.trans (if_pos c_11)
                        refine lv_tableIn (off := 88) (tgt := 89) hx hb dL_speed_1 (by rw [c_11]; decide) (by rw [c_11]; decide) (by rw [c_11]; rfl) (by decide) ?_
                        refine lv_ldc hx hb hown (hts (.constant RL 18 (1129447424)) (List.mem_of_getElem? (i := 10) rfl)) dL_speed_89 ?_
                        subst hr
                        exact W.iret hx hb hrt (fun t ht hW => ⟨_, rfl, rfl, ht⟩) (fun q hq => absurd hq List.not_mem_nil) dL_speed_91
                      · have hr := hr.trans (if_neg c_11)
                        refine lv_tableOut (tgt := 92) hx hb dL_speed_1 (by have z0 := lv_neT (k := (0 : Int32)) (a := 0) c_1 rfl; have z1 := lv_neT (k := (1 : Int32)) (a := 1) c_2 rfl; have z2 := lv_neT (k := (2 : Int32)) (a := 2) c_3 rfl; have z3 := lv_neT (k := (3 : Int32)) (a := 3) c_4 rfl; have z4 := lv_neT (k := (4 : Int32)) (a := 4) c_5 rfl; have z5 := lv_neT (k := (5 : Int32)) (a := 5) c_6 rfl; have z6 := lv_neT (k := (6 : Int32)) (a := 6) c_7 rfl; have z7 := lv_neT (k := (7 : Int32)) (a := 7) c_8 rfl; have z8 := lv_neT (k := (8 : Int32)) (a := 8) c_9 rfl; have z9 := lv_neT (k := (9 : Int32)) (a := 9) c_10 rfl; have z10 := lv_neT (k := (10 : Int32)) (a := 10) c_11 rfl; omega) (by decide) ?_
                        refine lv_ldc hx hb hown (hts (.constant RL 19 (1133903872)) (List.mem_of_getElem? (i := 11) rfl)) dL_speed_92 ?_
                        subst hr
                        exact W.iret hx hb hrt (fun t ht hW => ⟨_, rfl, rfl, ht⟩) (fun q hq => absurd hq List.not_mem_nil) dL_speed_94

set_option maxHeartbeats 4000000 in
set_option maxRecDepth 100000 in
theorem k_L_fast (l : Launch) (D : va_G) (Y : Nat → ClassId) (x0 : Int32) (R : UInt32) (hr : R = mf_L_fast x0) : Met l yL_fast wsL_fast ({ frames := 0, cells := 0, slots := 0, locals := 0 } : Room) (va_Pc [.int x0] (PR D Y [])) (vp_Sf (fun x => x = R)) 0 0 (fun _ => False) := by
  refine Met.ofW (cc := cL_fast) (maxL := 1) (ret := (some .float)) (by decide) rfl ?_
  intro p e s m args below meth c s₁ B hml hv
  obtain ⟨rfl, hP, hK, hN, hZ⟩ := hv
  have hx := B.exec
  have hb := B.bytes
  have hrt := B.returns
  have hts := atoms_spec (ws := wsL_fast) B.pre
  have hown : s.vm.findClass RL = some m.cls := findClass_of_methodNamed B.named
  have hlocks := B.notSynchronized
  have hS : va_S (fun _ => False) s.heap s.heap [] := va_S.rf
  have hl := lv_entry ([.int x0]) (n := 1) (Nat.le_of_ble_eq_true rfl)
  rw [lg_entry_eq]
  generalize (lg_sl ([.int x0]) ++ List.replicate (1 - (lg_sl ([.int x0])).length) Slot.unset).toArray = ls at hl ⊢
  have hl : lv_has ls 1 [(0, .int x0)] := hl
  rw [mf_L_fast] at hr
  refine lv_iload_n hx hb dL_fast_0 rfl (lv_at hl 0 rfl) ?_
  by_cases c_1 : x0 = (0 : Int32)
  · have hr := hr.trans (if_pos c_1)
    refine lv_tableIn (off := 59) (tgt := 60) hx hb dL_fast_1 (by rw [c_1]; decide) (by rw [c_1]; decide) (by rw [c_1]; rfl) (by decide) ?_
    refine lv_fconst0 hx hb dL_fast_60 ?_
    subst hr
    exact W.fret hx hb hrt (fun t ht hW => ⟨_, rfl, rfl, ht⟩) (fun q hq => absurd hq List.not_mem_nil) dL_fast_61
  · have hr := hr.trans (if_neg c_1)
    by_cases c_2 : x0 = (1 : Int32)
    · have hr := hr.trans (if_pos c_2)
      refine lv_tableIn (off := 61) (tgt := 62) hx hb dL_fast_1 (by rw [c_2]; decide) (by rw [c_2]; decide) (by rw [c_2]; rfl) (by decide) ?_
      refine lv_ldcf hx hb hown (hts (.constantFloat RL 20 (1092616192)) (List.mem_of_getElem? (i := 1) rfl)) dL_fast_62 ?_
      subst hr
      exact W.fret hx hb hrt (fun t ht hW => ⟨_, rfl, rfl, ht⟩) (fun q hq => absurd hq List.not_mem_nil) dL_fast_64
    · have hr := hr.trans (if_neg c_2)
      by_cases c_3 : x0 = (2 : Int32)
      · have hr := hr.trans (if_pos c_3)
        refine lv_tableIn (off := 64) (tgt := 65) hx hb dL_fast_1 (by rw [c_3]; decide) (by rw [c_3]; decide) (by rw [c_3]; rfl) (by decide) ?_
        refine lv_ldcf hx hb hown (hts (.constantFloat RL 21 (1101004800)) (List.mem_of_getElem? (i := 2) rfl)) dL_fast_65 ?_
        subst hr
        exact W.fret hx hb hrt (fun t ht hW => ⟨_, rfl, rfl, ht⟩) (fun q hq => absurd hq List.not_mem_nil) dL_fast_67
      · have hr := hr.trans (if_neg c_3)
        by_cases c_4 : x0 = (3 : Int32)
        · have hr := hr.trans (if_pos c_4)
          refine lv_tableIn (off := 67) (tgt := 68) hx hb dL_fast_1 (by rw [c_4]; decide) (by rw [c_4]; decide) (by rw [c_4]; rfl) (by decide) ?_
          refine lv_ldcf hx hb hown (hts (.constantFloat RL 22 (1107820544)) (List.mem_of_getElem? (i := 3) rfl)) dL_fast_68 ?_
          subst hr
          exact W.fret hx hb hrt (fun t ht hW => ⟨_, rfl, rfl, ht⟩) (fun q hq => absurd hq List.not_mem_nil) dL_fast_70
        · have hr := hr.trans (if_neg c_4)
          by_cases c_5 : x0 = (4 : Int32)
          · have hr := hr.trans (if_pos c_5)
            refine lv_tableIn (off := 70) (tgt := 71) hx hb dL_fast_1 (by rw [c_5]; decide) (by rw [c_5]; decide) (by rw [c_5]; rfl) (by decide) ?_
            refine lv_ldcf hx hb hown (hts (.constantFloat RL 23 (1112014848)) (List.mem_of_getElem? (i := 4) rfl)) dL_fast_71 ?_
            subst hr
            exact W.fret hx hb hrt (fun t ht hW => ⟨_, rfl, rfl, ht⟩) (fun q hq => absurd hq List.not_mem_nil) dL_fast_73
          · have hr := hr.trans (if_neg c_5)
            by_cases c_6 : x0 = (5 : Int32)
            · have hr := hr.trans (if_pos c_6)
              refine lv_tableIn (off := 73) (tgt := 74) hx hb dL_fast_1 (by rw [c_6]; decide) (by rw [c_6]; decide) (by rw [c_6]; rfl) (by decide) ?_
              refine lv_ldcf hx hb hown (hts (.constantFloat RL 24 (1112276992)) (List.mem_of_getElem? (i := 5) rfl)) dL_fast_74 ?_
              subst hr
              exact W.fret hx hb hrt (fun t ht hW => ⟨_, rfl, rfl, ht⟩) (fun q hq => absurd hq List.not_mem_nil) dL_fast_76
            · have hr := hr.trans (if_neg c_6)
              by_cases c_7 : x0 = (6 : Int32)
              · have hr := hr.trans (if_pos c_7)
                refine lv_tableIn (off := 76) (tgt := 77) hx hb dL_fast_1 (by rw [c_7]; decide) (by rw [c_7]; decide) (by rw [c_7]; rfl) (by decide) ?_
                refine lv_ldcf hx hb hown (hts (.constantFloat RL 25 (1115160576)) (List.mem_of_getElem? (i := 6) rfl)) dL_fast_77 ?_
                subst hr
                exact W.fret hx hb hrt (fun t ht hW => ⟨_, rfl, rfl, ht⟩) (fun q hq => absurd hq List.not_mem_nil) dL_fast_79
              · have hr := hr.trans (if_neg c_7)
                by_cases c_8 : x0 = (7 : Int32)
                · have hr := hr.trans (if_pos c_8)
                  refine lv_tableIn (off := 79) (tgt := 80) hx hb dL_fast_1 (by rw [c_8]; decide) (by rw [c_8]; decide) (by rw [c_8]; rfl) (by decide) ?_
                  refine lv_ldcf hx hb hown (hts (.constantFloat RL 26 (1119092736)) (List.mem_of_getElem? (i := 7) rfl)) dL_fast_80 ?_
                  subst hr
                  exact W.fret hx hb hrt (fun t ht hW => ⟨_, rfl, rfl, ht⟩) (fun q hq => absurd hq List.not_mem_nil) dL_fast_82
                · have hr := hr.trans (if_neg c_8)
                  by_cases c_9 : x0 = (8 : Int32)
                  · have hr := hr.trans (if_pos c_9)
                    refine lv_tableIn (off := 82) (tgt := 83) hx hb dL_fast_1 (by rw [c_9]; decide) (by rw [c_9]; decide) (by rw [c_9]; rfl) (by decide) ?_
                    refine lv_ldcf hx hb hown (hts (.constantFloat RL 27 (1120403456)) (List.mem_of_getElem? (i := 8) rfl)) dL_fast_83 ?_
                    subst hr
                    exact W.fret hx hb hrt (fun t ht hW => ⟨_, rfl, rfl, ht⟩) (fun q hq => absurd hq List.not_mem_nil) dL_fast_85
                  · have hr := hr.trans (if_neg c_9)
                    by_cases c_10 : x0 = (9 : Int32)
                    · have hr := hr.trans (if_pos c_10)
                      refine lv_tableIn (off := 85) (tgt := 86) hx hb dL_fast_1 (by rw [c_10]; decide) (by rw [c_10]; decide) (by rw [c_10]; rfl) (by decide) ?_
                      refine lv_ldcf hx hb hown (hts (.constantFloat RL 28 (1125515264)) (List.mem_of_getElem? (i := 9) rfl)) dL_fast_86 ?_
                      subst hr
                      exact W.fret hx hb hrt (fun t ht hW => ⟨_, rfl, rfl, ht⟩) (fun q hq => absurd hq List.not_mem_nil) dL_fast_88
                    · have hr := hr.trans (if_neg c_10)
                      by_cases c_11 : x0 = (10 : Int32)
                      · have hr := hr.trans (if_pos c_11)
                        refine lv_tableIn (off := 88) (tgt := 89) hx hb dL_fast_1 (by rw [c_11]; decide) (by rw [c_11]; decide) (by rw [c_11]; rfl) (by decide) ?_
                        refine lv_ldcf hx hb hown (hts (.constantFloat RL 29 (1129447424)) (List.mem_of_getElem? (i := 10) rfl)) dL_fast_89 ?_
                        subst hr
                        exact W.fret hx hb hrt (fun t ht hW => ⟨_, rfl, rfl, ht⟩) (fun q hq => absurd hq List.not_mem_nil) dL_fast_91
                      · have hr := hr.trans (if_neg c_11)
                        refine lv_tableOut (tgt := 92) hx hb dL_fast_1 (by have z0 := lv_neT (k := (0 : Int32)) (a := 0) c_1 rfl; have z1 := lv_neT (k := (1 : Int32)) (a := 1) c_2 rfl; have z2 := lv_neT (k := (2 : Int32)) (a := 2) c_3 rfl; have z3 := lv_neT (k := (3 : Int32)) (a := 3) c_4 rfl; have z4 := lv_neT (k := (4 : Int32)) (a := 4) c_5 rfl; have z5 := lv_neT (k := (5 : Int32)) (a := 5) c_6 rfl; have z6 := lv_neT (k := (6 : Int32)) (a := 6) c_7 rfl; have z7 := lv_neT (k := (7 : Int32)) (a := 7) c_8 rfl; have z8 := lv_neT (k := (8 : Int32)) (a := 8) c_9 rfl; have z9 := lv_neT (k := (9 : Int32)) (a := 9) c_10 rfl; have z10 := lv_neT (k := (10 : Int32)) (a := 10) c_11 rfl; omega) (by decide) ?_
                        refine lv_ldcf hx hb hown (hts (.constantFloat RL 30 (1133903872)) (List.mem_of_getElem? (i := 11) rfl)) dL_fast_92 ?_
                        subst hr
                        exact W.fret hx hb hrt (fun t ht hW => ⟨_, rfl, rfl, ht⟩) (fun q hq => absurd hq List.not_mem_nil) dL_fast_94

set_option maxHeartbeats 4000000 in
set_option maxRecDepth 100000 in
theorem k_L_pedal (l : Launch) (D : va_G) (Y : Nat → ClassId) (x0 : Int32) (R : Int32) (hr : R = mf_L_pedal x0) : Met l yL_pedal wsL_pedal ({ frames := 0, cells := 0, slots := 0, locals := 0 } : Room) (va_Pc [.int x0] (PR D Y [])) (vp_Si (fun x => x = R)) 0 0 (fun _ => False) := by
  refine Met.ofW (cc := cL_pedal) (maxL := 1) (ret := (some .int)) (by decide) rfl ?_
  intro p e s m args below meth c s₁ B hml hv
  obtain ⟨rfl, hP, hK, hN, hZ⟩ := hv
  have hx := B.exec
  have hb := B.bytes
  have hrt := B.returns
  have hts := atoms_spec (ws := wsL_pedal) B.pre
  have hown : s.vm.findClass RL = some m.cls := findClass_of_methodNamed B.named
  have hlocks := B.notSynchronized
  have hS : va_S (fun _ => False) s.heap s.heap [] := va_S.rf
  have hl := lv_entry ([.int x0]) (n := 1) (Nat.le_of_ble_eq_true rfl)
  rw [lg_entry_eq]
  generalize (lg_sl ([.int x0]) ++ List.replicate (1 - (lg_sl ([.int x0])).length) Slot.unset).toArray = ls at hl ⊢
  have hl : lv_has ls 1 [(0, .int x0)] := hl
  rw [mf_L_pedal] at hr
  refine lv_iload_n hx hb dL_pedal_0 rfl (lv_at hl 0 rfl) ?_
  by_cases c_1 : x0 = (0 : Int32)
  · have hr := hr.trans (if_pos c_1)
    refine lv_tableIn (off := 31) (tgt := 32) hx hb dL_pedal_1 (by rw [c_1]; decide) (by rw [c_1]; decide) (by rw [c_1]; rfl) (by decide) ?_
    refine lv_iconst (v := (0 : Int32)) hx hb dL_pedal_32 (by decide) ?_
    subst hr
    exact W.iret hx hb hrt (fun t ht hW => ⟨_, rfl, rfl, ht⟩) (fun q hq => absurd hq List.not_mem_nil) dL_pedal_33
  · have hr := hr.trans (if_neg c_1)
    by_cases c_2 : x0 = (1 : Int32)
    · have hr := hr.trans (if_pos c_2)
      refine lv_tableIn (off := 33) (tgt := 34) hx hb dL_pedal_1 (by rw [c_2]; decide) (by rw [c_2]; decide) (by rw [c_2]; rfl) (by decide) ?_
      refine lv_ldc hx hb hown (hts (.constant RL 31 (1048576000)) (List.mem_of_getElem? (i := 1) rfl)) dL_pedal_34 ?_
      subst hr
      exact W.iret hx hb hrt (fun t ht hW => ⟨_, rfl, rfl, ht⟩) (fun q hq => absurd hq List.not_mem_nil) dL_pedal_36
    · have hr := hr.trans (if_neg c_2)
      by_cases c_3 : x0 = (2 : Int32)
      · have hr := hr.trans (if_pos c_3)
        refine lv_tableIn (off := 36) (tgt := 37) hx hb dL_pedal_1 (by rw [c_3]; decide) (by rw [c_3]; decide) (by rw [c_3]; rfl) (by decide) ?_
        refine lv_ldc hx hb hown (hts (.constant RL 32 (1056964608)) (List.mem_of_getElem? (i := 2) rfl)) dL_pedal_37 ?_
        subst hr
        exact W.iret hx hb hrt (fun t ht hW => ⟨_, rfl, rfl, ht⟩) (fun q hq => absurd hq List.not_mem_nil) dL_pedal_39
      · have hr := hr.trans (if_neg c_3)
        by_cases c_4 : x0 = (3 : Int32)
        · have hr := hr.trans (if_pos c_4)
          refine lv_tableIn (off := 39) (tgt := 40) hx hb dL_pedal_1 (by rw [c_4]; decide) (by rw [c_4]; decide) (by rw [c_4]; rfl) (by decide) ?_
          refine lv_ldc hx hb hown (hts (.constant RL 33 (1064514355)) (List.mem_of_getElem? (i := 3) rfl)) dL_pedal_40 ?_
          subst hr
          exact W.iret hx hb hrt (fun t ht hW => ⟨_, rfl, rfl, ht⟩) (fun q hq => absurd hq List.not_mem_nil) dL_pedal_42
        · have hr := hr.trans (if_neg c_4)
          refine lv_tableOut (tgt := 43) hx hb dL_pedal_1 (by have z0 := lv_neT (k := (0 : Int32)) (a := 0) c_1 rfl; have z1 := lv_neT (k := (1 : Int32)) (a := 1) c_2 rfl; have z2 := lv_neT (k := (2 : Int32)) (a := 2) c_3 rfl; have z3 := lv_neT (k := (3 : Int32)) (a := 3) c_4 rfl; omega) (by decide) ?_
          refine lv_ldc hx hb hown (hts (.constant RL 34 (1065353216)) (List.mem_of_getElem? (i := 4) rfl)) dL_pedal_43 ?_
          subst hr
          exact W.iret hx hb hrt (fun t ht hW => ⟨_, rfl, rfl, ht⟩) (fun q hq => absurd hq List.not_mem_nil) dL_pedal_45

set_option maxHeartbeats 4000000 in
set_option maxRecDepth 100000 in
theorem k_L_deep (l : Launch) (D : va_G) (Y : Nat → ClassId) (x0 : Int32) (R : UInt32) (hr : R = mf_L_deep x0) : Met l yL_deep wsL_deep ({ frames := 0, cells := 0, slots := 0, locals := 0 } : Room) (va_Pc [.int x0] (PR D Y [])) (vp_Sf (fun x => x = R)) 0 0 (fun _ => False) := by
  refine Met.ofW (cc := cL_deep) (maxL := 1) (ret := (some .float)) (by decide) rfl ?_
  intro p e s m args below meth c s₁ B hml hv
  obtain ⟨rfl, hP, hK, hN, hZ⟩ := hv
  have hx := B.exec
  have hb := B.bytes
  have hrt := B.returns
  have hts := atoms_spec (ws := wsL_deep) B.pre
  have hown : s.vm.findClass RL = some m.cls := findClass_of_methodNamed B.named
  have hlocks := B.notSynchronized
  have hS : va_S (fun _ => False) s.heap s.heap [] := va_S.rf
  have hl := lv_entry ([.int x0]) (n := 1) (Nat.le_of_ble_eq_true rfl)
  rw [lg_entry_eq]
  generalize (lg_sl ([.int x0]) ++ List.replicate (1 - (lg_sl ([.int x0])).length) Slot.unset).toArray = ls at hl ⊢
  have hl : lv_has ls 1 [(0, .int x0)] := hl
  rw [mf_L_deep] at hr
  refine lv_iload_n hx hb dL_deep_0 rfl (lv_at hl 0 rfl) ?_
  by_cases c_1 : x0 = (0 : Int32)
  · have hr := hr.trans (if_pos c_1)
    refine lv_tableIn (off := 31) (tgt := 32) hx hb dL_deep_1 (by rw [c_1]; decide) (by rw [c_1]; decide) (by rw [c_1]; rfl) (by decide) ?_
    refine lv_fconst0 hx hb dL_deep_32 ?_
    subst hr
    exact W.fret hx hb hrt (fun t ht hW => ⟨_, rfl, rfl, ht⟩) (fun q hq => absurd hq List.not_mem_nil) dL_deep_33
  · have hr := hr.trans (if_neg c_1)
    by_cases c_2 : x0 = (1 : Int32)
    · have hr := hr.trans (if_pos c_2)
      refine lv_tableIn (off := 33) (tgt := 34) hx hb dL_deep_1 (by rw [c_2]; decide) (by rw [c_2]; decide) (by rw [c_2]; rfl) (by decide) ?_
      refine lv_ldcf hx hb hown (hts (.constantFloat RL 35 (1048576000)) (List.mem_of_getElem? (i := 1) rfl)) dL_deep_34 ?_
      subst hr
      exact W.fret hx hb hrt (fun t ht hW => ⟨_, rfl, rfl, ht⟩) (fun q hq => absurd hq List.not_mem_nil) dL_deep_36
    · have hr := hr.trans (if_neg c_2)
      by_cases c_3 : x0 = (2 : Int32)
      · have hr := hr.trans (if_pos c_3)
        refine lv_tableIn (off := 36) (tgt := 37) hx hb dL_deep_1 (by rw [c_3]; decide) (by rw [c_3]; decide) (by rw [c_3]; rfl) (by decide) ?_
        refine lv_ldcf hx hb hown (hts (.constantFloat RL 36 (1056964608)) (List.mem_of_getElem? (i := 2) rfl)) dL_deep_37 ?_
        subst hr
        exact W.fret hx hb hrt (fun t ht hW => ⟨_, rfl, rfl, ht⟩) (fun q hq => absurd hq List.not_mem_nil) dL_deep_39
      · have hr := hr.trans (if_neg c_3)
        by_cases c_4 : x0 = (3 : Int32)
        · have hr := hr.trans (if_pos c_4)
          refine lv_tableIn (off := 39) (tgt := 40) hx hb dL_deep_1 (by rw [c_4]; decide) (by rw [c_4]; decide) (by rw [c_4]; rfl) (by decide) ?_
          refine lv_ldcf hx hb hown (hts (.constantFloat RL 37 (1064514355)) (List.mem_of_getElem? (i := 3) rfl)) dL_deep_40 ?_
          subst hr
          exact W.fret hx hb hrt (fun t ht hW => ⟨_, rfl, rfl, ht⟩) (fun q hq => absurd hq List.not_mem_nil) dL_deep_42
        · have hr := hr.trans (if_neg c_4)
          refine lv_tableOut (tgt := 43) hx hb dL_deep_1 (by have z0 := lv_neT (k := (0 : Int32)) (a := 0) c_1 rfl; have z1 := lv_neT (k := (1 : Int32)) (a := 1) c_2 rfl; have z2 := lv_neT (k := (2 : Int32)) (a := 2) c_3 rfl; have z3 := lv_neT (k := (3 : Int32)) (a := 3) c_4 rfl; omega) (by decide) ?_
          refine lv_fconst1 hx hb dL_deep_43 ?_
          subst hr
          exact W.fret hx hb hrt (fun t ht hW => ⟨_, rfl, rfl, ht⟩) (fun q hq => absurd hq List.not_mem_nil) dL_deep_44

set_option maxHeartbeats 4000000 in
set_option maxRecDepth 100000 in
theorem k_L_isNone (l : Launch) (D : va_G) (Y : Nat → ClassId) (x0 : UInt32) (R : Int32) (hr : R = mf_L_isNone x0) : Met l yL_isNone wsL_isNone ({ frames := 0, cells := 0, slots := 0, locals := 0 } : Room) (va_Pc [.float x0] (PR D Y [])) (vp_Si (fun x => x = R)) 0 0 (fun _ => False) := by
  refine Met.ofW (cc := cL_isNone) (maxL := 1) (ret := (some .boolean)) (by decide) rfl ?_
  intro p e s m args below meth c s₁ B hml hv
  obtain ⟨rfl, hP, hK, hN, hZ⟩ := hv
  have hx := B.exec
  have hb := B.bytes
  have hrt := B.returns
  have hts := atoms_spec (ws := wsL_isNone) B.pre
  have hown : s.vm.findClass RL = some m.cls := findClass_of_methodNamed B.named
  have hlocks := B.notSynchronized
  have hS : va_S (fun _ => False) s.heap s.heap [] := va_S.rf
  have hl := lv_entry ([.float x0]) (n := 1) (Nat.le_of_ble_eq_true rfl)
  rw [lg_entry_eq]
  generalize (lg_sl ([.float x0]) ++ List.replicate (1 - (lg_sl ([.float x0])).length) Slot.unset).toArray = ls at hl ⊢
  have hl : lv_has ls 1 [(0, .float x0)] := hl
  rw [mf_L_isNone] at hr
  refine lv_fload_n hx hb dL_isNone_0 rfl (lv_at hl 0 rfl) ?_
  refine lv_fload_n hx hb dL_isNone_1 rfl (lv_at hl 0 rfl) ?_
  refine lv_fcmp hx hb dL_isNone_2 ?_
  refine lv_if_eq (tgt := 10) hx hb dL_isNone_3 (by decide) (fun c_1 => ?_) (fun c_1 => ?_)
  · have hr := hr.trans (if_pos c_1)
    refine lv_iconst (v := (0 : Int32)) hx hb dL_isNone_10 (by decide) ?_
    subst hr
    exact W.zret (ty := .boolean) hx hb hrt (by decide) (fun t ht hW => ⟨_, rfl, rfl, ht⟩) (fun q hq => absurd hq List.not_mem_nil) dL_isNone_11
  · have hr := hr.trans (if_neg c_1)
    refine lv_iconst (v := (1 : Int32)) hx hb dL_isNone_6 (by decide) ?_
    refine lv_goto (tgt := 11) hx hb dL_isNone_7 (by decide) ?_
    subst hr
    exact W.zret (ty := .boolean) hx hb hrt (by decide) (fun t ht hW => ⟨_, rfl, rfl, ht⟩) (fun q hq => absurd hq List.not_mem_nil) dL_isNone_11

set_option maxHeartbeats 4000000 in
set_option maxRecDepth 100000 in
theorem k_L_isClosed (l : Launch) (D : va_G) (Y : Nat → ClassId) (x0 : Int32) (x1 : Int32) (R : Int32) (hr : R = mf_L_isClosed x0 x1) : Met l yL_isClosed wsL_isClosed ({ frames := 0, cells := 0, slots := 0, locals := 0 } : Room) (va_Pc [.int x0, .int x1] (PR D Y [])) (vp_Si (fun x => x = R)) 0 0 (fun _ => False) := by
  refine Met.ofW (cc := cL_isClosed) (maxL := 3) (ret := (some .boolean)) (by decide) rfl ?_
  intro p e s m args below meth c s₁ B hml hv
  obtain ⟨rfl, hP, hK, hN, hZ⟩ := hv
  have hx := B.exec
  have hb := B.bytes
  have hrt := B.returns
  have hts := atoms_spec (ws := wsL_isClosed) B.pre
  have hown : s.vm.findClass RL = some m.cls := findClass_of_methodNamed B.named
  have hlocks := B.notSynchronized
  have hS : va_S (fun _ => False) s.heap s.heap [] := va_S.rf
  have hl := lv_entry ([.int x0, .int x1]) (n := 3) (Nat.le_of_ble_eq_true rfl)
  rw [lg_entry_eq]
  generalize (lg_sl ([.int x0, .int x1]) ++ List.replicate (3 - (lg_sl ([.int x0, .int x1])).length) Slot.unset).toArray = ls at hl ⊢
  have hl : lv_has ls 3 [(0, .int x0), (1, .int x1)] := hl
  have B40 : ∀ (z1 : Int32) (y0 : Int32) (ls : Array Slot), R = mf_L_isClosed_B40 z1 y0 → lv_has ls 3 [(1, .int z1)] → W p l e ({ frames := 0, cells := 0, slots := 0, locals := 0 } : Room) s m ([.int x0, .int x1] : List Value).toArray below meth c s.heap [] 0 0 (MQ below (vp_Si (fun x => x = R)) ([.int x0, .int x1] : List Value).toArray s 0 0 (fun _ => False)) (F0 m 40 ls [.int y0]) := by
    intro z1 y0 ls hr hl
    rw [mf_L_isClosed_B40] at hr
    refine lv_istore_n (lv' := [(2, .int y0), (1, .int z1)]) hx hb dL_isClosed_40 rfl hl (by decide) rfl (fun ls hl => ?_)
    refine lv_iload_n hx hb dL_isClosed_41 rfl (lv_at hl 0 rfl) ?_
    refine lv_iload_n hx hb dL_isClosed_42 rfl (lv_at hl 1 rfl) ?_
    refine lv_ishr hx hb dL_isClosed_43 ?_
    refine lv_iconst (v := (1 : Int32)) hx hb dL_isClosed_44 (by decide) ?_
    refine lv_iand hx hb dL_isClosed_45 ?_
    refine lv_iconst (v := (1 : Int32)) hx hb dL_isClosed_46 (by decide) ?_
    refine lv_icmp_ne (tgt := 54) hx hb dL_isClosed_47 (by decide) (fun c_5 => ?_) (fun c_5 => ?_)
    · have hr := hr.trans (if_neg c_5)
      refine lv_iconst (v := (0 : Int32)) hx hb dL_isClosed_54 (by decide) ?_
      subst hr
      exact W.zret (ty := .boolean) hx hb hrt (by decide) (fun t ht hW => ⟨_, rfl, rfl, ht⟩) (fun q hq => absurd hq List.not_mem_nil) dL_isClosed_55
    · have hr := hr.trans (if_pos c_5)
      refine lv_iconst (v := (1 : Int32)) hx hb dL_isClosed_50 (by decide) ?_
      refine lv_goto (tgt := 55) hx hb dL_isClosed_51 (by decide) ?_
      subst hr
      exact W.zret (ty := .boolean) hx hb hrt (by decide) (fun t ht hW => ⟨_, rfl, rfl, ht⟩) (fun q hq => absurd hq List.not_mem_nil) dL_isClosed_55
  rw [mf_L_isClosed] at hr
  refine lv_iload_n hx hb dL_isClosed_0 rfl (lv_at hl 0 rfl) ?_
  refine lv_iconst (v := (1 : Int32)) hx hb dL_isClosed_1 (by decide) ?_
  refine lv_icmp_ne (tgt := 10) hx hb dL_isClosed_2 (by decide) (fun c_1 => ?_) (fun c_1 => ?_)
  · have hr := hr.trans (if_neg c_1)
    refine lv_iload_n hx hb dL_isClosed_10 rfl (lv_at hl 0 rfl) ?_
    refine lv_iconst (v := (2 : Int32)) hx hb dL_isClosed_11 (by decide) ?_
    refine lv_icmp_ne (tgt := 20) hx hb dL_isClosed_12 (by decide) (fun c_2 => ?_) (fun c_2 => ?_)
    · have hr := hr.trans (if_neg c_2)
      refine lv_iload_n hx hb dL_isClosed_20 rfl (lv_at hl 0 rfl) ?_
      refine lv_iconst (v := (3 : Int32)) hx hb dL_isClosed_21 (by decide) ?_
      refine lv_icmp_ne (tgt := 29) hx hb dL_isClosed_22 (by decide) (fun c_3 => ?_) (fun c_3 => ?_)
      · have hr := hr.trans (if_neg c_3)
        refine lv_iload_n hx hb dL_isClosed_29 rfl (lv_at hl 0 rfl) ?_
        refine lv_iconst (v := (4 : Int32)) hx hb dL_isClosed_30 (by decide) ?_
        refine lv_icmp_ne (tgt := 38) hx hb dL_isClosed_31 (by decide) (fun c_4 => ?_) (fun c_4 => ?_)
        · have hr := hr.trans (if_neg c_4)
          refine lv_bipush (v := (6 : Int32)) hx hb dL_isClosed_38 (by decide) ?_
          exact B40 x1 (6 : Int32) _ hr (lv_sub hl [1] rfl)
        · have hr := hr.trans (if_pos c_4)
          refine lv_iconst (v := (3 : Int32)) hx hb dL_isClosed_34 (by decide) ?_
          refine lv_goto (tgt := 40) hx hb dL_isClosed_35 (by decide) ?_
          exact B40 x1 (3 : Int32) _ hr (lv_sub hl [1] rfl)
      · have hr := hr.trans (if_pos c_3)
        refine lv_iconst (v := (5 : Int32)) hx hb dL_isClosed_25 (by decide) ?_
        refine lv_goto (tgt := 40) hx hb dL_isClosed_26 (by decide) ?_
        exact B40 x1 (5 : Int32) _ hr (lv_sub hl [1] rfl)
    · have hr := hr.trans (if_pos c_2)
      refine lv_bipush (v := (9 : Int32)) hx hb dL_isClosed_15 (by decide) ?_
      refine lv_goto (tgt := 40) hx hb dL_isClosed_17 (by decide) ?_
      exact B40 x1 (9 : Int32) _ hr (lv_sub hl [1] rfl)
  · have hr := hr.trans (if_pos c_1)
    refine lv_bipush (v := (17 : Int32)) hx hb dL_isClosed_5 (by decide) ?_
    refine lv_goto (tgt := 40) hx hb dL_isClosed_7 (by decide) ?_
    exact B40 x1 (17 : Int32) _ hr (lv_sub hl [1] rfl)

set_option maxHeartbeats 4000000 in
set_option maxRecDepth 100000 in
theorem k_L_wentToAndFro (l : Launch) (D : va_G) (Y : Nat → ClassId) (ad : Nat → Nat) (V : CarV) (R : Int32) (hr : some R = mf_L_wentToAndFro V) : Met l yL_wentToAndFro wsL_wentToAndFro ({ frames := 2, cells := 0, slots := 0, locals := 46 } : Room) (va_Pc [.ref (ad 0)] (PR D Y (carW Y ad V))) (vp_Si (fun x => x = R)) 0 0 (fun _ => False) := by
  refine Met.ofW (cc := cL_wentToAndFro) (maxL := 3) (ret := (some .boolean)) (by decide) rfl ?_
  intro p e s m args below meth c s₁ B hml hv
  obtain ⟨rfl, hP, hK, hN, hZ⟩ := hv
  have hx := B.exec
  have hb := B.bytes
  have hrt := B.returns
  have hts := atoms_spec (ws := wsL_wentToAndFro) B.pre
  have hown : s.vm.findClass RL = some m.cls := findClass_of_methodNamed B.named
  have hlocks := B.notSynchronized
  have hS : va_S (fun _ => False) s.heap s.heap [] := va_S.rf
  have hl := lv_entry ([.ref (ad 0)]) (n := 3) (Nat.le_of_ble_eq_true rfl)
  rw [lg_entry_eq]
  generalize (lg_sl ([.ref (ad 0)]) ++ List.replicate (3 - (lg_sl ([.ref (ad 0)])).length) Slot.unset).toArray = ls at hl ⊢
  have hl : lv_has ls 3 [(0, .ref (ad 0))] := hl
  have B38_3 : ∀ (z1 : Int32) (ls : Array Slot), some R = mf_L_wentToAndFro_B38_3 V z1 → lv_has ls 3 [(0, .ref (ad 0)), (1, .int z1), (2, .int (3 : Int32))] → W p l e ({ frames := 2, cells := 0, slots := 0, locals := 46 } : Room) s m ([.ref (ad 0)] : List Value).toArray below meth c s.heap [] 0 0 (MQ below (vp_Si (fun x => x = R)) ([.ref (ad 0)] : List Value).toArray s 0 0 (fun _ => False)) (F0 m 38 ls []) := by
    intro z1 ls hr hl
    rw [mf_L_wentToAndFro_B38_3] at hr
    refine lv_iload_n hx hb dL_wentToAndFro_38 rfl (lv_at hl 2 rfl) ?_
    refine lv_iconst (v := (3 : Int32)) hx hb dL_wentToAndFro_39 (by decide) ?_
    refine lv_icmp_ge (tgt := 99) hx hb dL_wentToAndFro_40 (by decide) (fun _ => ?_) (fun hc => absurd hc (by decide))
    refine lv_iload_n hx hb dL_wentToAndFro_99 rfl (lv_at hl 1 rfl) ?_
    refine gdv hr (fun g_7 hr => ?_)
    have hnz := nar_z g_7
    have hr := Option.some.inj hr
    subst hr
    exact W.zret (ty := .boolean) hx hb hrt hnz (fun t ht hW => ⟨_, rfl, rfl, ht⟩) (fun q hq => absurd hq List.not_mem_nil) dL_wentToAndFro_100
  have B92_2 : ∀ (y0 : Int32) (ls : Array Slot), some R = mf_L_wentToAndFro_B92_2 V y0 → lv_has ls 3 [(0, .ref (ad 0)), (2, .int (2 : Int32))] → W p l e ({ frames := 2, cells := 0, slots := 0, locals := 46 } : Room) s m ([.ref (ad 0)] : List Value).toArray below meth c s.heap [] 0 0 (MQ below (vp_Si (fun x => x = R)) ([.ref (ad 0)] : List Value).toArray s 0 0 (fun _ => False)) (F0 m 92 ls [.int y0]) := by
    intro y0 ls hr hl
    rw [mf_L_wentToAndFro_B92_2] at hr
    refine lv_istore_n (lv' := [(1, .int y0), (0, .ref (ad 0)), (2, .int (2 : Int32))]) hx hb dL_wentToAndFro_92 rfl hl (by decide) rfl (fun ls hl => ?_)
    refine lv_iinc (v := (3 : Int32)) (lv' := [(2, .int (3 : Int32)), (1, .int y0), (0, .ref (ad 0))]) hx hb dL_wentToAndFro_93 hl (k := 2) rfl (by decide) (by decide) rfl (fun ls hl => ?_)
    refine lv_goto (tgt := 38) hx hb dL_wentToAndFro_96 (by decide) ?_
    exact B38_3 y0 _ hr (lv_sub hl [2, 1, 0] rfl)
  have B91_2 : ∀ (ls : Array Slot), some R = mf_L_wentToAndFro_B91_2 V → lv_has ls 3 [(0, .ref (ad 0)), (2, .int (2 : Int32))] → W p l e ({ frames := 2, cells := 0, slots := 0, locals := 46 } : Room) s m ([.ref (ad 0)] : List Value).toArray below meth c s.heap [] 0 0 (MQ below (vp_Si (fun x => x = R)) ([.ref (ad 0)] : List Value).toArray s 0 0 (fun _ => False)) (F0 m 91 ls []) := by
    intro ls hr hl
    rw [mf_L_wentToAndFro_B91_2] at hr
    refine lv_iconst (v := (0 : Int32)) hx hb dL_wentToAndFro_91 (by decide) ?_
    exact B92_2 (0 : Int32) _ hr (lv_sub hl [0, 1] rfl)
  have B87_2 : ∀ (ls : Array Slot), some R = mf_L_wentToAndFro_B87_2 V → lv_has ls 3 [(0, .ref (ad 0)), (2, .int (2 : Int32))] → W p l e ({ frames := 2, cells := 0, slots := 0, locals := 46 } : Room) s m ([.ref (ad 0)] : List Value).toArray below meth c s.heap [] 0 0 (MQ below (vp_Si (fun x => x = R)) ([.ref (ad 0)] : List Value).toArray s 0 0 (fun _ => False)) (F0 m 87 ls []) := by
    intro ls hr hl
    rw [mf_L_wentToAndFro_B87_2] at hr
    refine lv_iconst (v := (1 : Int32)) hx hb dL_wentToAndFro_87 (by decide) ?_
    refine lv_goto (tgt := 92) hx hb dL_wentToAndFro_88 (by decide) ?_
    exact B92_2 (1 : Int32) _ hr (lv_sub hl [0, 1] rfl)
  have B38_2 : ∀ (z1 : Int32) (ls : Array Slot), some R = mf_L_wentToAndFro_B38_2 V z1 → lv_has ls 3 [(0, .ref (ad 0)), (1, .int z1), (2, .int (2 : Int32))] → W p l e ({ frames := 2, cells := 0, slots := 0, locals := 46 } : Room) s m ([.ref (ad 0)] : List Value).toArray below meth c s.heap [] 0 0 (MQ below (vp_Si (fun x => x = R)) ([.ref (ad 0)] : List Value).toArray s 0 0 (fun _ => False)) (F0 m 38 ls []) := by
    intro z1 ls hr hl
    rw [mf_L_wentToAndFro_B38_2] at hr
    refine lv_iload_n hx hb dL_wentToAndFro_38 rfl (lv_at hl 2 rfl) ?_
    refine lv_iconst (v := (3 : Int32)) hx hb dL_wentToAndFro_39 (by decide) ?_
    refine lv_icmp_ge (tgt := 99) hx hb dL_wentToAndFro_40 (by decide) (fun hc => absurd hc (by decide)) (fun _ => ?_)
    refine lv_iload_n hx hb dL_wentToAndFro_43 rfl (lv_at hl 1 rfl) ?_
    refine lv_if_eq (tgt := 91) hx hb dL_wentToAndFro_44 (by decide) (fun c_6 => ?_) (fun c_6 => ?_)
    · have hr := hr.trans (if_pos c_6)
      exact B91_2  _ hr (lv_sub hl [0, 2] rfl)
    · have hr := hr.trans (if_neg c_6)
      refine lv_aload_n hx hb dL_wentToAndFro_47 rfl (lv_at hl 0 rfl) ?_
      refine lv_iload_n hx hb dL_wentToAndFro_48 rfl (lv_at hl 2 rfl) ?_
      refine lv_iconst (v := (3 : Int32)) hx hb dL_wentToAndFro_49 (by decide) ?_
      refine nmv hr (fun r_8 e_9 hr => ?_)
      refine roV_i (As := [.int (2 : Int32), .int (3 : Int32)]) (rest := []) ⟨hx, hb, hml, hown, hts⟩ (k_X5_change l D Y ad V (2 : Int32) (3 : Int32) r_8 e_9) (cwV 2 hts gL_wentToAndFro_X5_change rfl rfl rfl (by decide +kernel) ⟨Nat.le_of_ble_eq_true rfl, Nat.le_of_ble_eq_true rfl⟩) hP hK hN hZ 0 5 rfl rfl rfl hl.1 rfl (Nat.le_of_ble_eq_true rfl) dL_wentToAndFro_50 ⟨Nat.le_refl 0, Nat.le_refl 0⟩ ?_
      refine lv_if_lt (tgt := 91) hx hb dL_wentToAndFro_53 (by decide) (fun c_10 => ?_) (fun c_10 => ?_)
      · have hr := hr.trans (if_pos c_10)
        exact B91_2  _ hr (lv_sub hl [0, 2] rfl)
      · have hr := hr.trans (if_neg c_10)
        refine lv_aload_n hx hb dL_wentToAndFro_56 rfl (lv_at hl 0 rfl) ?_
        refine lv_iload_n hx hb dL_wentToAndFro_57 rfl (lv_at hl 2 rfl) ?_
        refine lv_iconst (v := (3 : Int32)) hx hb dL_wentToAndFro_58 (by decide) ?_
        refine nmv hr (fun r_11 e_12 hr => ?_)
        refine roV_i (As := [.int (2 : Int32), .int (3 : Int32)]) (rest := []) ⟨hx, hb, hml, hown, hts⟩ (k_X5_change l D Y ad V (2 : Int32) (3 : Int32) r_11 e_12) (cwV 2 hts gL_wentToAndFro_X5_change rfl rfl rfl (by decide +kernel) ⟨Nat.le_of_ble_eq_true rfl, Nat.le_of_ble_eq_true rfl⟩) hP hK hN hZ 0 5 rfl rfl rfl hl.1 rfl (Nat.le_of_ble_eq_true rfl) dL_wentToAndFro_59 ⟨Nat.le_refl 0, Nat.le_refl 0⟩ ?_
        refine lv_iconst (v := (1 : Int32)) hx hb dL_wentToAndFro_62 (by decide) ?_
        refine lv_icmp_gt (tgt := 91) hx hb dL_wentToAndFro_63 (by decide) (fun c_13 => ?_) (fun c_13 => ?_)
        · have hr := hr.trans (if_pos c_13)
          exact B91_2  _ hr (lv_sub hl [0, 2] rfl)
        · have hr := hr.trans (if_neg c_13)
          refine lv_iload_n hx hb dL_wentToAndFro_66 rfl (lv_at hl 2 rfl) ?_
          refine lv_if_eq (tgt := 87) hx hb dL_wentToAndFro_67 (by decide) (fun hc => absurd hc (by decide)) (fun _ => ?_)
          refine lv_aload_n hx hb dL_wentToAndFro_70 rfl (lv_at hl 0 rfl) ?_
          refine lv_iload_n hx hb dL_wentToAndFro_71 rfl (lv_at hl 2 rfl) ?_
          refine lv_iconst (v := (3 : Int32)) hx hb dL_wentToAndFro_72 (by decide) ?_
          refine nmv hr (fun r_14 e_15 hr => ?_)
          refine roV_i (As := [.int (2 : Int32), .int (3 : Int32)]) (rest := []) ⟨hx, hb, hml, hown, hts⟩ (k_X5_change l D Y ad V (2 : Int32) (3 : Int32) r_14 e_15) (cwV 2 hts gL_wentToAndFro_X5_change rfl rfl rfl (by decide +kernel) ⟨Nat.le_of_ble_eq_true rfl, Nat.le_of_ble_eq_true rfl⟩) hP hK hN hZ 0 5 rfl rfl rfl hl.1 rfl (Nat.le_of_ble_eq_true rfl) dL_wentToAndFro_73 ⟨Nat.le_refl 0, Nat.le_refl 0⟩ ?_
          refine lv_aload_n hx hb dL_wentToAndFro_76 rfl (lv_at hl 0 rfl) ?_
          refine lv_iload_n hx hb dL_wentToAndFro_77 rfl (lv_at hl 2 rfl) ?_
          refine lv_iconst (v := (1 : Int32)) hx hb dL_wentToAndFro_78 (by decide) ?_
          refine lv_isub hx hb dL_wentToAndFro_79 ?_
          refine lv_iconst (v := (3 : Int32)) hx hb dL_wentToAndFro_80 (by decide) ?_
          refine nmv hr (fun r_16 e_17 hr => ?_)
          refine roV_i (As := [.int ((2 : Int32) - (1 : Int32)), .int (3 : Int32)]) (rest := [.int r_14]) ⟨hx, hb, hml, hown, hts⟩ (k_X5_change l D Y ad V ((2 : Int32) - (1 : Int32)) (3 : Int32) r_16 e_17) (cwV 2 hts gL_wentToAndFro_X5_change rfl rfl rfl (by decide +kernel) ⟨Nat.le_of_ble_eq_true rfl, Nat.le_of_ble_eq_true rfl⟩) hP hK hN hZ 0 5 rfl rfl rfl hl.1 rfl (Nat.le_of_ble_eq_true rfl) dL_wentToAndFro_81 ⟨Nat.le_refl 0, Nat.le_refl 0⟩ ?_
          refine lv_icmp_eq (tgt := 91) hx hb dL_wentToAndFro_84 (by decide) (fun c_18 => ?_) (fun c_18 => ?_)
          · have hr := hr.trans (if_pos c_18)
            exact B91_2  _ hr (lv_sub hl [0, 2] rfl)
          · have hr := hr.trans (if_neg c_18)
            exact B87_2  _ hr (lv_sub hl [0, 2] rfl)
  have B92_1 : ∀ (y0 : Int32) (ls : Array Slot), some R = mf_L_wentToAndFro_B92_1 V y0 → lv_has ls 3 [(0, .ref (ad 0)), (2, .int (1 : Int32))] → W p l e ({ frames := 2, cells := 0, slots := 0, locals := 46 } : Room) s m ([.ref (ad 0)] : List Value).toArray below meth c s.heap [] 0 0 (MQ below (vp_Si (fun x => x = R)) ([.ref (ad 0)] : List Value).toArray s 0 0 (fun _ => False)) (F0 m 92 ls [.int y0]) := by
    intro y0 ls hr hl
    rw [mf_L_wentToAndFro_B92_1] at hr
    refine lv_istore_n (lv' := [(1, .int y0), (0, .ref (ad 0)), (2, .int (1 : Int32))]) hx hb dL_wentToAndFro_92 rfl hl (by decide) rfl (fun ls hl => ?_)
    refine lv_iinc (v := (2 : Int32)) (lv' := [(2, .int (2 : Int32)), (1, .int y0), (0, .ref (ad 0))]) hx hb dL_wentToAndFro_93 hl (k := 2) rfl (by decide) (by decide) rfl (fun ls hl => ?_)
    refine lv_goto (tgt := 38) hx hb dL_wentToAndFro_96 (by decide) ?_
    exact B38_2 y0 _ hr (lv_sub hl [2, 1, 0] rfl)
  have B91_1 : ∀ (ls : Array Slot), some R = mf_L_wentToAndFro_B91_1 V → lv_has ls 3 [(0, .ref (ad 0)), (2, .int (1 : Int32))] → W p l e ({ frames := 2, cells := 0, slots := 0, locals := 46 } : Room) s m ([.ref (ad 0)] : List Value).toArray below meth c s.heap [] 0 0 (MQ below (vp_Si (fun x => x = R)) ([.ref (ad 0)] : List Value).toArray s 0 0 (fun _ => False)) (F0 m 91 ls []) := by
    intro ls hr hl
    rw [mf_L_wentToAndFro_B91_1] at hr
    refine lv_iconst (v := (0 : Int32)) hx hb dL_wentToAndFro_91 (by decide) ?_
    exact B92_1 (0 : Int32) _ hr (lv_sub hl [0, 1] rfl)
  have B87_1 : ∀ (ls : Array Slot), some R = mf_L_wentToAndFro_B87_1 V → lv_has ls 3 [(0, .ref (ad 0)), (2, .int (1 : Int32))] → W p l e ({ frames := 2, cells := 0, slots := 0, locals := 46 } : Room) s m ([.ref (ad 0)] : List Value).toArray below meth c s.heap [] 0 0 (MQ below (vp_Si (fun x => x = R)) ([.ref (ad 0)] : List Value).toArray s 0 0 (fun _ => False)) (F0 m 87 ls []) := by
    intro ls hr hl
    rw [mf_L_wentToAndFro_B87_1] at hr
    refine lv_iconst (v := (1 : Int32)) hx hb dL_wentToAndFro_87 (by decide) ?_
    refine lv_goto (tgt := 92) hx hb dL_wentToAndFro_88 (by decide) ?_
    exact B92_1 (1 : Int32) _ hr (lv_sub hl [0, 1] rfl)
  have B38_1 : ∀ (z1 : Int32) (ls : Array Slot), some R = mf_L_wentToAndFro_B38_1 V z1 → lv_has ls 3 [(0, .ref (ad 0)), (1, .int z1), (2, .int (1 : Int32))] → W p l e ({ frames := 2, cells := 0, slots := 0, locals := 46 } : Room) s m ([.ref (ad 0)] : List Value).toArray below meth c s.heap [] 0 0 (MQ below (vp_Si (fun x => x = R)) ([.ref (ad 0)] : List Value).toArray s 0 0 (fun _ => False)) (F0 m 38 ls []) := by
    intro z1 ls hr hl
    rw [mf_L_wentToAndFro_B38_1] at hr
    refine lv_iload_n hx hb dL_wentToAndFro_38 rfl (lv_at hl 2 rfl) ?_
    refine lv_iconst (v := (3 : Int32)) hx hb dL_wentToAndFro_39 (by decide) ?_
    refine lv_icmp_ge (tgt := 99) hx hb dL_wentToAndFro_40 (by decide) (fun hc => absurd hc (by decide)) (fun _ => ?_)
    refine lv_iload_n hx hb dL_wentToAndFro_43 rfl (lv_at hl 1 rfl) ?_
    refine lv_if_eq (tgt := 91) hx hb dL_wentToAndFro_44 (by decide) (fun c_5 => ?_) (fun c_5 => ?_)
    · have hr := hr.trans (if_pos c_5)
      exact B91_1  _ hr (lv_sub hl [0, 2] rfl)
    · have hr := hr.trans (if_neg c_5)
      refine lv_aload_n hx hb dL_wentToAndFro_47 rfl (lv_at hl 0 rfl) ?_
      refine lv_iload_n hx hb dL_wentToAndFro_48 rfl (lv_at hl 2 rfl) ?_
      refine lv_iconst (v := (3 : Int32)) hx hb dL_wentToAndFro_49 (by decide) ?_
      refine nmv hr (fun r_19 e_20 hr => ?_)
      refine roV_i (As := [.int (1 : Int32), .int (3 : Int32)]) (rest := []) ⟨hx, hb, hml, hown, hts⟩ (k_X5_change l D Y ad V (1 : Int32) (3 : Int32) r_19 e_20) (cwV 2 hts gL_wentToAndFro_X5_change rfl rfl rfl (by decide +kernel) ⟨Nat.le_of_ble_eq_true rfl, Nat.le_of_ble_eq_true rfl⟩) hP hK hN hZ 0 5 rfl rfl rfl hl.1 rfl (Nat.le_of_ble_eq_true rfl) dL_wentToAndFro_50 ⟨Nat.le_refl 0, Nat.le_refl 0⟩ ?_
      refine lv_if_lt (tgt := 91) hx hb dL_wentToAndFro_53 (by decide) (fun c_21 => ?_) (fun c_21 => ?_)
      · have hr := hr.trans (if_pos c_21)
        exact B91_1  _ hr (lv_sub hl [0, 2] rfl)
      · have hr := hr.trans (if_neg c_21)
        refine lv_aload_n hx hb dL_wentToAndFro_56 rfl (lv_at hl 0 rfl) ?_
        refine lv_iload_n hx hb dL_wentToAndFro_57 rfl (lv_at hl 2 rfl) ?_
        refine lv_iconst (v := (3 : Int32)) hx hb dL_wentToAndFro_58 (by decide) ?_
        refine nmv hr (fun r_22 e_23 hr => ?_)
        refine roV_i (As := [.int (1 : Int32), .int (3 : Int32)]) (rest := []) ⟨hx, hb, hml, hown, hts⟩ (k_X5_change l D Y ad V (1 : Int32) (3 : Int32) r_22 e_23) (cwV 2 hts gL_wentToAndFro_X5_change rfl rfl rfl (by decide +kernel) ⟨Nat.le_of_ble_eq_true rfl, Nat.le_of_ble_eq_true rfl⟩) hP hK hN hZ 0 5 rfl rfl rfl hl.1 rfl (Nat.le_of_ble_eq_true rfl) dL_wentToAndFro_59 ⟨Nat.le_refl 0, Nat.le_refl 0⟩ ?_
        refine lv_iconst (v := (1 : Int32)) hx hb dL_wentToAndFro_62 (by decide) ?_
        refine lv_icmp_gt (tgt := 91) hx hb dL_wentToAndFro_63 (by decide) (fun c_24 => ?_) (fun c_24 => ?_)
        · have hr := hr.trans (if_pos c_24)
          exact B91_1  _ hr (lv_sub hl [0, 2] rfl)
        · have hr := hr.trans (if_neg c_24)
          refine lv_iload_n hx hb dL_wentToAndFro_66 rfl (lv_at hl 2 rfl) ?_
          refine lv_if_eq (tgt := 87) hx hb dL_wentToAndFro_67 (by decide) (fun hc => absurd hc (by decide)) (fun _ => ?_)
          refine lv_aload_n hx hb dL_wentToAndFro_70 rfl (lv_at hl 0 rfl) ?_
          refine lv_iload_n hx hb dL_wentToAndFro_71 rfl (lv_at hl 2 rfl) ?_
          refine lv_iconst (v := (3 : Int32)) hx hb dL_wentToAndFro_72 (by decide) ?_
          refine nmv hr (fun r_25 e_26 hr => ?_)
          refine roV_i (As := [.int (1 : Int32), .int (3 : Int32)]) (rest := []) ⟨hx, hb, hml, hown, hts⟩ (k_X5_change l D Y ad V (1 : Int32) (3 : Int32) r_25 e_26) (cwV 2 hts gL_wentToAndFro_X5_change rfl rfl rfl (by decide +kernel) ⟨Nat.le_of_ble_eq_true rfl, Nat.le_of_ble_eq_true rfl⟩) hP hK hN hZ 0 5 rfl rfl rfl hl.1 rfl (Nat.le_of_ble_eq_true rfl) dL_wentToAndFro_73 ⟨Nat.le_refl 0, Nat.le_refl 0⟩ ?_
          refine lv_aload_n hx hb dL_wentToAndFro_76 rfl (lv_at hl 0 rfl) ?_
          refine lv_iload_n hx hb dL_wentToAndFro_77 rfl (lv_at hl 2 rfl) ?_
          refine lv_iconst (v := (1 : Int32)) hx hb dL_wentToAndFro_78 (by decide) ?_
          refine lv_isub hx hb dL_wentToAndFro_79 ?_
          refine lv_iconst (v := (3 : Int32)) hx hb dL_wentToAndFro_80 (by decide) ?_
          refine nmv hr (fun r_27 e_28 hr => ?_)
          refine roV_i (As := [.int ((1 : Int32) - (1 : Int32)), .int (3 : Int32)]) (rest := [.int r_25]) ⟨hx, hb, hml, hown, hts⟩ (k_X5_change l D Y ad V ((1 : Int32) - (1 : Int32)) (3 : Int32) r_27 e_28) (cwV 2 hts gL_wentToAndFro_X5_change rfl rfl rfl (by decide +kernel) ⟨Nat.le_of_ble_eq_true rfl, Nat.le_of_ble_eq_true rfl⟩) hP hK hN hZ 0 5 rfl rfl rfl hl.1 rfl (Nat.le_of_ble_eq_true rfl) dL_wentToAndFro_81 ⟨Nat.le_refl 0, Nat.le_refl 0⟩ ?_
          refine lv_icmp_eq (tgt := 91) hx hb dL_wentToAndFro_84 (by decide) (fun c_29 => ?_) (fun c_29 => ?_)
          · have hr := hr.trans (if_pos c_29)
            exact B91_1  _ hr (lv_sub hl [0, 2] rfl)
          · have hr := hr.trans (if_neg c_29)
            exact B87_1  _ hr (lv_sub hl [0, 2] rfl)
  have B92_0 : ∀ (y0 : Int32) (ls : Array Slot), some R = mf_L_wentToAndFro_B92_0 V y0 → lv_has ls 3 [(0, .ref (ad 0)), (2, .int (0 : Int32))] → W p l e ({ frames := 2, cells := 0, slots := 0, locals := 46 } : Room) s m ([.ref (ad 0)] : List Value).toArray below meth c s.heap [] 0 0 (MQ below (vp_Si (fun x => x = R)) ([.ref (ad 0)] : List Value).toArray s 0 0 (fun _ => False)) (F0 m 92 ls [.int y0]) := by
    intro y0 ls hr hl
    rw [mf_L_wentToAndFro_B92_0] at hr
    refine lv_istore_n (lv' := [(1, .int y0), (0, .ref (ad 0)), (2, .int (0 : Int32))]) hx hb dL_wentToAndFro_92 rfl hl (by decide) rfl (fun ls hl => ?_)
    refine lv_iinc (v := (1 : Int32)) (lv' := [(2, .int (1 : Int32)), (1, .int y0), (0, .ref (ad 0))]) hx hb dL_wentToAndFro_93 hl (k := 2) rfl (by decide) (by decide) rfl (fun ls hl => ?_)
    refine lv_goto (tgt := 38) hx hb dL_wentToAndFro_96 (by decide) ?_
    exact B38_1 y0 _ hr (lv_sub hl [2, 1, 0] rfl)
  have B91_0 : ∀ (ls : Array Slot), some R = mf_L_wentToAndFro_B91_0 V → lv_has ls 3 [(0, .ref (ad 0)), (2, .int (0 : Int32))] → W p l e ({ frames := 2, cells := 0, slots := 0, locals := 46 } : Room) s m ([.ref (ad 0)] : List Value).toArray below meth c s.heap [] 0 0 (MQ below (vp_Si (fun x => x = R)) ([.ref (ad 0)] : List Value).toArray s 0 0 (fun _ => False)) (F0 m 91 ls []) := by
    intro ls hr hl
    rw [mf_L_wentToAndFro_B91_0] at hr
    refine lv_iconst (v := (0 : Int32)) hx hb dL_wentToAndFro_91 (by decide) ?_
    exact B92_0 (0 : Int32) _ hr (lv_sub hl [0, 1] rfl)
  have B87_0 : ∀ (ls : Array Slot), some R = mf_L_wentToAndFro_B87_0 V → lv_has ls 3 [(0, .ref (ad 0)), (2, .int (0 : Int32))] → W p l e ({ frames := 2, cells := 0, slots := 0, locals := 46 } : Room) s m ([.ref (ad 0)] : List Value).toArray below meth c s.heap [] 0 0 (MQ below (vp_Si (fun x => x = R)) ([.ref (ad 0)] : List Value).toArray s 0 0 (fun _ => False)) (F0 m 87 ls []) := by
    intro ls hr hl
    rw [mf_L_wentToAndFro_B87_0] at hr
    refine lv_iconst (v := (1 : Int32)) hx hb dL_wentToAndFro_87 (by decide) ?_
    refine lv_goto (tgt := 92) hx hb dL_wentToAndFro_88 (by decide) ?_
    exact B92_0 (1 : Int32) _ hr (lv_sub hl [0, 1] rfl)
  have B38_0 : ∀ (z1 : Int32) (ls : Array Slot), some R = mf_L_wentToAndFro_B38_0 V z1 → lv_has ls 3 [(0, .ref (ad 0)), (1, .int z1), (2, .int (0 : Int32))] → W p l e ({ frames := 2, cells := 0, slots := 0, locals := 46 } : Room) s m ([.ref (ad 0)] : List Value).toArray below meth c s.heap [] 0 0 (MQ below (vp_Si (fun x => x = R)) ([.ref (ad 0)] : List Value).toArray s 0 0 (fun _ => False)) (F0 m 38 ls []) := by
    intro z1 ls hr hl
    rw [mf_L_wentToAndFro_B38_0] at hr
    refine lv_iload_n hx hb dL_wentToAndFro_38 rfl (lv_at hl 2 rfl) ?_
    refine lv_iconst (v := (3 : Int32)) hx hb dL_wentToAndFro_39 (by decide) ?_
    refine lv_icmp_ge (tgt := 99) hx hb dL_wentToAndFro_40 (by decide) (fun hc => absurd hc (by decide)) (fun _ => ?_)
    refine lv_iload_n hx hb dL_wentToAndFro_43 rfl (lv_at hl 1 rfl) ?_
    refine lv_if_eq (tgt := 91) hx hb dL_wentToAndFro_44 (by decide) (fun c_4 => ?_) (fun c_4 => ?_)
    · have hr := hr.trans (if_pos c_4)
      exact B91_0  _ hr (lv_sub hl [0, 2] rfl)
    · have hr := hr.trans (if_neg c_4)
      refine lv_aload_n hx hb dL_wentToAndFro_47 rfl (lv_at hl 0 rfl) ?_
      refine lv_iload_n hx hb dL_wentToAndFro_48 rfl (lv_at hl 2 rfl) ?_
      refine lv_iconst (v := (3 : Int32)) hx hb dL_wentToAndFro_49 (by decide) ?_
      refine nmv hr (fun r_30 e_31 hr => ?_)
      refine roV_i (As := [.int (0 : Int32), .int (3 : Int32)]) (rest := []) ⟨hx, hb, hml, hown, hts⟩ (k_X5_change l D Y ad V (0 : Int32) (3 : Int32) r_30 e_31) (cwV 2 hts gL_wentToAndFro_X5_change rfl rfl rfl (by decide +kernel) ⟨Nat.le_of_ble_eq_true rfl, Nat.le_of_ble_eq_true rfl⟩) hP hK hN hZ 0 5 rfl rfl rfl hl.1 rfl (Nat.le_of_ble_eq_true rfl) dL_wentToAndFro_50 ⟨Nat.le_refl 0, Nat.le_refl 0⟩ ?_
      refine lv_if_lt (tgt := 91) hx hb dL_wentToAndFro_53 (by decide) (fun c_32 => ?_) (fun c_32 => ?_)
      · have hr := hr.trans (if_pos c_32)
        exact B91_0  _ hr (lv_sub hl [0, 2] rfl)
      · have hr := hr.trans (if_neg c_32)
        refine lv_aload_n hx hb dL_wentToAndFro_56 rfl (lv_at hl 0 rfl) ?_
        refine lv_iload_n hx hb dL_wentToAndFro_57 rfl (lv_at hl 2 rfl) ?_
        refine lv_iconst (v := (3 : Int32)) hx hb dL_wentToAndFro_58 (by decide) ?_
        refine nmv hr (fun r_33 e_34 hr => ?_)
        refine roV_i (As := [.int (0 : Int32), .int (3 : Int32)]) (rest := []) ⟨hx, hb, hml, hown, hts⟩ (k_X5_change l D Y ad V (0 : Int32) (3 : Int32) r_33 e_34) (cwV 2 hts gL_wentToAndFro_X5_change rfl rfl rfl (by decide +kernel) ⟨Nat.le_of_ble_eq_true rfl, Nat.le_of_ble_eq_true rfl⟩) hP hK hN hZ 0 5 rfl rfl rfl hl.1 rfl (Nat.le_of_ble_eq_true rfl) dL_wentToAndFro_59 ⟨Nat.le_refl 0, Nat.le_refl 0⟩ ?_
        refine lv_iconst (v := (1 : Int32)) hx hb dL_wentToAndFro_62 (by decide) ?_
        refine lv_icmp_gt (tgt := 91) hx hb dL_wentToAndFro_63 (by decide) (fun c_35 => ?_) (fun c_35 => ?_)
        · have hr := hr.trans (if_pos c_35)
          exact B91_0  _ hr (lv_sub hl [0, 2] rfl)
        · have hr := hr.trans (if_neg c_35)
          refine lv_iload_n hx hb dL_wentToAndFro_66 rfl (lv_at hl 2 rfl) ?_
          refine lv_if_eq (tgt := 87) hx hb dL_wentToAndFro_67 (by decide) (fun _ => ?_) (fun hc => absurd hc (by decide))
          exact B87_0  _ hr (lv_sub hl [0, 2] rfl)
  have B35 : ∀ (y0 : Int32) (ls : Array Slot), some R = mf_L_wentToAndFro_B35 V y0 → lv_has ls 3 [(0, .ref (ad 0))] → W p l e ({ frames := 2, cells := 0, slots := 0, locals := 46 } : Room) s m ([.ref (ad 0)] : List Value).toArray below meth c s.heap [] 0 0 (MQ below (vp_Si (fun x => x = R)) ([.ref (ad 0)] : List Value).toArray s 0 0 (fun _ => False)) (F0 m 35 ls [.int y0]) := by
    intro y0 ls hr hl
    rw [mf_L_wentToAndFro_B35] at hr
    refine lv_istore_n (lv' := [(1, .int y0), (0, .ref (ad 0))]) hx hb dL_wentToAndFro_35 rfl hl (by decide) rfl (fun ls hl => ?_)
    refine lv_iconst (v := (0 : Int32)) hx hb dL_wentToAndFro_36 (by decide) ?_
    refine lv_istore_n (lv' := [(2, .int (0 : Int32)), (1, .int y0), (0, .ref (ad 0))]) hx hb dL_wentToAndFro_37 rfl hl (by decide) rfl (fun ls hl => ?_)
    exact B38_0 y0 _ hr (lv_sub hl [2, 1, 0] rfl)
  have B34 : ∀ (ls : Array Slot), some R = mf_L_wentToAndFro_B34 V → lv_has ls 3 [(0, .ref (ad 0))] → W p l e ({ frames := 2, cells := 0, slots := 0, locals := 46 } : Room) s m ([.ref (ad 0)] : List Value).toArray below meth c s.heap [] 0 0 (MQ below (vp_Si (fun x => x = R)) ([.ref (ad 0)] : List Value).toArray s 0 0 (fun _ => False)) (F0 m 34 ls []) := by
    intro ls hr hl
    rw [mf_L_wentToAndFro_B34] at hr
    refine lv_iconst (v := (0 : Int32)) hx hb dL_wentToAndFro_34 (by decide) ?_
    exact B35 (0 : Int32) _ hr (lv_sub hl [0] rfl)
  rw [mf_L_wentToAndFro] at hr
  refine lv_aload_n hx hb dL_wentToAndFro_0 rfl (lv_at hl 0 rfl) ?_
  refine lv_iconst (v := (2 : Int32)) hx hb dL_wentToAndFro_1 (by decide) ?_
  refine lv_iconst (v := (0 : Int32)) hx hb dL_wentToAndFro_2 (by decide) ?_
  refine nmv hr (fun r_1 e_2 hr => ?_)
  refine roV_i (As := [.int (2 : Int32), .int (0 : Int32)]) (rest := []) ⟨hx, hb, hml, hown, hts⟩ (k_X5_change l D Y ad V (2 : Int32) (0 : Int32) r_1 e_2) (cwV 2 hts gL_wentToAndFro_X5_change rfl rfl rfl (by decide +kernel) ⟨Nat.le_of_ble_eq_true rfl, Nat.le_of_ble_eq_true rfl⟩) hP hK hN hZ 0 5 rfl rfl rfl hl.1 rfl (Nat.le_of_ble_eq_true rfl) dL_wentToAndFro_3 ⟨Nat.le_refl 0, Nat.le_refl 0⟩ ?_
  refine lv_if_lt (tgt := 34) hx hb dL_wentToAndFro_6 (by decide) (fun c_3 => ?_) (fun c_3 => ?_)
  · have hr := hr.trans (if_pos c_3)
    exact B34  _ hr (lv_sub hl [0] rfl)
  · have hr := hr.trans (if_neg c_3)
    refine lv_aload_n hx hb dL_wentToAndFro_9 rfl (lv_at hl 0 rfl) ?_
    refine lv_iconst (v := (0 : Int32)) hx hb dL_wentToAndFro_10 (by decide) ?_
    refine lv_iconst (v := (0 : Int32)) hx hb dL_wentToAndFro_11 (by decide) ?_
    refine nmv hr (fun r_36 e_37 hr => ?_)
    refine roV_i (As := [.int (0 : Int32), .int (0 : Int32)]) (rest := []) ⟨hx, hb, hml, hown, hts⟩ (k_X5_change l D Y ad V (0 : Int32) (0 : Int32) r_36 e_37) (cwV 2 hts gL_wentToAndFro_X5_change rfl rfl rfl (by decide +kernel) ⟨Nat.le_of_ble_eq_true rfl, Nat.le_of_ble_eq_true rfl⟩) hP hK hN hZ 0 5 rfl rfl rfl hl.1 rfl (Nat.le_of_ble_eq_true rfl) dL_wentToAndFro_12 ⟨Nat.le_refl 0, Nat.le_refl 0⟩ ?_
    refine lv_aload_n hx hb dL_wentToAndFro_15 rfl (lv_at hl 0 rfl) ?_
    refine lv_iconst (v := (2 : Int32)) hx hb dL_wentToAndFro_16 (by decide) ?_
    refine lv_iconst (v := (0 : Int32)) hx hb dL_wentToAndFro_17 (by decide) ?_
    refine nmv hr (fun r_38 e_39 hr => ?_)
    refine roV_i (As := [.int (2 : Int32), .int (0 : Int32)]) (rest := [.int r_36]) ⟨hx, hb, hml, hown, hts⟩ (k_X5_change l D Y ad V (2 : Int32) (0 : Int32) r_38 e_39) (cwV 2 hts gL_wentToAndFro_X5_change rfl rfl rfl (by decide +kernel) ⟨Nat.le_of_ble_eq_true rfl, Nat.le_of_ble_eq_true rfl⟩) hP hK hN hZ 0 5 rfl rfl rfl hl.1 rfl (Nat.le_of_ble_eq_true rfl) dL_wentToAndFro_18 ⟨Nat.le_refl 0, Nat.le_refl 0⟩ ?_
    refine lv_isub hx hb dL_wentToAndFro_21 ?_
    refine lv_aload_n hx hb dL_wentToAndFro_22 rfl (lv_at hl 0 rfl) ?_
    refine lv_iconst (v := (2 : Int32)) hx hb dL_wentToAndFro_23 (by decide) ?_
    refine nmv hr (fun r_40 e_41 hr => ?_)
    refine roV_i (As := [.int (2 : Int32)]) (rest := [.int (r_36 - r_38)]) ⟨hx, hb, hml, hown, hts⟩ (k_X5_number l D Y ad V (2 : Int32) r_40 e_41) (cwV 1 hts gL_wentToAndFro_X5_number rfl rfl rfl (by decide +kernel) ⟨Nat.le_of_ble_eq_true rfl, Nat.le_of_ble_eq_true rfl⟩) hP hK hN hZ 0 5 rfl rfl rfl hl.1 rfl (Nat.le_of_ble_eq_true rfl) dL_wentToAndFro_24 ⟨Nat.le_refl 0, Nat.le_refl 0⟩ ?_
    refine lv_icmp_gt (tgt := 34) hx hb dL_wentToAndFro_27 (by decide) (fun c_42 => ?_) (fun c_42 => ?_)
    · have hr := hr.trans (if_pos c_42)
      exact B34  _ hr (lv_sub hl [0] rfl)
    · have hr := hr.trans (if_neg c_42)
      refine lv_iconst (v := (1 : Int32)) hx hb dL_wentToAndFro_30 (by decide) ?_
      refine lv_goto (tgt := 35) hx hb dL_wentToAndFro_31 (by decide) ?_
      exact B35 (1 : Int32) _ hr (lv_sub hl [0] rfl)

set_option maxHeartbeats 4000000 in
set_option maxRecDepth 100000 in
theorem k_L_told (l : Launch) (D : va_G) (Y : Nat → ClassId) (ad : Nat → Nat) (V : CarV) (R : Int32) (hr : some R = mf_L_told V) : Met l yL_told wsL_told ({ frames := 5, cells := 0, slots := 0, locals := 106 } : Room) (va_Pc [.ref (ad 0)] (PR D Y (carW Y ad V))) (vp_Si (fun x => x = R)) 0 0 (fun _ => False) := by
  refine Met.ofW (cc := cL_told) (maxL := 18) (ret := (some .boolean)) (by decide) rfl ?_
  intro p e s m args below meth c s₁ B hml hv
  obtain ⟨rfl, hP, hK, hN, hZ⟩ := hv
  have hx := B.exec
  have hb := B.bytes
  have hrt := B.returns
  have hts := atoms_spec (ws := wsL_told) B.pre
  have hown : s.vm.findClass RL = some m.cls := findClass_of_methodNamed B.named
  have hlocks := B.notSynchronized
  have hS : va_S (fun _ => False) s.heap s.heap [] := va_S.rf
  have hl := lv_entry ([.ref (ad 0)]) (n := 18) (Nat.le_of_ble_eq_true rfl)
  rw [lg_entry_eq]
  generalize (lg_sl ([.ref (ad 0)]) ++ List.replicate (18 - (lg_sl ([.ref (ad 0)])).length) Slot.unset).toArray = ls at hl ⊢
  have hl : lv_has ls 18 [(0, .ref (ad 0))] := hl
  have B640 : ∀ (rc : Int32 → Int32 → Int32 → Int32 → Option (Int32)) (hrc : ∀ (z1 : Int32) (z2 : Int32) (z9 : Int32) (z11 : Int32) (ls : Array Slot), some R = rc z1 z2 z9 z11 → lv_has ls 18 [(0, .ref (ad 0)), (1, .int z1), (2, .int z2), (9, .int z9), (11, .int z11)] → W p l e ({ frames := 5, cells := 0, slots := 0, locals := 106 } : Room) s m ([.ref (ad 0)] : List Value).toArray below meth c s.heap [] 0 0 (MQ below (vp_Si (fun x => x = R)) ([.ref (ad 0)] : List Value).toArray s 0 0 (fun _ => False)) (F0 m 415 ls [])), ∀ (z1 : Int32) (z2 : Int32) (z9 : Int32) (z11 : Int32) (ls : Array Slot), some R = mf_L_told_B640 rc V z1 z2 z9 z11 → lv_has ls 18 [(0, .ref (ad 0)), (1, .int z1), (2, .int z2), (9, .int z9), (11, .int z11)] → W p l e ({ frames := 5, cells := 0, slots := 0, locals := 106 } : Room) s m ([.ref (ad 0)] : List Value).toArray below meth c s.heap [] 0 0 (MQ below (vp_Si (fun x => x = R)) ([.ref (ad 0)] : List Value).toArray s 0 0 (fun _ => False)) (F0 m 640 ls []) := by
    intro rc hrc z1 z2 z9 z11 ls hr hl
    rw [mf_L_told_B640] at hr
    refine lv_iinc (v := (z11 + (1 : Int32))) (lv' := [(11, .int (z11 + (1 : Int32))), (0, .ref (ad 0)), (1, .int z1), (2, .int z2), (9, .int z9)]) hx hb dL_told_640 hl (k := 4) rfl rfl (by decide) rfl (fun ls hl => ?_)
    refine lv_goto (tgt := 415) hx hb dL_told_643 (by decide) ?_
    exact hrc z1 z2 z9 (z11 + (1 : Int32)) _ hr (lv_sub hl [1, 2, 3, 4, 0] rfl)
  have B609 : ∀ (rc : Int32 → Int32 → Int32 → Int32 → Option (Int32)) (hrc : ∀ (z1 : Int32) (z2 : Int32) (z9 : Int32) (z11 : Int32) (ls : Array Slot), some R = rc z1 z2 z9 z11 → lv_has ls 18 [(0, .ref (ad 0)), (1, .int z1), (2, .int z2), (9, .int z9), (11, .int z11)] → W p l e ({ frames := 5, cells := 0, slots := 0, locals := 106 } : Room) s m ([.ref (ad 0)] : List Value).toArray below meth c s.heap [] 0 0 (MQ below (vp_Si (fun x => x = R)) ([.ref (ad 0)] : List Value).toArray s 0 0 (fun _ => False)) (F0 m 415 ls [])), ∀ (z1 : Int32) (z2 : Int32) (z9 : Int32) (z11 : Int32) (z14 : Int32) (z16 : Int32) (y0 : Int32) (ls : Array Slot), some R = mf_L_told_B609 rc V z1 z2 z9 z11 z14 z16 y0 → lv_has ls 18 [(0, .ref (ad 0)), (1, .int z1), (2, .int z2), (9, .int z9), (11, .int z11), (14, .int z14), (16, .int z16)] → W p l e ({ frames := 5, cells := 0, slots := 0, locals := 106 } : Room) s m ([.ref (ad 0)] : List Value).toArray below meth c s.heap [] 0 0 (MQ below (vp_Si (fun x => x = R)) ([.ref (ad 0)] : List Value).toArray s 0 0 (fun _ => False)) (F0 m 609 ls [.int y0]) := by
    intro rc hrc z1 z2 z9 z11 z14 z16 y0 ls hr hl
    rw [mf_L_told_B609] at hr
    refine lv_istore (lv' := [(17, .int y0), (0, .ref (ad 0)), (1, .int z1), (2, .int z2), (9, .int z9), (11, .int z11), (14, .int z14), (16, .int z16)]) hx hb dL_told_609 hl (by decide) rfl (fun ls hl => ?_)
    refine lv_iload hx hb dL_told_611 (lv_at hl 7 rfl) ?_
    refine lv_if_eq (tgt := 638) hx hb dL_told_613 (by decide) (fun c_112 => ?_) (fun c_112 => ?_)
    · have hr := hr.trans (if_pos c_112)
      refine lv_iconst (v := (0 : Int32)) hx hb dL_told_638 (by decide) ?_
      have hr := Option.some.inj hr
      subst hr
      exact W.zret (ty := .boolean) hx hb hrt (by decide) (fun t ht hW => ⟨_, rfl, rfl, ht⟩) (fun q hq => absurd hq List.not_mem_nil) dL_told_639
    · have hr := hr.trans (if_neg c_112)
      refine lv_iload hx hb dL_told_616 (lv_at hl 0 rfl) ?_
      refine lv_if_eq (tgt := 638) hx hb dL_told_618 (by decide) (fun c_113 => ?_) (fun c_113 => ?_)
      · have hr := hr.trans (if_pos c_113)
        refine lv_iconst (v := (0 : Int32)) hx hb dL_told_638 (by decide) ?_
        have hr := Option.some.inj hr
        subst hr
        exact W.zret (ty := .boolean) hx hb hrt (by decide) (fun t ht hW => ⟨_, rfl, rfl, ht⟩) (fun q hq => absurd hq List.not_mem_nil) dL_told_639
      · have hr := hr.trans (if_neg c_113)
        refine lv_aload_n hx hb dL_told_621 rfl (lv_at hl 1 rfl) ?_
        refine lv_iload hx hb dL_told_622 (lv_at hl 5 rfl) ?_
        refine lv_iconst (v := (4 : Int32)) hx hb dL_told_624 (by decide) ?_
        refine nmv hr (fun r_114 e_115 hr => ?_)
        refine roV_i (As := [.int z11, .int (4 : Int32)]) (rest := []) ⟨hx, hb, hml, hown, hts⟩ (k_X5_change l D Y ad V z11 (4 : Int32) r_114 e_115) (cwV 2 hts gL_told_X5_change rfl rfl rfl (by decide +kernel) ⟨Nat.le_of_ble_eq_true rfl, Nat.le_of_ble_eq_true rfl⟩) hP hK hN hZ 0 5 rfl rfl rfl hl.1 rfl (Nat.le_of_ble_eq_true rfl) dL_told_625 ⟨Nat.le_refl 0, Nat.le_refl 0⟩ ?_
        refine lv_iconst (v := (1 : Int32)) hx hb dL_told_628 (by decide) ?_
        refine lv_icmp_ne (tgt := 640) hx hb dL_told_629 (by decide) (fun c_116 => ?_) (fun c_116 => ?_)
        · have hr := hr.trans (if_neg c_116)
          exact B640 _ hrc z1 z2 z9 z11 _ hr (lv_sub hl [1, 2, 3, 4, 5] rfl)
        · have hr := hr.trans (if_pos c_116)
          refine lv_iload hx hb dL_told_632 (lv_at hl 6 rfl) ?_
          refine lv_iconst (v := (1 : Int32)) hx hb dL_told_634 (by decide) ?_
          refine lv_icmp_le (tgt := 640) hx hb dL_told_635 (by decide) (fun c_117 => ?_) (fun c_117 => ?_)
          · have hr := hr.trans (if_pos c_117)
            exact B640 _ hrc z1 z2 z9 z11 _ hr (lv_sub hl [1, 2, 3, 4, 5] rfl)
          · have hr := hr.trans (if_neg c_117)
            refine lv_iconst (v := (0 : Int32)) hx hb dL_told_638 (by decide) ?_
            have hr := Option.some.inj hr
            subst hr
            exact W.zret (ty := .boolean) hx hb hrt (by decide) (fun t ht hW => ⟨_, rfl, rfl, ht⟩) (fun q hq => absurd hq List.not_mem_nil) dL_told_639
  have B608 : ∀ (rc : Int32 → Int32 → Int32 → Int32 → Option (Int32)) (hrc : ∀ (z1 : Int32) (z2 : Int32) (z9 : Int32) (z11 : Int32) (ls : Array Slot), some R = rc z1 z2 z9 z11 → lv_has ls 18 [(0, .ref (ad 0)), (1, .int z1), (2, .int z2), (9, .int z9), (11, .int z11)] → W p l e ({ frames := 5, cells := 0, slots := 0, locals := 106 } : Room) s m ([.ref (ad 0)] : List Value).toArray below meth c s.heap [] 0 0 (MQ below (vp_Si (fun x => x = R)) ([.ref (ad 0)] : List Value).toArray s 0 0 (fun _ => False)) (F0 m 415 ls [])), ∀ (z1 : Int32) (z2 : Int32) (z9 : Int32) (z11 : Int32) (z14 : Int32) (z16 : Int32) (ls : Array Slot), some R = mf_L_told_B608 rc V z1 z2 z9 z11 z14 z16 → lv_has ls 18 [(0, .ref (ad 0)), (1, .int z1), (2, .int z2), (9, .int z9), (11, .int z11), (14, .int z14), (16, .int z16)] → W p l e ({ frames := 5, cells := 0, slots := 0, locals := 106 } : Room) s m ([.ref (ad 0)] : List Value).toArray below meth c s.heap [] 0 0 (MQ below (vp_Si (fun x => x = R)) ([.ref (ad 0)] : List Value).toArray s 0 0 (fun _ => False)) (F0 m 608 ls []) := by
    intro rc hrc z1 z2 z9 z11 z14 z16 ls hr hl
    rw [mf_L_told_B608] at hr
    refine lv_iconst (v := (0 : Int32)) hx hb dL_told_608 (by decide) ?_
    exact B609 _ hrc z1 z2 z9 z11 z14 z16 (0 : Int32) _ hr (lv_sub hl [0, 1, 2, 3, 4, 5, 6] rfl)
  have B560 : ∀ (rc : Int32 → Int32 → Int32 → Int32 → Option (Int32)) (hrc : ∀ (z1 : Int32) (z2 : Int32) (z9 : Int32) (z11 : Int32) (ls : Array Slot), some R = rc z1 z2 z9 z11 → lv_has ls 18 [(0, .ref (ad 0)), (1, .int z1), (2, .int z2), (9, .int z9), (11, .int z11)] → W p l e ({ frames := 5, cells := 0, slots := 0, locals := 106 } : Room) s m ([.ref (ad 0)] : List Value).toArray below meth c s.heap [] 0 0 (MQ below (vp_Si (fun x => x = R)) ([.ref (ad 0)] : List Value).toArray s 0 0 (fun _ => False)) (F0 m 415 ls [])), ∀ (z1 : Int32) (z2 : Int32) (z9 : Int32) (z11 : Int32) (z14 : Int32) (z16 : Int32) (y0 : Int32) (y1 : Int32) (ls : Array Slot), some R = mf_L_told_B560 rc V z1 z2 z9 z11 z14 z16 y0 y1 → lv_has ls 18 [(0, .ref (ad 0)), (1, .int z1), (2, .int z2), (9, .int z9), (11, .int z11), (14, .int z14), (16, .int z16)] → W p l e ({ frames := 5, cells := 0, slots := 0, locals := 106 } : Room) s m ([.ref (ad 0)] : List Value).toArray below meth c s.heap [] 0 0 (MQ below (vp_Si (fun x => x = R)) ([.ref (ad 0)] : List Value).toArray s 0 0 (fun _ => False)) (F0 m 560 ls [.int y0, .int y1]) := by
    intro rc hrc z1 z2 z9 z11 z14 z16 y0 y1 ls hr hl
    rw [mf_L_told_B560] at hr
    refine lv_icmp_ne (tgt := 567) hx hb dL_told_560 (by decide) (fun c_124 => ?_) (fun c_124 => ?_)
    · have hr := hr.trans (if_neg c_124)
      refine lv_iconst (v := (0 : Int32)) hx hb dL_told_567 (by decide) ?_
      refine lv_goto (tgt := 609) hx hb dL_told_568 (by decide) ?_
      exact B609 _ hrc z1 z2 z9 z11 z14 z16 (0 : Int32) _ hr (lv_sub hl [0, 1, 2, 3, 4, 5, 6] rfl)
    · have hr := hr.trans (if_pos c_124)
      refine lv_iconst (v := (1 : Int32)) hx hb dL_told_563 (by decide) ?_
      refine lv_goto (tgt := 609) hx hb dL_told_564 (by decide) ?_
      exact B609 _ hrc z1 z2 z9 z11 z14 z16 (1 : Int32) _ hr (lv_sub hl [0, 1, 2, 3, 4, 5, 6] rfl)
  have B540 : ∀ (rc : Int32 → Int32 → Int32 → Int32 → Option (Int32)) (hrc : ∀ (z1 : Int32) (z2 : Int32) (z9 : Int32) (z11 : Int32) (ls : Array Slot), some R = rc z1 z2 z9 z11 → lv_has ls 18 [(0, .ref (ad 0)), (1, .int z1), (2, .int z2), (9, .int z9), (11, .int z11)] → W p l e ({ frames := 5, cells := 0, slots := 0, locals := 106 } : Room) s m ([.ref (ad 0)] : List Value).toArray below meth c s.heap [] 0 0 (MQ below (vp_Si (fun x => x = R)) ([.ref (ad 0)] : List Value).toArray s 0 0 (fun _ => False)) (F0 m 415 ls [])), ∀ (z1 : Int32) (z2 : Int32) (z9 : Int32) (z11 : Int32) (z13 : Int32) (z14 : Int32) (y0 : Int32) (ls : Array Slot), some R = mf_L_told_B540 rc V z1 z2 z9 z11 z13 z14 y0 → lv_has ls 18 [(0, .ref (ad 0)), (1, .int z1), (2, .int z2), (9, .int z9), (11, .int z11), (13, .int z13), (14, .int z14)] → W p l e ({ frames := 5, cells := 0, slots := 0, locals := 106 } : Room) s m ([.ref (ad 0)] : List Value).toArray below meth c s.heap [] 0 0 (MQ below (vp_Si (fun x => x = R)) ([.ref (ad 0)] : List Value).toArray s 0 0 (fun _ => False)) (F0 m 540 ls [.int y0]) := by
    intro rc hrc z1 z2 z9 z11 z13 z14 y0 ls hr hl
    rw [mf_L_told_B540] at hr
    refine lv_istore (lv' := [(16, .int y0), (0, .ref (ad 0)), (1, .int z1), (2, .int z2), (9, .int z9), (11, .int z11), (13, .int z13), (14, .int z14)]) hx hb dL_told_540 hl (by decide) rfl (fun ls hl => ?_)
    refine lv_iload hx hb dL_told_542 (lv_at hl 5 rfl) ?_
    refine lv_if_ne (tgt := 571) hx hb dL_told_544 (by decide) (fun c_108 => ?_) (fun c_108 => ?_)
    · have hr := hr.trans (if_neg c_108)
      refine lv_iload hx hb dL_told_571 (lv_at hl 6 rfl) ?_
      refine lv_aload_n hx hb dL_told_573 rfl (lv_at hl 1 rfl) ?_
      refine lv_iload hx hb dL_told_574 (lv_at hl 5 rfl) ?_
      refine lv_iconst (v := (1 : Int32)) hx hb dL_told_576 (by decide) ?_
      refine lv_isub hx hb dL_told_577 ?_
      refine lv_iconst (v := (1 : Int32)) hx hb dL_told_578 (by decide) ?_
      refine nmv hr (fun r_109 e_110 hr => ?_)
      refine roV_i (As := [.int (z11 - (1 : Int32)), .int (1 : Int32)]) (rest := [.int z13]) ⟨hx, hb, hml, hown, hts⟩ (k_X5_change l D Y ad V (z11 - (1 : Int32)) (1 : Int32) r_109 e_110) (cwV 2 hts gL_told_X5_change rfl rfl rfl (by decide +kernel) ⟨Nat.le_of_ble_eq_true rfl, Nat.le_of_ble_eq_true rfl⟩) hP hK hN hZ 0 5 rfl rfl rfl hl.1 rfl (Nat.le_of_ble_eq_true rfl) dL_told_579 ⟨Nat.le_refl 0, Nat.le_refl 0⟩ ?_
      refine lv_icmp_ne (tgt := 608) hx hb dL_told_582 (by decide) (fun c_111 => ?_) (fun c_111 => ?_)
      · have hr := hr.trans (if_neg c_111)
        exact B608 _ hrc z1 z2 z9 z11 z14 y0 _ hr (lv_sub hl [1, 2, 3, 4, 5, 7, 0] rfl)
      · have hr := hr.trans (if_pos c_111)
        refine lv_aload_n hx hb dL_told_585 rfl (lv_at hl 1 rfl) ?_
        refine lv_iload hx hb dL_told_586 (lv_at hl 5 rfl) ?_
        refine lv_iconst (v := (0 : Int32)) hx hb dL_told_588 (by decide) ?_
        refine nmv hr (fun r_118 e_119 hr => ?_)
        refine roV_i (As := [.int z11, .int (0 : Int32)]) (rest := []) ⟨hx, hb, hml, hown, hts⟩ (k_X5_change l D Y ad V z11 (0 : Int32) r_118 e_119) (cwV 2 hts gL_told_X5_change rfl rfl rfl (by decide +kernel) ⟨Nat.le_of_ble_eq_true rfl, Nat.le_of_ble_eq_true rfl⟩) hP hK hN hZ 0 5 rfl rfl rfl hl.1 rfl (Nat.le_of_ble_eq_true rfl) dL_told_589 ⟨Nat.le_refl 0, Nat.le_refl 0⟩ ?_
        refine lv_aload_n hx hb dL_told_592 rfl (lv_at hl 1 rfl) ?_
        refine lv_iload hx hb dL_told_593 (lv_at hl 5 rfl) ?_
        refine lv_iconst (v := (1 : Int32)) hx hb dL_told_595 (by decide) ?_
        refine lv_isub hx hb dL_told_596 ?_
        refine lv_iconst (v := (0 : Int32)) hx hb dL_told_597 (by decide) ?_
        refine nmv hr (fun r_120 e_121 hr => ?_)
        refine roV_i (As := [.int (z11 - (1 : Int32)), .int (0 : Int32)]) (rest := [.int r_118]) ⟨hx, hb, hml, hown, hts⟩ (k_X5_change l D Y ad V (z11 - (1 : Int32)) (0 : Int32) r_120 e_121) (cwV 2 hts gL_told_X5_change rfl rfl rfl (by decide +kernel) ⟨Nat.le_of_ble_eq_true rfl, Nat.le_of_ble_eq_true rfl⟩) hP hK hN hZ 0 5 rfl rfl rfl hl.1 rfl (Nat.le_of_ble_eq_true rfl) dL_told_598 ⟨Nat.le_refl 0, Nat.le_refl 0⟩ ?_
        refine lv_icmp_gt (tgt := 608) hx hb dL_told_601 (by decide) (fun c_122 => ?_) (fun c_122 => ?_)
        · have hr := hr.trans (if_pos c_122)
          exact B608 _ hrc z1 z2 z9 z11 z14 y0 _ hr (lv_sub hl [1, 2, 3, 4, 5, 7, 0] rfl)
        · have hr := hr.trans (if_neg c_122)
          refine lv_iconst (v := (1 : Int32)) hx hb dL_told_604 (by decide) ?_
          refine lv_goto (tgt := 609) hx hb dL_told_605 (by decide) ?_
          exact B609 _ hrc z1 z2 z9 z11 z14 y0 (1 : Int32) _ hr (lv_sub hl [1, 2, 3, 4, 5, 7, 0] rfl)
    · have hr := hr.trans (if_pos c_108)
      refine lv_iload hx hb dL_told_547 (lv_at hl 6 rfl) ?_
      refine lv_iload_n hx hb dL_told_549 rfl (lv_at hl 3 rfl) ?_
      refine lv_bipush (v := (-5 : Int32)) hx hb dL_told_550 (by decide) ?_
      refine lv_icmp_ne (tgt := 559) hx hb dL_told_552 (by decide) (fun c_123 => ?_) (fun c_123 => ?_)
      · have hr := hr.trans (if_neg c_123)
        refine lv_iload_n hx hb dL_told_559 rfl (lv_at hl 3 rfl) ?_
        exact B560 _ hrc z1 z2 z9 z11 z14 y0 z2 z13 _ hr (lv_sub hl [1, 2, 3, 4, 5, 7, 0] rfl)
      · have hr := hr.trans (if_pos c_123)
        refine lv_iload_n hx hb dL_told_555 rfl (lv_at hl 2 rfl) ?_
        refine lv_goto (tgt := 560) hx hb dL_told_556 (by decide) ?_
        exact B560 _ hrc z1 z2 z9 z11 z14 y0 z1 z13 _ hr (lv_sub hl [1, 2, 3, 4, 5, 7, 0] rfl)
  have B501 : ∀ (rc : Int32 → Int32 → Int32 → Int32 → Option (Int32)) (hrc : ∀ (z1 : Int32) (z2 : Int32) (z9 : Int32) (z11 : Int32) (ls : Array Slot), some R = rc z1 z2 z9 z11 → lv_has ls 18 [(0, .ref (ad 0)), (1, .int z1), (2, .int z2), (9, .int z9), (11, .int z11)] → W p l e ({ frames := 5, cells := 0, slots := 0, locals := 106 } : Room) s m ([.ref (ad 0)] : List Value).toArray below meth c s.heap [] 0 0 (MQ below (vp_Si (fun x => x = R)) ([.ref (ad 0)] : List Value).toArray s 0 0 (fun _ => False)) (F0 m 415 ls [])), ∀ (z1 : Int32) (z2 : Int32) (z9 : Int32) (z11 : Int32) (z13 : Int32) (z14 : Int32) (ls : Array Slot), some R = mf_L_told_B501 rc V z1 z2 z9 z11 z13 z14 → lv_has ls 18 [(0, .ref (ad 0)), (1, .int z1), (2, .int z2), (9, .int z9), (11, .int z11), (13, .int z13), (14, .int z14)] → W p l e ({ frames := 5, cells := 0, slots := 0, locals := 106 } : Room) s m ([.ref (ad 0)] : List Value).toArray below meth c s.heap [] 0 0 (MQ below (vp_Si (fun x => x = R)) ([.ref (ad 0)] : List Value).toArray s 0 0 (fun _ => False)) (F0 m 501 ls []) := by
    intro rc hrc z1 z2 z9 z11 z13 z14 ls hr hl
    rw [mf_L_told_B501] at hr
    refine lv_iconst (v := (1 : Int32)) hx hb dL_told_501 (by decide) ?_
    refine lv_goto (tgt := 540) hx hb dL_told_502 (by decide) ?_
    exact B540 _ hrc z1 z2 z9 z11 z13 z14 (1 : Int32) _ hr (lv_sub hl [0, 1, 2, 3, 4, 5, 6] rfl)
  have B475 : ∀ (rc : Int32 → Int32 → Int32 → Int32 → Option (Int32)) (hrc : ∀ (z1 : Int32) (z2 : Int32) (z9 : Int32) (z11 : Int32) (ls : Array Slot), some R = rc z1 z2 z9 z11 → lv_has ls 18 [(0, .ref (ad 0)), (1, .int z1), (2, .int z2), (9, .int z9), (11, .int z11)] → W p l e ({ frames := 5, cells := 0, slots := 0, locals := 106 } : Room) s m ([.ref (ad 0)] : List Value).toArray below meth c s.heap [] 0 0 (MQ below (vp_Si (fun x => x = R)) ([.ref (ad 0)] : List Value).toArray s 0 0 (fun _ => False)) (F0 m 415 ls [])), ∀ (z1 : Int32) (z2 : Int32) (z9 : Int32) (z11 : Int32) (z13 : Int32) (z14 : Int32) (ls : Array Slot), some R = mf_L_told_B475 rc V z1 z2 z9 z11 z13 z14 → lv_has ls 18 [(0, .ref (ad 0)), (1, .int z1), (2, .int z2), (9, .int z9), (11, .int z11), (13, .int z13), (14, .int z14)] → W p l e ({ frames := 5, cells := 0, slots := 0, locals := 106 } : Room) s m ([.ref (ad 0)] : List Value).toArray below meth c s.heap [] 0 0 (MQ below (vp_Si (fun x => x = R)) ([.ref (ad 0)] : List Value).toArray s 0 0 (fun _ => False)) (F0 m 475 ls []) := by
    intro rc hrc z1 z2 z9 z11 z13 z14 ls hr hl
    rw [mf_L_told_B475] at hr
    refine lv_iconst (v := (1 : Int32)) hx hb dL_told_475 (by decide) ?_
    refine lv_goto (tgt := 540) hx hb dL_told_476 (by decide) ?_
    exact B540 _ hrc z1 z2 z9 z11 z13 z14 (1 : Int32) _ hr (lv_sub hl [0, 1, 2, 3, 4, 5, 6] rfl)
  have B415 : ∀ (fu : Nat), ∀ (z1 : Int32) (z2 : Int32) (z9 : Int32) (z11 : Int32) (ls : Array Slot), some R = mf_L_told_B415 fu V z1 z2 z9 z11 → lv_has ls 18 [(0, .ref (ad 0)), (1, .int z1), (2, .int z2), (9, .int z9), (11, .int z11)] → W p l e ({ frames := 5, cells := 0, slots := 0, locals := 106 } : Room) s m ([.ref (ad 0)] : List Value).toArray below meth c s.heap [] 0 0 (MQ below (vp_Si (fun x => x = R)) ([.ref (ad 0)] : List Value).toArray s 0 0 (fun _ => False)) (F0 m 415 ls []) := by
    intro fu
    induction fu with
    | zero =>
      intro z1 z2 z9 z11 ls hr hl
      rw [mf_L_told_B415] at hr
      cases hr
    | succ fu ih =>
      intro z1 z2 z9 z11 ls hr hl
      rw [mf_L_told_B415] at hr
      refine lv_iload hx hb dL_told_415 (lv_at hl 4 rfl) ?_
      refine lv_iload hx hb dL_told_417 (lv_at hl 3 rfl) ?_
      refine lv_icmp_ge (tgt := 646) hx hb dL_told_419 (by decide) (fun c_88 => ?_) (fun c_88 => ?_)
      · have hr := hr.trans (if_pos c_88)
        refine lv_aload_n hx hb dL_told_646 rfl (lv_at hl 0 rfl) ?_
        refine lv_iload hx hb dL_told_647 (lv_at hl 3 rfl) ?_
        refine lv_iconst (v := (0 : Int32)) hx hb dL_told_649 (by decide) ?_
        refine nmv hr (fun r_89 e_90 hr => ?_)
        refine roV_i (As := [.int z9, .int (0 : Int32)]) (rest := []) ⟨hx, hb, hml, hown, hts⟩ (k_X5_change l D Y ad V z9 (0 : Int32) r_89 e_90) (cwV 2 hts gL_told_X5_change rfl rfl rfl (by decide +kernel) ⟨Nat.le_of_ble_eq_true rfl, Nat.le_of_ble_eq_true rfl⟩) hP hK hN hZ 0 5 rfl rfl rfl hl.1 rfl (Nat.le_of_ble_eq_true rfl) dL_told_650 ⟨Nat.le_refl 0, Nat.le_refl 0⟩ ?_
        refine lv_bipush (v := (-5 : Int32)) hx hb dL_told_653 (by decide) ?_
        refine lv_icmp_ne (tgt := 684) hx hb dL_told_655 (by decide) (fun c_91 => ?_) (fun c_91 => ?_)
        · have hr := hr.trans (if_neg c_91)
          refine lv_iconst (v := (0 : Int32)) hx hb dL_told_684 (by decide) ?_
          have hr := Option.some.inj hr
          subst hr
          exact W.zret (ty := .boolean) hx hb hrt (by decide) (fun t ht hW => ⟨_, rfl, rfl, ht⟩) (fun q hq => absurd hq List.not_mem_nil) dL_told_685
        · have hr := hr.trans (if_pos c_91)
          refine lv_aload_n hx hb dL_told_658 rfl (lv_at hl 0 rfl) ?_
          refine lv_iconst (v := (-1 : Int32)) hx hb dL_told_659 (by decide) ?_
          refine lv_iconst (v := (0 : Int32)) hx hb dL_told_660 (by decide) ?_
          refine nmv hr (fun r_92 e_93 hr => ?_)
          refine roV_i (As := [.int (-1 : Int32), .int (0 : Int32)]) (rest := []) ⟨hx, hb, hml, hown, hts⟩ (k_X5_change l D Y ad V (-1 : Int32) (0 : Int32) r_92 e_93) (cwV 2 hts gL_told_X5_change rfl rfl rfl (by decide +kernel) ⟨Nat.le_of_ble_eq_true rfl, Nat.le_of_ble_eq_true rfl⟩) hP hK hN hZ 0 5 rfl rfl rfl hl.1 rfl (Nat.le_of_ble_eq_true rfl) dL_told_661 ⟨Nat.le_refl 0, Nat.le_refl 0⟩ ?_
          refine lv_bipush (v := (-2 : Int32)) hx hb dL_told_664 (by decide) ?_
          refine lv_icmp_ne (tgt := 684) hx hb dL_told_666 (by decide) (fun c_94 => ?_) (fun c_94 => ?_)
          · have hr := hr.trans (if_neg c_94)
            refine lv_iconst (v := (0 : Int32)) hx hb dL_told_684 (by decide) ?_
            have hr := Option.some.inj hr
            subst hr
            exact W.zret (ty := .boolean) hx hb hrt (by decide) (fun t ht hW => ⟨_, rfl, rfl, ht⟩) (fun q hq => absurd hq List.not_mem_nil) dL_told_685
          · have hr := hr.trans (if_pos c_94)
            refine lv_aload_n hx hb dL_told_669 rfl (lv_at hl 0 rfl) ?_
            refine lv_iconst (v := (0 : Int32)) hx hb dL_told_670 (by decide) ?_
            refine lv_iconst (v := (5 : Int32)) hx hb dL_told_671 (by decide) ?_
            refine nmv hr (fun r_95 e_96 hr => ?_)
            refine roV_i (As := [.int (0 : Int32), .int (5 : Int32)]) (rest := []) ⟨hx, hb, hml, hown, hts⟩ (k_X5_change l D Y ad V (0 : Int32) (5 : Int32) r_95 e_96) (cwV 2 hts gL_told_X5_change rfl rfl rfl (by decide +kernel) ⟨Nat.le_of_ble_eq_true rfl, Nat.le_of_ble_eq_true rfl⟩) hP hK hN hZ 0 5 rfl rfl rfl hl.1 rfl (Nat.le_of_ble_eq_true rfl) dL_told_672 ⟨Nat.le_refl 0, Nat.le_refl 0⟩ ?_
            refine lv_bipush (v := (-2 : Int32)) hx hb dL_told_675 (by decide) ?_
            refine lv_icmp_ne (tgt := 684) hx hb dL_told_677 (by decide) (fun c_97 => ?_) (fun c_97 => ?_)
            · have hr := hr.trans (if_neg c_97)
              refine lv_iconst (v := (0 : Int32)) hx hb dL_told_684 (by decide) ?_
              have hr := Option.some.inj hr
              subst hr
              exact W.zret (ty := .boolean) hx hb hrt (by decide) (fun t ht hW => ⟨_, rfl, rfl, ht⟩) (fun q hq => absurd hq List.not_mem_nil) dL_told_685
            · have hr := hr.trans (if_pos c_97)
              refine lv_iconst (v := (1 : Int32)) hx hb dL_told_680 (by decide) ?_
              refine lv_goto (tgt := 685) hx hb dL_told_681 (by decide) ?_
              have hr := Option.some.inj hr
              subst hr
              exact W.zret (ty := .boolean) hx hb hrt (by decide) (fun t ht hW => ⟨_, rfl, rfl, ht⟩) (fun q hq => absurd hq List.not_mem_nil) dL_told_685
      · have hr := hr.trans (if_neg c_88)
        refine lv_aload_n hx hb dL_told_422 rfl (lv_at hl 0 rfl) ?_
        refine lv_iload hx hb dL_told_423 (lv_at hl 4 rfl) ?_
        refine lv_iconst (v := (1 : Int32)) hx hb dL_told_425 (by decide) ?_
        refine nmv hr (fun r_98 e_99 hr => ?_)
        refine roV_i (As := [.int z11, .int (1 : Int32)]) (rest := []) ⟨hx, hb, hml, hown, hts⟩ (k_X5_change l D Y ad V z11 (1 : Int32) r_98 e_99) (cwV 2 hts gL_told_X5_change rfl rfl rfl (by decide +kernel) ⟨Nat.le_of_ble_eq_true rfl, Nat.le_of_ble_eq_true rfl⟩) hP hK hN hZ 0 5 rfl rfl rfl hl.1 rfl (Nat.le_of_ble_eq_true rfl) dL_told_426 ⟨Nat.le_refl 0, Nat.le_refl 0⟩ ?_
        refine lv_istore (lv' := [(12, .int r_98), (0, .ref (ad 0)), (1, .int z1), (2, .int z2), (9, .int z9), (11, .int z11)]) hx hb dL_told_429 hl (by decide) rfl (fun ls hl => ?_)
        refine lv_aload_n hx hb dL_told_431 rfl (lv_at hl 1 rfl) ?_
        refine lv_iload hx hb dL_told_432 (lv_at hl 5 rfl) ?_
        refine lv_iconst (v := (2 : Int32)) hx hb dL_told_434 (by decide) ?_
        refine nmv hr (fun r_100 e_101 hr => ?_)
        refine roV_i (As := [.int z11, .int (2 : Int32)]) (rest := []) ⟨hx, hb, hml, hown, hts⟩ (k_X5_change l D Y ad V z11 (2 : Int32) r_100 e_101) (cwV 2 hts gL_told_X5_change rfl rfl rfl (by decide +kernel) ⟨Nat.le_of_ble_eq_true rfl, Nat.le_of_ble_eq_true rfl⟩) hP hK hN hZ 0 5 rfl rfl rfl hl.1 rfl (Nat.le_of_ble_eq_true rfl) dL_told_435 ⟨Nat.le_refl 0, Nat.le_refl 0⟩ ?_
        refine lv_istore (lv' := [(13, .int r_100), (12, .int r_98), (0, .ref (ad 0)), (1, .int z1), (2, .int z2), (9, .int z9), (11, .int z11)]) hx hb dL_told_438 hl (by decide) rfl (fun ls hl => ?_)
        refine lv_aload_n hx hb dL_told_440 rfl (lv_at hl 2 rfl) ?_
        refine lv_iload hx hb dL_told_441 (lv_at hl 6 rfl) ?_
        refine lv_iconst (v := (3 : Int32)) hx hb dL_told_443 (by decide) ?_
        refine nmv hr (fun r_102 e_103 hr => ?_)
        refine roV_i (As := [.int z11, .int (3 : Int32)]) (rest := []) ⟨hx, hb, hml, hown, hts⟩ (k_X5_change l D Y ad V z11 (3 : Int32) r_102 e_103) (cwV 2 hts gL_told_X5_change rfl rfl rfl (by decide +kernel) ⟨Nat.le_of_ble_eq_true rfl, Nat.le_of_ble_eq_true rfl⟩) hP hK hN hZ 0 5 rfl rfl rfl hl.1 rfl (Nat.le_of_ble_eq_true rfl) dL_told_444 ⟨Nat.le_refl 0, Nat.le_refl 0⟩ ?_
        refine lv_istore (lv' := [(14, .int r_102), (13, .int r_100), (12, .int r_98), (0, .ref (ad 0)), (1, .int z1), (2, .int z2), (9, .int z9), (11, .int z11)]) hx hb dL_told_447 hl (by decide) rfl (fun ls hl => ?_)
        refine lv_iload hx hb dL_told_449 (lv_at hl 1 rfl) ?_
        refine lv_iload hx hb dL_told_451 (lv_at hl 2 rfl) ?_
        refine lv_isub hx hb dL_told_453 ?_
        refine lv_istore (lv' := [(15, .int (r_100 - r_98)), (14, .int r_102), (13, .int r_100), (12, .int r_98), (0, .ref (ad 0)), (1, .int z1), (2, .int z2), (9, .int z9), (11, .int z11)]) hx hb dL_told_454 hl (by decide) rfl (fun ls hl => ?_)
        refine lv_iload hx hb dL_told_456 (lv_at hl 1 rfl) ?_
        refine lv_iconst (v := (2 : Int32)) hx hb dL_told_458 (by decide) ?_
        refine lv_icmp_ne (tgt := 483) hx hb dL_told_459 (by decide) (fun c_104 => ?_) (fun c_104 => ?_)
        · have hr := hr.trans (if_neg c_104)
          refine lv_iload hx hb dL_told_483 (lv_at hl 1 rfl) ?_
          refine lv_iconst (v := (3 : Int32)) hx hb dL_told_485 (by decide) ?_
          refine lv_icmp_ne (tgt := 509) hx hb dL_told_486 (by decide) (fun c_105 => ?_) (fun c_105 => ?_)
          · have hr := hr.trans (if_neg c_105)
            refine lv_iload hx hb dL_told_509 (lv_at hl 1 rfl) ?_
            refine lv_iconst (v := (1 : Int32)) hx hb dL_told_511 (by decide) ?_
            refine lv_icmp_ne (tgt := 529) hx hb dL_told_512 (by decide) (fun c_106 => ?_) (fun c_106 => ?_)
            · have hr := hr.trans (if_neg c_106)
              refine lv_iload hx hb dL_told_529 (lv_at hl 0 rfl) ?_
              refine lv_iconst (v := (1 : Int32)) hx hb dL_told_531 (by decide) ?_
              refine lv_icmp_ne (tgt := 539) hx hb dL_told_532 (by decide) (fun c_107 => ?_) (fun c_107 => ?_)
              · have hr := hr.trans (if_neg c_107)
                refine lv_iconst (v := (0 : Int32)) hx hb dL_told_539 (by decide) ?_
                exact B540 _ ih z1 z2 z9 z11 r_100 r_102 (0 : Int32) _ hr (lv_sub hl [4, 5, 6, 7, 8, 2, 1] rfl)
              · have hr := hr.trans (if_pos c_107)
                refine lv_iconst (v := (1 : Int32)) hx hb dL_told_535 (by decide) ?_
                refine lv_goto (tgt := 540) hx hb dL_told_536 (by decide) ?_
                exact B540 _ ih z1 z2 z9 z11 r_100 r_102 (1 : Int32) _ hr (lv_sub hl [4, 5, 6, 7, 8, 2, 1] rfl)
            · have hr := hr.trans (if_pos c_106)
              refine lv_iload hx hb dL_told_515 (lv_at hl 0 rfl) ?_
              refine lv_iconst (v := (-1 : Int32)) hx hb dL_told_517 (by decide) ?_
              refine lv_icmp_ne (tgt := 525) hx hb dL_told_518 (by decide) (fun c_125 => ?_) (fun c_125 => ?_)
              · have hr := hr.trans (if_neg c_125)
                refine lv_iconst (v := (0 : Int32)) hx hb dL_told_525 (by decide) ?_
                refine lv_goto (tgt := 540) hx hb dL_told_526 (by decide) ?_
                exact B540 _ ih z1 z2 z9 z11 r_100 r_102 (0 : Int32) _ hr (lv_sub hl [4, 5, 6, 7, 8, 2, 1] rfl)
              · have hr := hr.trans (if_pos c_125)
                refine lv_iconst (v := (1 : Int32)) hx hb dL_told_521 (by decide) ?_
                refine lv_goto (tgt := 540) hx hb dL_told_522 (by decide) ?_
                exact B540 _ ih z1 z2 z9 z11 r_100 r_102 (1 : Int32) _ hr (lv_sub hl [4, 5, 6, 7, 8, 2, 1] rfl)
          · have hr := hr.trans (if_pos c_105)
            refine lv_iload hx hb dL_told_489 (lv_at hl 0 rfl) ?_
            refine lv_iconst (v := (1 : Int32)) hx hb dL_told_491 (by decide) ?_
            refine lv_icmp_eq (tgt := 501) hx hb dL_told_492 (by decide) (fun c_126 => ?_) (fun c_126 => ?_)
            · have hr := hr.trans (if_pos c_126)
              exact B501 _ ih z1 z2 z9 z11 r_100 r_102 _ hr (lv_sub hl [4, 5, 6, 7, 8, 2, 1] rfl)
            · have hr := hr.trans (if_neg c_126)
              refine lv_iload hx hb dL_told_495 (lv_at hl 0 rfl) ?_
              refine lv_iconst (v := (-1 : Int32)) hx hb dL_told_497 (by decide) ?_
              refine lv_icmp_ne (tgt := 505) hx hb dL_told_498 (by decide) (fun c_127 => ?_) (fun c_127 => ?_)
              · have hr := hr.trans (if_neg c_127)
                refine lv_iconst (v := (0 : Int32)) hx hb dL_told_505 (by decide) ?_
                refine lv_goto (tgt := 540) hx hb dL_told_506 (by decide) ?_
                exact B540 _ ih z1 z2 z9 z11 r_100 r_102 (0 : Int32) _ hr (lv_sub hl [4, 5, 6, 7, 8, 2, 1] rfl)
              · have hr := hr.trans (if_pos c_127)
                exact B501 _ ih z1 z2 z9 z11 r_100 r_102 _ hr (lv_sub hl [4, 5, 6, 7, 8, 2, 1] rfl)
        · have hr := hr.trans (if_pos c_104)
          refine lv_iload hx hb dL_told_462 (lv_at hl 0 rfl) ?_
          refine lv_iconst (v := (-1 : Int32)) hx hb dL_told_464 (by decide) ?_
          refine lv_icmp_eq (tgt := 475) hx hb dL_told_465 (by decide) (fun c_128 => ?_) (fun c_128 => ?_)
          · have hr := hr.trans (if_pos c_128)
            exact B475 _ ih z1 z2 z9 z11 r_100 r_102 _ hr (lv_sub hl [4, 5, 6, 7, 8, 2, 1] rfl)
          · have hr := hr.trans (if_neg c_128)
            refine lv_iload hx hb dL_told_468 (lv_at hl 0 rfl) ?_
            refine lv_bipush (v := (-2 : Int32)) hx hb dL_told_470 (by decide) ?_
            refine lv_icmp_ne (tgt := 479) hx hb dL_told_472 (by decide) (fun c_129 => ?_) (fun c_129 => ?_)
            · have hr := hr.trans (if_neg c_129)
              refine lv_iconst (v := (0 : Int32)) hx hb dL_told_479 (by decide) ?_
              refine lv_goto (tgt := 540) hx hb dL_told_480 (by decide) ?_
              exact B540 _ ih z1 z2 z9 z11 r_100 r_102 (0 : Int32) _ hr (lv_sub hl [4, 5, 6, 7, 8, 2, 1] rfl)
            · have hr := hr.trans (if_pos c_129)
              exact B475 _ ih z1 z2 z9 z11 r_100 r_102 _ hr (lv_sub hl [4, 5, 6, 7, 8, 2, 1] rfl)
  have B314 : ∀ (z1 : Int32) (z2 : Int32) (z6 : UInt32) (z7 : Int32) (y0 : Int32) (ls : Array Slot), some R = mf_L_told_B314 V z1 z2 z6 z7 y0 → lv_has ls 18 [(0, .ref (ad 0)), (1, .int z1), (2, .int z2), (6, .float z6), (7, .int z7)] → W p l e ({ frames := 5, cells := 0, slots := 0, locals := 106 } : Room) s m ([.ref (ad 0)] : List Value).toArray below meth c s.heap [] 0 0 (MQ below (vp_Si (fun x => x = R)) ([.ref (ad 0)] : List Value).toArray s 0 0 (fun _ => False)) (F0 m 314 ls [.int y0]) := by
    intro z1 z2 z6 z7 y0 ls hr hl
    rw [mf_L_told_B314] at hr
    refine lv_istore (lv' := [(9, .int y0), (0, .ref (ad 0)), (1, .int z1), (2, .int z2), (6, .float z6), (7, .int z7)]) hx hb dL_told_314 hl (by decide) rfl (fun ls hl => ?_)
    refine lv_aload_n hx hb dL_told_316 rfl (lv_at hl 1 rfl) ?_
    refine lv_bipush (v := (7 : Int32)) hx hb dL_told_317 (by decide) ?_
    refine nmv hr (fun r_60 e_61 hr => ?_)
    refine roV_i (As := [.int (7 : Int32)]) (rest := []) ⟨hx, hb, hml, hown, hts⟩ (k_X5_count l D Y ad V (7 : Int32) r_60 e_61) (cwV 1 hts gL_told_X5_count rfl rfl rfl (by decide +kernel) ⟨Nat.le_of_ble_eq_true rfl, Nat.le_of_ble_eq_true rfl⟩) hP hK hN hZ 0 5 rfl rfl rfl hl.1 rfl (Nat.le_of_ble_eq_true rfl) dL_told_319 ⟨Nat.le_refl 0, Nat.le_refl 0⟩ ?_
    refine lv_aload_n hx hb dL_told_322 rfl (lv_at hl 1 rfl) ?_
    refine lv_bipush (v := (8 : Int32)) hx hb dL_told_323 (by decide) ?_
    refine nmv hr (fun r_62 e_63 hr => ?_)
    refine roV_i (As := [.int (8 : Int32)]) (rest := [.int r_60]) ⟨hx, hb, hml, hown, hts⟩ (k_X5_count l D Y ad V (8 : Int32) r_62 e_63) (cwV 1 hts gL_told_X5_count rfl rfl rfl (by decide +kernel) ⟨Nat.le_of_ble_eq_true rfl, Nat.le_of_ble_eq_true rfl⟩) hP hK hN hZ 0 5 rfl rfl rfl hl.1 rfl (Nat.le_of_ble_eq_true rfl) dL_told_325 ⟨Nat.le_refl 0, Nat.le_refl 0⟩ ?_
    refine lv_iadd hx hb dL_told_328 ?_
    refine lv_aload_n hx hb dL_told_329 rfl (lv_at hl 1 rfl) ?_
    refine lv_bipush (v := (9 : Int32)) hx hb dL_told_330 (by decide) ?_
    refine nmv hr (fun r_64 e_65 hr => ?_)
    refine roV_i (As := [.int (9 : Int32)]) (rest := [.int (r_60 + r_62)]) ⟨hx, hb, hml, hown, hts⟩ (k_X5_count l D Y ad V (9 : Int32) r_64 e_65) (cwV 1 hts gL_told_X5_count rfl rfl rfl (by decide +kernel) ⟨Nat.le_of_ble_eq_true rfl, Nat.le_of_ble_eq_true rfl⟩) hP hK hN hZ 0 5 rfl rfl rfl hl.1 rfl (Nat.le_of_ble_eq_true rfl) dL_told_332 ⟨Nat.le_refl 0, Nat.le_refl 0⟩ ?_
    refine lv_iadd hx hb dL_told_335 ?_
    refine lv_aload_n hx hb dL_told_336 rfl (lv_at hl 1 rfl) ?_
    refine lv_bipush (v := (10 : Int32)) hx hb dL_told_337 (by decide) ?_
    refine nmv hr (fun r_66 e_67 hr => ?_)
    refine roV_i (As := [.int (10 : Int32)]) (rest := [.int ((r_60 + r_62) + r_64)]) ⟨hx, hb, hml, hown, hts⟩ (k_X5_count l D Y ad V (10 : Int32) r_66 e_67) (cwV 1 hts gL_told_X5_count rfl rfl rfl (by decide +kernel) ⟨Nat.le_of_ble_eq_true rfl, Nat.le_of_ble_eq_true rfl⟩) hP hK hN hZ 0 5 rfl rfl rfl hl.1 rfl (Nat.le_of_ble_eq_true rfl) dL_told_339 ⟨Nat.le_refl 0, Nat.le_refl 0⟩ ?_
    refine lv_iadd hx hb dL_told_342 ?_
    refine lv_aload_n hx hb dL_told_343 rfl (lv_at hl 1 rfl) ?_
    refine lv_bipush (v := (11 : Int32)) hx hb dL_told_344 (by decide) ?_
    refine nmv hr (fun r_68 e_69 hr => ?_)
    refine roV_i (As := [.int (11 : Int32)]) (rest := [.int (((r_60 + r_62) + r_64) + r_66)]) ⟨hx, hb, hml, hown, hts⟩ (k_X5_count l D Y ad V (11 : Int32) r_68 e_69) (cwV 1 hts gL_told_X5_count rfl rfl rfl (by decide +kernel) ⟨Nat.le_of_ble_eq_true rfl, Nat.le_of_ble_eq_true rfl⟩) hP hK hN hZ 0 5 rfl rfl rfl hl.1 rfl (Nat.le_of_ble_eq_true rfl) dL_told_346 ⟨Nat.le_refl 0, Nat.le_refl 0⟩ ?_
    refine lv_iadd hx hb dL_told_349 ?_
    refine lv_istore (lv' := [(10, .int ((((r_60 + r_62) + r_64) + r_66) + r_68)), (9, .int y0), (0, .ref (ad 0)), (1, .int z1), (2, .int z2), (6, .float z6), (7, .int z7)]) hx hb dL_told_350 hl (by decide) rfl (fun ls hl => ?_)
    refine lv_iload hx hb dL_told_352 (lv_at hl 6 rfl) ?_
    refine lv_if_eq (tgt := 410) hx hb dL_told_354 (by decide) (fun c_70 => ?_) (fun c_70 => ?_)
    · have hr := hr.trans (if_pos c_70)
      refine lv_iconst (v := (0 : Int32)) hx hb dL_told_410 (by decide) ?_
      have hr := Option.some.inj hr
      subst hr
      exact W.zret (ty := .boolean) hx hb hrt (by decide) (fun t ht hW => ⟨_, rfl, rfl, ht⟩) (fun q hq => absurd hq List.not_mem_nil) dL_told_411
    · have hr := hr.trans (if_neg c_70)
      refine lv_aload_n hx hb dL_told_357 rfl (lv_at hl 2 rfl) ?_
      refine bdv hr (fun r_71 e_72 hr => ?_)
      refine roV_f (As := []) (rest := []) ⟨hx, hb, hml, hown, hts⟩ (k_X5_force l D Y ad V r_71 e_72) (cwV 0 hts gL_told_X5_force rfl rfl rfl (by decide +kernel) ⟨Nat.le_of_ble_eq_true rfl, Nat.le_of_ble_eq_true rfl⟩) hP hK hN hZ 0 5 rfl rfl rfl hl.1 rfl (Nat.le_of_ble_eq_true rfl) dL_told_358 ⟨Nat.le_refl 0, Nat.le_refl 0⟩ ?_
      refine lv_fload hx hb dL_told_361 (lv_at hl 5 rfl) ?_
      refine lv_fcmp hx hb dL_told_363 ?_
      refine lv_if_ne (tgt := 410) hx hb dL_told_364 (by decide) (fun c_73 => ?_) (fun c_73 => ?_)
      · have hr := hr.trans (if_neg c_73)
        refine lv_iconst (v := (0 : Int32)) hx hb dL_told_410 (by decide) ?_
        have hr := Option.some.inj hr
        subst hr
        exact W.zret (ty := .boolean) hx hb hrt (by decide) (fun t ht hW => ⟨_, rfl, rfl, ht⟩) (fun q hq => absurd hq List.not_mem_nil) dL_told_411
      · have hr := hr.trans (if_pos c_73)
        refine lv_iload hx hb dL_told_367 (lv_at hl 0 rfl) ?_
        refine lv_aload_n hx hb dL_told_369 rfl (lv_at hl 2 rfl) ?_
        refine lv_iconst (v := (0 : Int32)) hx hb dL_told_370 (by decide) ?_
        refine nmv hr (fun r_74 e_75 hr => ?_)
        refine roV_i (As := [.int (0 : Int32)]) (rest := [.int ((((r_60 + r_62) + r_64) + r_66) + r_68)]) ⟨hx, hb, hml, hown, hts⟩ (k_X5_count l D Y ad V (0 : Int32) r_74 e_75) (cwV 1 hts gL_told_X5_count rfl rfl rfl (by decide +kernel) ⟨Nat.le_of_ble_eq_true rfl, Nat.le_of_ble_eq_true rfl⟩) hP hK hN hZ 0 5 rfl rfl rfl hl.1 rfl (Nat.le_of_ble_eq_true rfl) dL_told_371 ⟨Nat.le_refl 0, Nat.le_refl 0⟩ ?_
        refine lv_icmp_ne (tgt := 410) hx hb dL_told_374 (by decide) (fun c_76 => ?_) (fun c_76 => ?_)
        · have hr := hr.trans (if_neg c_76)
          refine lv_iconst (v := (0 : Int32)) hx hb dL_told_410 (by decide) ?_
          have hr := Option.some.inj hr
          subst hr
          exact W.zret (ty := .boolean) hx hb hrt (by decide) (fun t ht hW => ⟨_, rfl, rfl, ht⟩) (fun q hq => absurd hq List.not_mem_nil) dL_told_411
        · have hr := hr.trans (if_pos c_76)
          refine lv_aload_n hx hb dL_told_377 rfl (lv_at hl 2 rfl) ?_
          refine lv_bipush (v := (12 : Int32)) hx hb dL_told_378 (by decide) ?_
          refine nmv hr (fun r_77 e_78 hr => ?_)
          refine roV_i (As := [.int (12 : Int32)]) (rest := []) ⟨hx, hb, hml, hown, hts⟩ (k_X5_count l D Y ad V (12 : Int32) r_77 e_78) (cwV 1 hts gL_told_X5_count rfl rfl rfl (by decide +kernel) ⟨Nat.le_of_ble_eq_true rfl, Nat.le_of_ble_eq_true rfl⟩) hP hK hN hZ 0 5 rfl rfl rfl hl.1 rfl (Nat.le_of_ble_eq_true rfl) dL_told_380 ⟨Nat.le_refl 0, Nat.le_refl 0⟩ ?_
          refine lv_iload hx hb dL_told_383 (lv_at hl 0 rfl) ?_
          refine lv_icmp_gt (tgt := 410) hx hb dL_told_385 (by decide) (fun c_79 => ?_) (fun c_79 => ?_)
          · have hr := hr.trans (if_pos c_79)
            refine lv_iconst (v := (0 : Int32)) hx hb dL_told_410 (by decide) ?_
            have hr := Option.some.inj hr
            subst hr
            exact W.zret (ty := .boolean) hx hb hrt (by decide) (fun t ht hW => ⟨_, rfl, rfl, ht⟩) (fun q hq => absurd hq List.not_mem_nil) dL_told_411
          · have hr := hr.trans (if_neg c_79)
            refine lv_aload_n hx hb dL_told_388 rfl (lv_at hl 2 rfl) ?_
            refine lv_bipush (v := (7 : Int32)) hx hb dL_told_389 (by decide) ?_
            refine nmv hr (fun r_80 e_81 hr => ?_)
            refine roV_i (As := [.int (7 : Int32)]) (rest := []) ⟨hx, hb, hml, hown, hts⟩ (k_X5_car l D Y ad V (7 : Int32) r_80 e_81) (cwV 1 hts gL_told_X5_car rfl rfl rfl (by decide +kernel) ⟨Nat.le_of_ble_eq_true rfl, Nat.le_of_ble_eq_true rfl⟩) hP hK hN hZ 0 5 rfl rfl rfl hl.1 rfl (Nat.le_of_ble_eq_true rfl) dL_told_391 ⟨Nat.le_refl 0, Nat.le_refl 0⟩ ?_
            refine lv_bipush (v := (-2 : Int32)) hx hb dL_told_394 (by decide) ?_
            refine lv_icmp_ne (tgt := 410) hx hb dL_told_396 (by decide) (fun c_82 => ?_) (fun c_82 => ?_)
            · have hr := hr.trans (if_neg c_82)
              refine lv_iconst (v := (0 : Int32)) hx hb dL_told_410 (by decide) ?_
              have hr := Option.some.inj hr
              subst hr
              exact W.zret (ty := .boolean) hx hb hrt (by decide) (fun t ht hW => ⟨_, rfl, rfl, ht⟩) (fun q hq => absurd hq List.not_mem_nil) dL_told_411
            · have hr := hr.trans (if_pos c_82)
              refine lv_aload_n hx hb dL_told_399 rfl (lv_at hl 2 rfl) ?_
              refine lv_iconst (v := (5 : Int32)) hx hb dL_told_400 (by decide) ?_
              refine bdv hr (fun r_83 e_84 hr => ?_)
              refine roV_f (As := [.int (5 : Int32)]) (rest := []) ⟨hx, hb, hml, hown, hts⟩ (k_X5_pressed l D Y ad V (5 : Int32) r_83 e_84) (cwV 1 hts gL_told_X5_pressed rfl rfl rfl (by decide +kernel) ⟨Nat.le_of_ble_eq_true rfl, Nat.le_of_ble_eq_true rfl⟩) hP hK hN hZ 0 5 rfl rfl rfl hl.1 rfl (Nat.le_of_ble_eq_true rfl) dL_told_401 ⟨Nat.le_refl 0, Nat.le_refl 0⟩ ?_
              refine nmv hr (fun r_85 e_86 hr => ?_)
              refine roS_i (As := [.float r_83]) (rest := []) ⟨hx, hb, hml, hown, hts⟩ (k_L_isNone l D Y  r_83 r_85 e_86) (va_cwS 1 hts gL_told_L_isNone rfl rfl rfl (by decide +kernel) ⟨Nat.le_of_ble_eq_true rfl, Nat.le_of_ble_eq_true rfl⟩) (hP.sub (ws' := []) [] rfl) hK hN hZ rfl hl.1 rfl (Nat.le_of_ble_eq_true rfl) dL_told_404 ⟨Nat.le_refl 0, Nat.le_refl 0⟩ ?_
              refine lv_if_ne (tgt := 412) hx hb dL_told_407 (by decide) (fun c_87 => ?_) (fun c_87 => ?_)
              · have hr := hr.trans (if_neg c_87)
                refine lv_iconst (v := (0 : Int32)) hx hb dL_told_412 (by decide) ?_
                refine lv_istore (lv' := [(11, .int (0 : Int32)), (10, .int ((((r_60 + r_62) + r_64) + r_66) + r_68)), (9, .int y0), (0, .ref (ad 0)), (1, .int z1), (2, .int z2), (6, .float z6), (7, .int z7)]) hx hb dL_told_413 hl (by decide) rfl (fun ls hl => ?_)
                exact B415 20 z1 z2 y0 (0 : Int32) _ hr (lv_sub hl [3, 4, 5, 2, 0] rfl)
              · have hr := hr.trans (if_pos c_87)
                refine lv_iconst (v := (0 : Int32)) hx hb dL_told_410 (by decide) ?_
                have hr := Option.some.inj hr
                subst hr
                exact W.zret (ty := .boolean) hx hb hrt (by decide) (fun t ht hW => ⟨_, rfl, rfl, ht⟩) (fun q hq => absurd hq List.not_mem_nil) dL_told_411
  have B267 : ∀ (z1 : Int32) (z2 : Int32) (z6 : UInt32) (y0 : Int32) (ls : Array Slot), some R = mf_L_told_B267 V z1 z2 z6 y0 → lv_has ls 18 [(0, .ref (ad 0)), (1, .int z1), (2, .int z2), (6, .float z6)] → W p l e ({ frames := 5, cells := 0, slots := 0, locals := 106 } : Room) s m ([.ref (ad 0)] : List Value).toArray below meth c s.heap [] 0 0 (MQ below (vp_Si (fun x => x = R)) ([.ref (ad 0)] : List Value).toArray s 0 0 (fun _ => False)) (F0 m 267 ls [.int y0]) := by
    intro z1 z2 z6 y0 ls hr hl
    rw [mf_L_told_B267] at hr
    refine lv_istore (lv' := [(7, .int y0), (0, .ref (ad 0)), (1, .int z1), (2, .int z2), (6, .float z6)]) hx hb dL_told_267 hl (by decide) rfl (fun ls hl => ?_)
    refine lv_aload_n hx hb dL_told_269 rfl (lv_at hl 1 rfl) ?_
    refine lv_iconst (v := (1 : Int32)) hx hb dL_told_270 (by decide) ?_
    refine nmv hr (fun r_49 e_50 hr => ?_)
    refine roV_i (As := [.int (1 : Int32)]) (rest := []) ⟨hx, hb, hml, hown, hts⟩ (k_X5_count l D Y ad V (1 : Int32) r_49 e_50) (cwV 1 hts gL_told_X5_count rfl rfl rfl (by decide +kernel) ⟨Nat.le_of_ble_eq_true rfl, Nat.le_of_ble_eq_true rfl⟩) hP hK hN hZ 0 5 rfl rfl rfl hl.1 rfl (Nat.le_of_ble_eq_true rfl) dL_told_271 ⟨Nat.le_refl 0, Nat.le_refl 0⟩ ?_
    refine lv_aload_n hx hb dL_told_274 rfl (lv_at hl 1 rfl) ?_
    refine lv_iconst (v := (2 : Int32)) hx hb dL_told_275 (by decide) ?_
    refine nmv hr (fun r_51 e_52 hr => ?_)
    refine roV_i (As := [.int (2 : Int32)]) (rest := [.int r_49]) ⟨hx, hb, hml, hown, hts⟩ (k_X5_count l D Y ad V (2 : Int32) r_51 e_52) (cwV 1 hts gL_told_X5_count rfl rfl rfl (by decide +kernel) ⟨Nat.le_of_ble_eq_true rfl, Nat.le_of_ble_eq_true rfl⟩) hP hK hN hZ 0 5 rfl rfl rfl hl.1 rfl (Nat.le_of_ble_eq_true rfl) dL_told_276 ⟨Nat.le_refl 0, Nat.le_refl 0⟩ ?_
    refine lv_iadd hx hb dL_told_279 ?_
    refine lv_aload_n hx hb dL_told_280 rfl (lv_at hl 1 rfl) ?_
    refine lv_iconst (v := (3 : Int32)) hx hb dL_told_281 (by decide) ?_
    refine nmv hr (fun r_53 e_54 hr => ?_)
    refine roV_i (As := [.int (3 : Int32)]) (rest := [.int (r_49 + r_51)]) ⟨hx, hb, hml, hown, hts⟩ (k_X5_count l D Y ad V (3 : Int32) r_53 e_54) (cwV 1 hts gL_told_X5_count rfl rfl rfl (by decide +kernel) ⟨Nat.le_of_ble_eq_true rfl, Nat.le_of_ble_eq_true rfl⟩) hP hK hN hZ 0 5 rfl rfl rfl hl.1 rfl (Nat.le_of_ble_eq_true rfl) dL_told_282 ⟨Nat.le_refl 0, Nat.le_refl 0⟩ ?_
    refine lv_iadd hx hb dL_told_285 ?_
    refine lv_aload_n hx hb dL_told_286 rfl (lv_at hl 1 rfl) ?_
    refine lv_iconst (v := (4 : Int32)) hx hb dL_told_287 (by decide) ?_
    refine nmv hr (fun r_55 e_56 hr => ?_)
    refine roV_i (As := [.int (4 : Int32)]) (rest := [.int ((r_49 + r_51) + r_53)]) ⟨hx, hb, hml, hown, hts⟩ (k_X5_count l D Y ad V (4 : Int32) r_55 e_56) (cwV 1 hts gL_told_X5_count rfl rfl rfl (by decide +kernel) ⟨Nat.le_of_ble_eq_true rfl, Nat.le_of_ble_eq_true rfl⟩) hP hK hN hZ 0 5 rfl rfl rfl hl.1 rfl (Nat.le_of_ble_eq_true rfl) dL_told_288 ⟨Nat.le_refl 0, Nat.le_refl 0⟩ ?_
    refine lv_iadd hx hb dL_told_291 ?_
    refine lv_aload_n hx hb dL_told_292 rfl (lv_at hl 1 rfl) ?_
    refine lv_iconst (v := (5 : Int32)) hx hb dL_told_293 (by decide) ?_
    refine nmv hr (fun r_57 e_58 hr => ?_)
    refine roV_i (As := [.int (5 : Int32)]) (rest := [.int (((r_49 + r_51) + r_53) + r_55)]) ⟨hx, hb, hml, hown, hts⟩ (k_X5_count l D Y ad V (5 : Int32) r_57 e_58) (cwV 1 hts gL_told_X5_count rfl rfl rfl (by decide +kernel) ⟨Nat.le_of_ble_eq_true rfl, Nat.le_of_ble_eq_true rfl⟩) hP hK hN hZ 0 5 rfl rfl rfl hl.1 rfl (Nat.le_of_ble_eq_true rfl) dL_told_294 ⟨Nat.le_refl 0, Nat.le_refl 0⟩ ?_
    refine lv_iadd hx hb dL_told_297 ?_
    refine lv_istore (lv' := [(8, .int ((((r_49 + r_51) + r_53) + r_55) + r_57)), (7, .int y0), (0, .ref (ad 0)), (1, .int z1), (2, .int z2), (6, .float z6)]) hx hb dL_told_298 hl (by decide) rfl (fun ls hl => ?_)
    refine lv_iload hx hb dL_told_300 (lv_at hl 0 rfl) ?_
    refine lv_bipush (v := (10 : Int32)) hx hb dL_told_302 (by decide) ?_
    refine lv_icmp_ge (tgt := 312) hx hb dL_told_304 (by decide) (fun c_59 => ?_) (fun c_59 => ?_)
    · have hr := hr.trans (if_pos c_59)
      refine lv_bipush (v := (10 : Int32)) hx hb dL_told_312 (by decide) ?_
      exact B314 z1 z2 z6 y0 (10 : Int32) _ hr (lv_sub hl [2, 3, 4, 5, 1] rfl)
    · have hr := hr.trans (if_neg c_59)
      refine lv_iload hx hb dL_told_307 (lv_at hl 0 rfl) ?_
      refine lv_goto (tgt := 314) hx hb dL_told_309 (by decide) ?_
      exact B314 z1 z2 z6 y0 ((((r_49 + r_51) + r_53) + r_55) + r_57) _ hr (lv_sub hl [2, 3, 4, 5, 1] rfl)
  have B266 : ∀ (z1 : Int32) (z2 : Int32) (z6 : UInt32) (ls : Array Slot), some R = mf_L_told_B266 V z1 z2 z6 → lv_has ls 18 [(0, .ref (ad 0)), (1, .int z1), (2, .int z2), (6, .float z6)] → W p l e ({ frames := 5, cells := 0, slots := 0, locals := 106 } : Room) s m ([.ref (ad 0)] : List Value).toArray below meth c s.heap [] 0 0 (MQ below (vp_Si (fun x => x = R)) ([.ref (ad 0)] : List Value).toArray s 0 0 (fun _ => False)) (F0 m 266 ls []) := by
    intro z1 z2 z6 ls hr hl
    rw [mf_L_told_B266] at hr
    refine lv_iconst (v := (0 : Int32)) hx hb dL_told_266 (by decide) ?_
    exact B267 z1 z2 z6 (0 : Int32) _ hr (lv_sub hl [0, 1, 2, 3] rfl)
  have B243 : ∀ (z1 : Int32) (z2 : Int32) (z6 : UInt32) (ls : Array Slot), some R = mf_L_told_B243 V z1 z2 z6 → lv_has ls 18 [(0, .ref (ad 0)), (1, .int z1), (2, .int z2), (6, .float z6)] → W p l e ({ frames := 5, cells := 0, slots := 0, locals := 106 } : Room) s m ([.ref (ad 0)] : List Value).toArray below meth c s.heap [] 0 0 (MQ below (vp_Si (fun x => x = R)) ([.ref (ad 0)] : List Value).toArray s 0 0 (fun _ => False)) (F0 m 243 ls []) := by
    intro z1 z2 z6 ls hr hl
    rw [mf_L_told_B243] at hr
    refine lv_iconst (v := (0 : Int32)) hx hb dL_told_243 (by decide) ?_
    refine lv_goto (tgt := 267) hx hb dL_told_244 (by decide) ?_
    exact B267 z1 z2 z6 (0 : Int32) _ hr (lv_sub hl [0, 1, 2, 3] rfl)
  have B48_5 : ∀ (z1 : Int32) (z2 : Int32) (z3 : Int32) (z4 : Int32) (z5 : Int32) (z6 : UInt32) (ls : Array Slot), some R = mf_L_told_B48_5 V z1 z2 z3 z4 z5 z6 → lv_has ls 18 [(0, .ref (ad 0)), (1, .int z1), (2, .int z2), (3, .int z3), (4, .int z4), (5, .int z5), (6, .float z6), (7, .int (5 : Int32))] → W p l e ({ frames := 5, cells := 0, slots := 0, locals := 106 } : Room) s m ([.ref (ad 0)] : List Value).toArray below meth c s.heap [] 0 0 (MQ below (vp_Si (fun x => x = R)) ([.ref (ad 0)] : List Value).toArray s 0 0 (fun _ => False)) (F0 m 48 ls []) := by
    intro z1 z2 z3 z4 z5 z6 ls hr hl
    rw [mf_L_told_B48_5] at hr
    refine lv_iload hx hb dL_told_48 (lv_at hl 7 rfl) ?_
    refine lv_iconst (v := (5 : Int32)) hx hb dL_told_50 (by decide) ?_
    refine lv_icmp_ge (tgt := 206) hx hb dL_told_51 (by decide) (fun _ => ?_) (fun hc => absurd hc (by decide))
    refine lv_iload_n hx hb dL_told_206 rfl (lv_at hl 2 rfl) ?_
    refine lv_bipush (v := (-5 : Int32)) hx hb dL_told_207 (by decide) ?_
    refine lv_icmp_ne (tgt := 247) hx hb dL_told_209 (by decide) (fun c_47 => ?_) (fun c_47 => ?_)
    · have hr := hr.trans (if_neg c_47)
      refine lv_iload_n hx hb dL_told_247 rfl (lv_at hl 3 rfl) ?_
      refine lv_if_lt (tgt := 266) hx hb dL_told_248 (by decide) (fun c_48 => ?_) (fun c_48 => ?_)
      · have hr := hr.trans (if_pos c_48)
        exact B266 z1 z2 z6 _ hr (lv_sub hl [0, 1, 2, 6] rfl)
      · have hr := hr.trans (if_neg c_48)
        refine lv_iload_n hx hb dL_told_251 rfl (lv_at hl 3 rfl) ?_
        refine lv_iload hx hb dL_told_252 (lv_at hl 4 rfl) ?_
        refine lv_icmp_ge (tgt := 266) hx hb dL_told_254 (by decide) (fun c_130 => ?_) (fun c_130 => ?_)
        · have hr := hr.trans (if_pos c_130)
          exact B266 z1 z2 z6 _ hr (lv_sub hl [0, 1, 2, 6] rfl)
        · have hr := hr.trans (if_neg c_130)
          refine lv_iload_n hx hb dL_told_257 rfl (lv_at hl 2 rfl) ?_
          refine lv_iload_n hx hb dL_told_258 rfl (lv_at hl 1 rfl) ?_
          refine lv_icmp_eq (tgt := 266) hx hb dL_told_259 (by decide) (fun c_131 => ?_) (fun c_131 => ?_)
          · have hr := hr.trans (if_pos c_131)
            exact B266 z1 z2 z6 _ hr (lv_sub hl [0, 1, 2, 6] rfl)
          · have hr := hr.trans (if_neg c_131)
            refine lv_iconst (v := (1 : Int32)) hx hb dL_told_262 (by decide) ?_
            refine lv_goto (tgt := 267) hx hb dL_told_263 (by decide) ?_
            exact B267 z1 z2 z6 (1 : Int32) _ hr (lv_sub hl [0, 1, 2, 6] rfl)
    · have hr := hr.trans (if_pos c_47)
      refine lv_iload_n hx hb dL_told_212 rfl (lv_at hl 3 rfl) ?_
      refine lv_bipush (v := (-5 : Int32)) hx hb dL_told_213 (by decide) ?_
      refine lv_icmp_ne (tgt := 243) hx hb dL_told_215 (by decide) (fun c_132 => ?_) (fun c_132 => ?_)
      · have hr := hr.trans (if_neg c_132)
        exact B243 z1 z2 z6 _ hr (lv_sub hl [0, 1, 2, 6] rfl)
      · have hr := hr.trans (if_pos c_132)
        refine lv_aload_n hx hb dL_told_218 rfl (lv_at hl 0 rfl) ?_
        refine lv_iconst (v := (5 : Int32)) hx hb dL_told_219 (by decide) ?_
        refine nmv hr (fun r_133 e_134 hr => ?_)
        refine roV_i (As := [.int (5 : Int32)]) (rest := []) ⟨hx, hb, hml, hown, hts⟩ (k_X5_car l D Y ad V (5 : Int32) r_133 e_134) (cwV 1 hts gL_told_X5_car rfl rfl rfl (by decide +kernel) ⟨Nat.le_of_ble_eq_true rfl, Nat.le_of_ble_eq_true rfl⟩) hP hK hN hZ 0 5 rfl rfl rfl hl.1 rfl (Nat.le_of_ble_eq_true rfl) dL_told_220 ⟨Nat.le_refl 0, Nat.le_refl 0⟩ ?_
        refine lv_bipush (v := (-5 : Int32)) hx hb dL_told_223 (by decide) ?_
        refine lv_icmp_ne (tgt := 243) hx hb dL_told_225 (by decide) (fun c_135 => ?_) (fun c_135 => ?_)
        · have hr := hr.trans (if_neg c_135)
          exact B243 z1 z2 z6 _ hr (lv_sub hl [0, 1, 2, 6] rfl)
        · have hr := hr.trans (if_pos c_135)
          refine lv_aload_n hx hb dL_told_228 rfl (lv_at hl 0 rfl) ?_
          refine lv_bipush (v := (6 : Int32)) hx hb dL_told_229 (by decide) ?_
          refine nmv hr (fun r_136 e_137 hr => ?_)
          refine roV_i (As := [.int (6 : Int32)]) (rest := []) ⟨hx, hb, hml, hown, hts⟩ (k_X5_car l D Y ad V (6 : Int32) r_136 e_137) (cwV 1 hts gL_told_X5_car rfl rfl rfl (by decide +kernel) ⟨Nat.le_of_ble_eq_true rfl, Nat.le_of_ble_eq_true rfl⟩) hP hK hN hZ 0 5 rfl rfl rfl hl.1 rfl (Nat.le_of_ble_eq_true rfl) dL_told_231 ⟨Nat.le_refl 0, Nat.le_refl 0⟩ ?_
          refine lv_bipush (v := (-5 : Int32)) hx hb dL_told_234 (by decide) ?_
          refine lv_icmp_ne (tgt := 243) hx hb dL_told_236 (by decide) (fun c_138 => ?_) (fun c_138 => ?_)
          · have hr := hr.trans (if_neg c_138)
            exact B243 z1 z2 z6 _ hr (lv_sub hl [0, 1, 2, 6] rfl)
          · have hr := hr.trans (if_pos c_138)
            refine lv_iconst (v := (1 : Int32)) hx hb dL_told_239 (by decide) ?_
            refine lv_goto (tgt := 267) hx hb dL_told_240 (by decide) ?_
            exact B267 z1 z2 z6 (1 : Int32) _ hr (lv_sub hl [0, 1, 2, 6] rfl)
  have B186_4 : ∀ (z1 : Int32) (z2 : Int32) (z3 : Int32) (z4 : Int32) (z5 : Int32) (z6 : UInt32) (z8 : UInt32) (ls : Array Slot), some R = mf_L_told_B186_4 V z1 z2 z3 z4 z5 z6 z8 → lv_has ls 18 [(0, .ref (ad 0)), (1, .int z1), (2, .int z2), (3, .int z3), (4, .int z4), (5, .int z5), (6, .float z6), (7, .int (4 : Int32)), (8, .float z8)] → W p l e ({ frames := 5, cells := 0, slots := 0, locals := 106 } : Room) s m ([.ref (ad 0)] : List Value).toArray below meth c s.heap [] 0 0 (MQ below (vp_Si (fun x => x = R)) ([.ref (ad 0)] : List Value).toArray s 0 0 (fun _ => False)) (F0 m 186 ls []) := by
    intro z1 z2 z3 z4 z5 z6 z8 ls hr hl
    rw [mf_L_told_B186_4] at hr
    refine lv_aload_n hx hb dL_told_186 rfl (lv_at hl 0 rfl) ?_
    refine lv_iload hx hb dL_told_187 (lv_at hl 7 rfl) ?_
    refine bdv hr (fun r_44 e_45 hr => ?_)
    refine roV_f (As := [.int (4 : Int32)]) (rest := []) ⟨hx, hb, hml, hown, hts⟩ (k_X5_pressed l D Y ad V (4 : Int32) r_44 e_45) (cwV 1 hts gL_told_X5_pressed rfl rfl rfl (by decide +kernel) ⟨Nat.le_of_ble_eq_true rfl, Nat.le_of_ble_eq_true rfl⟩) hP hK hN hZ 0 5 rfl rfl rfl hl.1 rfl (Nat.le_of_ble_eq_true rfl) dL_told_189 ⟨Nat.le_refl 0, Nat.le_refl 0⟩ ?_
    refine lv_fload hx hb dL_told_192 (lv_at hl 8 rfl) ?_
    refine lv_fcmp hx hb dL_told_194 ?_
    refine lv_if_eq (tgt := 200) hx hb dL_told_195 (by decide) (fun c_46 => ?_) (fun c_46 => ?_)
    · have hr := hr.trans (if_pos c_46)
      refine lv_iinc (v := (5 : Int32)) (lv' := [(7, .int (5 : Int32)), (0, .ref (ad 0)), (1, .int z1), (2, .int z2), (3, .int z3), (4, .int z4), (5, .int z5), (6, .float z6), (8, .float z8)]) hx hb dL_told_200 hl (k := 7) rfl (by decide) (by decide) rfl (fun ls hl => ?_)
      refine lv_goto (tgt := 48) hx hb dL_told_203 (by decide) ?_
      exact B48_5 z1 z2 z3 z4 z5 z6 _ hr (lv_sub hl [1, 2, 3, 4, 5, 6, 7, 0] rfl)
    · have hr := hr.trans (if_neg c_46)
      refine lv_iconst (v := (0 : Int32)) hx hb dL_told_198 (by decide) ?_
      have hr := Option.some.inj hr
      subst hr
      exact W.zret (ty := .boolean) hx hb hrt (by decide) (fun t ht hW => ⟨_, rfl, rfl, ht⟩) (fun q hq => absurd hq List.not_mem_nil) dL_told_199
  have B176_4 : ∀ (z1 : Int32) (z2 : Int32) (z3 : Int32) (z4 : Int32) (z5 : Int32) (z6 : UInt32) (z8 : UInt32) (y0 : Int32) (ls : Array Slot), some R = mf_L_told_B176_4 V z1 z2 z3 z4 z5 z6 z8 y0 → lv_has ls 18 [(0, .ref (ad 0)), (1, .int z1), (2, .int z2), (3, .int z3), (4, .int z4), (5, .int z5), (6, .float z6), (7, .int (4 : Int32)), (8, .float z8)] → W p l e ({ frames := 5, cells := 0, slots := 0, locals := 106 } : Room) s m ([.ref (ad 0)] : List Value).toArray below meth c s.heap [] 0 0 (MQ below (vp_Si (fun x => x = R)) ([.ref (ad 0)] : List Value).toArray s 0 0 (fun _ => False)) (F0 m 176 ls [.int y0, .ref (ad 0)]) := by
    intro z1 z2 z3 z4 z5 z6 z8 y0 ls hr hl
    rw [mf_L_told_B176_4] at hr
    refine nmv hr (fun r_158 e_159 hr => ?_)
    refine roV_i (As := [.int y0]) (rest := []) ⟨hx, hb, hml, hown, hts⟩ (k_X5_car l D Y ad V y0 r_158 e_159) (cwV 1 hts gL_told_X5_car rfl rfl rfl (by decide +kernel) ⟨Nat.le_of_ble_eq_true rfl, Nat.le_of_ble_eq_true rfl⟩) hP hK hN hZ 0 5 rfl rfl rfl hl.1 rfl (Nat.le_of_ble_eq_true rfl) dL_told_176 ⟨Nat.le_refl 0, Nat.le_refl 0⟩ ?_
    refine lv_iload hx hb dL_told_179 (lv_at hl 7 rfl) ?_
    refine lv_icmp_eq (tgt := 186) hx hb dL_told_181 (by decide) (fun c_160 => ?_) (fun c_160 => ?_)
    · have hr := hr.trans (if_pos c_160)
      exact B186_4 z1 z2 z3 z4 z5 z6 z8 _ hr (lv_sub hl [0, 1, 2, 3, 4, 5, 6, 7, 8] rfl)
    · have hr := hr.trans (if_neg c_160)
      refine lv_iconst (v := (0 : Int32)) hx hb dL_told_184 (by decide) ?_
      have hr := Option.some.inj hr
      subst hr
      exact W.zret (ty := .boolean) hx hb hrt (by decide) (fun t ht hW => ⟨_, rfl, rfl, ht⟩) (fun q hq => absurd hq List.not_mem_nil) dL_told_185
  have B158_4 : ∀ (z1 : Int32) (z2 : Int32) (z3 : Int32) (z4 : Int32) (z5 : Int32) (z8 : UInt32) (y0 : UInt32) (ls : Array Slot), some R = mf_L_told_B158_4 V z1 z2 z3 z4 z5 z8 y0 → lv_has ls 18 [(0, .ref (ad 0)), (1, .int z1), (2, .int z2), (3, .int z3), (4, .int z4), (5, .int z5), (7, .int (4 : Int32)), (8, .float z8)] → W p l e ({ frames := 5, cells := 0, slots := 0, locals := 106 } : Room) s m ([.ref (ad 0)] : List Value).toArray below meth c s.heap [] 0 0 (MQ below (vp_Si (fun x => x = R)) ([.ref (ad 0)] : List Value).toArray s 0 0 (fun _ => False)) (F0 m 158 ls [.float y0]) := by
    intro z1 z2 z3 z4 z5 z8 y0 ls hr hl
    rw [mf_L_told_B158_4] at hr
    refine lv_fstore (lv' := [(6, .float y0), (0, .ref (ad 0)), (1, .int z1), (2, .int z2), (3, .int z3), (4, .int z4), (5, .int z5), (7, .int (4 : Int32)), (8, .float z8)]) hx hb dL_told_158 hl (by decide) rfl (fun ls hl => ?_)
    refine lv_aload_n hx hb dL_told_160 rfl (lv_at hl 1 rfl) ?_
    refine lv_iload_n hx hb dL_told_161 rfl (lv_at hl 2 rfl) ?_
    refine lv_iload hx hb dL_told_162 (lv_at hl 7 rfl) ?_
    refine nmv hr (fun r_155 e_156 hr => ?_)
    refine roS_i (As := [.int z1, .int (4 : Int32)]) (rest := [.ref (ad 0)]) ⟨hx, hb, hml, hown, hts⟩ (k_L_isClosed l D Y  z1 (4 : Int32) r_155 e_156) (va_cwS 2 hts gL_told_L_isClosed rfl rfl rfl (by decide +kernel) ⟨Nat.le_of_ble_eq_true rfl, Nat.le_of_ble_eq_true rfl⟩) (hP.sub (ws' := []) [] rfl) hK hN hZ rfl hl.1 rfl (Nat.le_of_ble_eq_true rfl) dL_told_164 ⟨Nat.le_refl 0, Nat.le_refl 0⟩ ?_
    refine lv_if_eq (tgt := 174) hx hb dL_told_167 (by decide) (fun c_157 => ?_) (fun c_157 => ?_)
    · have hr := hr.trans (if_pos c_157)
      refine lv_bipush (v := (6 : Int32)) hx hb dL_told_174 (by decide) ?_
      exact B176_4 z1 z2 z3 z4 z5 y0 z8 (6 : Int32) _ hr (lv_sub hl [1, 2, 3, 4, 5, 6, 0, 7, 8] rfl)
    · have hr := hr.trans (if_neg c_157)
      refine lv_iconst (v := (5 : Int32)) hx hb dL_told_170 (by decide) ?_
      refine lv_goto (tgt := 176) hx hb dL_told_171 (by decide) ?_
      exact B176_4 z1 z2 z3 z4 z5 y0 z8 (5 : Int32) _ hr (lv_sub hl [1, 2, 3, 4, 5, 6, 0, 7, 8] rfl)
  have B141_4 : ∀ (z1 : Int32) (z2 : Int32) (z3 : Int32) (z4 : Int32) (z5 : Int32) (z6 : UInt32) (y0 : UInt32) (ls : Array Slot), some R = mf_L_told_B141_4 V z1 z2 z3 z4 z5 z6 y0 → lv_has ls 18 [(0, .ref (ad 0)), (1, .int z1), (2, .int z2), (3, .int z3), (4, .int z4), (5, .int z5), (6, .float z6), (7, .int (4 : Int32))] → W p l e ({ frames := 5, cells := 0, slots := 0, locals := 106 } : Room) s m ([.ref (ad 0)] : List Value).toArray below meth c s.heap [] 0 0 (MQ below (vp_Si (fun x => x = R)) ([.ref (ad 0)] : List Value).toArray s 0 0 (fun _ => False)) (F0 m 141 ls [.float y0]) := by
    intro z1 z2 z3 z4 z5 z6 y0 ls hr hl
    rw [mf_L_told_B141_4] at hr
    refine lv_fstore (lv' := [(8, .float y0), (0, .ref (ad 0)), (1, .int z1), (2, .int z2), (3, .int z3), (4, .int z4), (5, .int z5), (6, .float z6), (7, .int (4 : Int32))]) hx hb dL_told_141 hl (by decide) rfl (fun ls hl => ?_)
    refine lv_fload hx hb dL_told_143 (lv_at hl 0 rfl) ?_
    refine lv_fload hx hb dL_told_145 (lv_at hl 7 rfl) ?_
    refine lv_fcmp hx hb dL_told_147 ?_
    refine lv_if_le (tgt := 156) hx hb dL_told_148 (by decide) (fun c_154 => ?_) (fun c_154 => ?_)
    · have hr := hr.trans (if_pos c_154)
      refine lv_fload hx hb dL_told_156 (lv_at hl 7 rfl) ?_
      exact B158_4 z1 z2 z3 z4 z5 y0 z6 _ hr (lv_sub hl [1, 2, 3, 4, 5, 6, 8, 0] rfl)
    · have hr := hr.trans (if_neg c_154)
      refine lv_fload hx hb dL_told_151 (lv_at hl 0 rfl) ?_
      refine lv_goto (tgt := 158) hx hb dL_told_153 (by decide) ?_
      exact B158_4 z1 z2 z3 z4 z5 y0 y0 _ hr (lv_sub hl [1, 2, 3, 4, 5, 6, 8, 0] rfl)
  have B68_4 : ∀ (z1 : Int32) (z2 : Int32) (z3 : Int32) (z4 : Int32) (z5 : Int32) (z6 : UInt32) (y0 : UInt32) (ls : Array Slot), some R = mf_L_told_B68_4 V z1 z2 z3 z4 z5 z6 y0 → lv_has ls 18 [(0, .ref (ad 0)), (1, .int z1), (2, .int z2), (3, .int z3), (4, .int z4), (5, .int z5), (6, .float z6), (7, .int (4 : Int32))] → W p l e ({ frames := 5, cells := 0, slots := 0, locals := 106 } : Room) s m ([.ref (ad 0)] : List Value).toArray below meth c s.heap [] 0 0 (MQ below (vp_Si (fun x => x = R)) ([.ref (ad 0)] : List Value).toArray s 0 0 (fun _ => False)) (F0 m 68 ls [.float y0]) := by
    intro z1 z2 z3 z4 z5 z6 y0 ls hr hl
    rw [mf_L_told_B68_4] at hr
    refine lv_fstore (lv' := [(8, .float y0), (0, .ref (ad 0)), (1, .int z1), (2, .int z2), (3, .int z3), (4, .int z4), (5, .int z5), (6, .float z6), (7, .int (4 : Int32))]) hx hb dL_told_68 hl (by decide) rfl (fun ls hl => ?_)
    refine lv_iload_n hx hb dL_told_70 rfl (lv_at hl 3 rfl) ?_
    refine lv_bipush (v := (-5 : Int32)) hx hb dL_told_71 (by decide) ?_
    refine lv_icmp_eq (tgt := 186) hx hb dL_told_73 (by decide) (fun c_43 => ?_) (fun c_43 => ?_)
    · have hr := hr.trans (if_pos c_43)
      exact B186_4 z1 z2 z3 z4 z5 z6 y0 _ hr (lv_sub hl [1, 2, 3, 4, 5, 6, 7, 8, 0] rfl)
    · have hr := hr.trans (if_neg c_43)
      refine lv_iload_n hx hb dL_told_76 rfl (lv_at hl 2 rfl) ?_
      refine lv_iload hx hb dL_told_77 (lv_at hl 8 rfl) ?_
      refine nmv hr (fun r_139 e_140 hr => ?_)
      refine roS_i (As := [.int z1, .int (4 : Int32)]) (rest := []) ⟨hx, hb, hml, hown, hts⟩ (k_L_isClosed l D Y  z1 (4 : Int32) r_139 e_140) (va_cwS 2 hts gL_told_L_isClosed rfl rfl rfl (by decide +kernel) ⟨Nat.le_of_ble_eq_true rfl, Nat.le_of_ble_eq_true rfl⟩) (hP.sub (ws' := []) [] rfl) hK hN hZ rfl hl.1 rfl (Nat.le_of_ble_eq_true rfl) dL_told_79 ⟨Nat.le_refl 0, Nat.le_refl 0⟩ ?_
      refine lv_iload_n hx hb dL_told_82 rfl (lv_at hl 3 rfl) ?_
      refine lv_iload hx hb dL_told_83 (lv_at hl 8 rfl) ?_
      refine nmv hr (fun r_141 e_142 hr => ?_)
      refine roS_i (As := [.int z2, .int (4 : Int32)]) (rest := [.int r_139]) ⟨hx, hb, hml, hown, hts⟩ (k_L_isClosed l D Y  z2 (4 : Int32) r_141 e_142) (va_cwS 2 hts gL_told_L_isClosed rfl rfl rfl (by decide +kernel) ⟨Nat.le_of_ble_eq_true rfl, Nat.le_of_ble_eq_true rfl⟩) (hP.sub (ws' := []) [] rfl) hK hN hZ rfl hl.1 rfl (Nat.le_of_ble_eq_true rfl) dL_told_85 ⟨Nat.le_refl 0, Nat.le_refl 0⟩ ?_
      refine lv_icmp_eq (tgt := 186) hx hb dL_told_88 (by decide) (fun c_143 => ?_) (fun c_143 => ?_)
      · have hr := hr.trans (if_pos c_143)
        exact B186_4 z1 z2 z3 z4 z5 z6 y0 _ hr (lv_sub hl [1, 2, 3, 4, 5, 6, 7, 8, 0] rfl)
      · have hr := hr.trans (if_neg c_143)
        refine lv_iload_n hx hb dL_told_91 rfl (lv_at hl 4 rfl) ?_
        refine lv_i2f hx hb dL_told_92 ?_
        refine lv_iload hx hb dL_told_93 (lv_at hl 5 rfl) ?_
        refine lv_i2f hx hb dL_told_95 ?_
        refine gdv hr (fun g_144 hr => ?_)
        refine lv_fdiv hx hb dL_told_96 g_144 ?_
        refine nmv hr (fun f_145 e_146 hr => ?_)
        rw [← e_146]
        refine lv_fstore (lv' := [(9, .float f_145), (8, .float y0), (0, .ref (ad 0)), (1, .int z1), (2, .int z2), (3, .int z3), (4, .int z4), (5, .int z5), (6, .float z6), (7, .int (4 : Int32))]) hx hb dL_told_97 hl (by decide) rfl (fun ls hl => ?_)
        refine lv_iload_n hx hb dL_told_99 rfl (lv_at hl 5 rfl) ?_
        refine lv_iload hx hb dL_told_100 (lv_at hl 7 rfl) ?_
        refine lv_isub hx hb dL_told_102 ?_
        refine lv_i2f hx hb dL_told_103 ?_
        refine lv_iload hx hb dL_told_104 (lv_at hl 6 rfl) ?_
        refine lv_iload hx hb dL_told_106 (lv_at hl 7 rfl) ?_
        refine lv_isub hx hb dL_told_108 ?_
        refine lv_i2f hx hb dL_told_109 ?_
        refine gdv hr (fun g_147 hr => ?_)
        refine lv_fdiv hx hb dL_told_110 g_147 ?_
        refine nmv hr (fun f_148 e_149 hr => ?_)
        rw [← e_149]
        refine lv_fstore (lv' := [(10, .float f_148), (9, .float f_145), (8, .float y0), (0, .ref (ad 0)), (1, .int z1), (2, .int z2), (3, .int z3), (4, .int z4), (5, .int z5), (6, .float z6), (7, .int (4 : Int32))]) hx hb dL_told_111 hl (by decide) rfl (fun ls hl => ?_)
        refine lv_iload_n hx hb dL_told_113 rfl (lv_at hl 4 rfl) ?_
        refine lv_iload hx hb dL_told_114 (lv_at hl 10 rfl) ?_
        refine nmv hr (fun r_150 e_151 hr => ?_)
        refine roS_i (As := [.int z1, .int (4 : Int32)]) (rest := []) ⟨hx, hb, hml, hown, hts⟩ (k_L_isClosed l D Y  z1 (4 : Int32) r_150 e_151) (va_cwS 2 hts gL_told_L_isClosed rfl rfl rfl (by decide +kernel) ⟨Nat.le_of_ble_eq_true rfl, Nat.le_of_ble_eq_true rfl⟩) (hP.sub (ws' := []) [] rfl) hK hN hZ rfl hl.1 rfl (Nat.le_of_ble_eq_true rfl) dL_told_116 ⟨Nat.le_refl 0, Nat.le_refl 0⟩ ?_
        refine lv_if_eq (tgt := 129) hx hb dL_told_119 (by decide) (fun c_152 => ?_) (fun c_152 => ?_)
        · have hr := hr.trans (if_pos c_152)
          refine lv_iload_n hx hb dL_told_129 rfl (lv_at hl 6 rfl) ?_
          refine lv_iload hx hb dL_told_130 (lv_at hl 8 rfl) ?_
          refine lv_icmp_gt (tgt := 139) hx hb dL_told_132 (by decide) (fun c_153 => ?_) (fun c_153 => ?_)
          · have hr := hr.trans (if_pos c_153)
            refine lv_fload hx hb dL_told_139 (lv_at hl 0 rfl) ?_
            exact B141_4 z1 z2 z3 z4 z5 z6 f_148 _ hr (lv_sub hl [3, 4, 5, 6, 7, 8, 9, 10] rfl)
          · have hr := hr.trans (if_neg c_153)
            refine lv_fconst0 hx hb dL_told_135 ?_
            refine lv_goto (tgt := 141) hx hb dL_told_136 (by decide) ?_
            exact B141_4 z1 z2 z3 z4 z5 z6 FP.fconst0 _ hr (lv_sub hl [3, 4, 5, 6, 7, 8, 9, 10] rfl)
        · have hr := hr.trans (if_neg c_152)
          refine lv_fconst1 hx hb dL_told_122 ?_
          refine lv_fload hx hb dL_told_123 (lv_at hl 1 rfl) ?_
          refine gdv hr (fun g_161 hr => ?_)
          refine lv_fsub hx hb dL_told_125 g_161 ?_
          refine nmv hr (fun f_162 e_163 hr => ?_)
          rw [← e_163]
          refine lv_goto (tgt := 141) hx hb dL_told_126 (by decide) ?_
          exact B141_4 z1 z2 z3 z4 z5 z6 f_162 _ hr (lv_sub hl [3, 4, 5, 6, 7, 8, 9, 10] rfl)
  have B48_4 : ∀ (z1 : Int32) (z2 : Int32) (z3 : Int32) (z4 : Int32) (z5 : Int32) (z6 : UInt32) (ls : Array Slot), some R = mf_L_told_B48_4 V z1 z2 z3 z4 z5 z6 → lv_has ls 18 [(0, .ref (ad 0)), (1, .int z1), (2, .int z2), (3, .int z3), (4, .int z4), (5, .int z5), (6, .float z6), (7, .int (4 : Int32))] → W p l e ({ frames := 5, cells := 0, slots := 0, locals := 106 } : Room) s m ([.ref (ad 0)] : List Value).toArray below meth c s.heap [] 0 0 (MQ below (vp_Si (fun x => x = R)) ([.ref (ad 0)] : List Value).toArray s 0 0 (fun _ => False)) (F0 m 48 ls []) := by
    intro z1 z2 z3 z4 z5 z6 ls hr hl
    rw [mf_L_told_B48_4] at hr
    refine lv_iload hx hb dL_told_48 (lv_at hl 7 rfl) ?_
    refine lv_iconst (v := (5 : Int32)) hx hb dL_told_50 (by decide) ?_
    refine lv_icmp_ge (tgt := 206) hx hb dL_told_51 (by decide) (fun hc => absurd hc (by decide)) (fun _ => ?_)
    refine lv_iload_n hx hb dL_told_54 rfl (lv_at hl 1 rfl) ?_
    refine lv_iload hx hb dL_told_55 (lv_at hl 7 rfl) ?_
    refine nmv hr (fun r_40 e_41 hr => ?_)
    refine roS_i (As := [.int z1, .int (4 : Int32)]) (rest := []) ⟨hx, hb, hml, hown, hts⟩ (k_L_isClosed l D Y  z1 (4 : Int32) r_40 e_41) (va_cwS 2 hts gL_told_L_isClosed rfl rfl rfl (by decide +kernel) ⟨Nat.le_of_ble_eq_true rfl, Nat.le_of_ble_eq_true rfl⟩) (hP.sub (ws' := []) [] rfl) hK hN hZ rfl hl.1 rfl (Nat.le_of_ble_eq_true rfl) dL_told_57 ⟨Nat.le_refl 0, Nat.le_refl 0⟩ ?_
    refine lv_if_eq (tgt := 67) hx hb dL_told_60 (by decide) (fun c_42 => ?_) (fun c_42 => ?_)
    · have hr := hr.trans (if_pos c_42)
      refine lv_fconst0 hx hb dL_told_67 ?_
      exact B68_4 z1 z2 z3 z4 z5 z6 FP.fconst0 _ hr (lv_sub hl [0, 1, 2, 3, 4, 5, 6, 7] rfl)
    · have hr := hr.trans (if_neg c_42)
      refine lv_fconst1 hx hb dL_told_63 ?_
      refine lv_goto (tgt := 68) hx hb dL_told_64 (by decide) ?_
      exact B68_4 z1 z2 z3 z4 z5 z6 FP.fconst1 _ hr (lv_sub hl [0, 1, 2, 3, 4, 5, 6, 7] rfl)
  have B186_3 : ∀ (z1 : Int32) (z2 : Int32) (z3 : Int32) (z4 : Int32) (z5 : Int32) (z6 : UInt32) (z8 : UInt32) (ls : Array Slot), some R = mf_L_told_B186_3 V z1 z2 z3 z4 z5 z6 z8 → lv_has ls 18 [(0, .ref (ad 0)), (1, .int z1), (2, .int z2), (3, .int z3), (4, .int z4), (5, .int z5), (6, .float z6), (7, .int (3 : Int32)), (8, .float z8)] → W p l e ({ frames := 5, cells := 0, slots := 0, locals := 106 } : Room) s m ([.ref (ad 0)] : List Value).toArray below meth c s.heap [] 0 0 (MQ below (vp_Si (fun x => x = R)) ([.ref (ad 0)] : List Value).toArray s 0 0 (fun _ => False)) (F0 m 186 ls []) := by
    intro z1 z2 z3 z4 z5 z6 z8 ls hr hl
    rw [mf_L_told_B186_3] at hr
    refine lv_aload_n hx hb dL_told_186 rfl (lv_at hl 0 rfl) ?_
    refine lv_iload hx hb dL_told_187 (lv_at hl 7 rfl) ?_
    refine bdv hr (fun r_37 e_38 hr => ?_)
    refine roV_f (As := [.int (3 : Int32)]) (rest := []) ⟨hx, hb, hml, hown, hts⟩ (k_X5_pressed l D Y ad V (3 : Int32) r_37 e_38) (cwV 1 hts gL_told_X5_pressed rfl rfl rfl (by decide +kernel) ⟨Nat.le_of_ble_eq_true rfl, Nat.le_of_ble_eq_true rfl⟩) hP hK hN hZ 0 5 rfl rfl rfl hl.1 rfl (Nat.le_of_ble_eq_true rfl) dL_told_189 ⟨Nat.le_refl 0, Nat.le_refl 0⟩ ?_
    refine lv_fload hx hb dL_told_192 (lv_at hl 8 rfl) ?_
    refine lv_fcmp hx hb dL_told_194 ?_
    refine lv_if_eq (tgt := 200) hx hb dL_told_195 (by decide) (fun c_39 => ?_) (fun c_39 => ?_)
    · have hr := hr.trans (if_pos c_39)
      refine lv_iinc (v := (4 : Int32)) (lv' := [(7, .int (4 : Int32)), (0, .ref (ad 0)), (1, .int z1), (2, .int z2), (3, .int z3), (4, .int z4), (5, .int z5), (6, .float z6), (8, .float z8)]) hx hb dL_told_200 hl (k := 7) rfl (by decide) (by decide) rfl (fun ls hl => ?_)
      refine lv_goto (tgt := 48) hx hb dL_told_203 (by decide) ?_
      exact B48_4 z1 z2 z3 z4 z5 z6 _ hr (lv_sub hl [1, 2, 3, 4, 5, 6, 7, 0] rfl)
    · have hr := hr.trans (if_neg c_39)
      refine lv_iconst (v := (0 : Int32)) hx hb dL_told_198 (by decide) ?_
      have hr := Option.some.inj hr
      subst hr
      exact W.zret (ty := .boolean) hx hb hrt (by decide) (fun t ht hW => ⟨_, rfl, rfl, ht⟩) (fun q hq => absurd hq List.not_mem_nil) dL_told_199
  have B176_3 : ∀ (z1 : Int32) (z2 : Int32) (z3 : Int32) (z4 : Int32) (z5 : Int32) (z6 : UInt32) (z8 : UInt32) (y0 : Int32) (ls : Array Slot), some R = mf_L_told_B176_3 V z1 z2 z3 z4 z5 z6 z8 y0 → lv_has ls 18 [(0, .ref (ad 0)), (1, .int z1), (2, .int z2), (3, .int z3), (4, .int z4), (5, .int z5), (6, .float z6), (7, .int (3 : Int32)), (8, .float z8)] → W p l e ({ frames := 5, cells := 0, slots := 0, locals := 106 } : Room) s m ([.ref (ad 0)] : List Value).toArray below meth c s.heap [] 0 0 (MQ below (vp_Si (fun x => x = R)) ([.ref (ad 0)] : List Value).toArray s 0 0 (fun _ => False)) (F0 m 176 ls [.int y0, .ref (ad 0)]) := by
    intro z1 z2 z3 z4 z5 z6 z8 y0 ls hr hl
    rw [mf_L_told_B176_3] at hr
    refine nmv hr (fun r_183 e_184 hr => ?_)
    refine roV_i (As := [.int y0]) (rest := []) ⟨hx, hb, hml, hown, hts⟩ (k_X5_car l D Y ad V y0 r_183 e_184) (cwV 1 hts gL_told_X5_car rfl rfl rfl (by decide +kernel) ⟨Nat.le_of_ble_eq_true rfl, Nat.le_of_ble_eq_true rfl⟩) hP hK hN hZ 0 5 rfl rfl rfl hl.1 rfl (Nat.le_of_ble_eq_true rfl) dL_told_176 ⟨Nat.le_refl 0, Nat.le_refl 0⟩ ?_
    refine lv_iload hx hb dL_told_179 (lv_at hl 7 rfl) ?_
    refine lv_icmp_eq (tgt := 186) hx hb dL_told_181 (by decide) (fun c_185 => ?_) (fun c_185 => ?_)
    · have hr := hr.trans (if_pos c_185)
      exact B186_3 z1 z2 z3 z4 z5 z6 z8 _ hr (lv_sub hl [0, 1, 2, 3, 4, 5, 6, 7, 8] rfl)
    · have hr := hr.trans (if_neg c_185)
      refine lv_iconst (v := (0 : Int32)) hx hb dL_told_184 (by decide) ?_
      have hr := Option.some.inj hr
      subst hr
      exact W.zret (ty := .boolean) hx hb hrt (by decide) (fun t ht hW => ⟨_, rfl, rfl, ht⟩) (fun q hq => absurd hq List.not_mem_nil) dL_told_185
  have B158_3 : ∀ (z1 : Int32) (z2 : Int32) (z3 : Int32) (z4 : Int32) (z5 : Int32) (z8 : UInt32) (y0 : UInt32) (ls : Array Slot), some R = mf_L_told_B158_3 V z1 z2 z3 z4 z5 z8 y0 → lv_has ls 18 [(0, .ref (ad 0)), (1, .int z1), (2, .int z2), (3, .int z3), (4, .int z4), (5, .int z5), (7, .int (3 : Int32)), (8, .float z8)] → W p l e ({ frames := 5, cells := 0, slots := 0, locals := 106 } : Room) s m ([.ref (ad 0)] : List Value).toArray below meth c s.heap [] 0 0 (MQ below (vp_Si (fun x => x = R)) ([.ref (ad 0)] : List Value).toArray s 0 0 (fun _ => False)) (F0 m 158 ls [.float y0]) := by
    intro z1 z2 z3 z4 z5 z8 y0 ls hr hl
    rw [mf_L_told_B158_3] at hr
    refine lv_fstore (lv' := [(6, .float y0), (0, .ref (ad 0)), (1, .int z1), (2, .int z2), (3, .int z3), (4, .int z4), (5, .int z5), (7, .int (3 : Int32)), (8, .float z8)]) hx hb dL_told_158 hl (by decide) rfl (fun ls hl => ?_)
    refine lv_aload_n hx hb dL_told_160 rfl (lv_at hl 1 rfl) ?_
    refine lv_iload_n hx hb dL_told_161 rfl (lv_at hl 2 rfl) ?_
    refine lv_iload hx hb dL_told_162 (lv_at hl 7 rfl) ?_
    refine nmv hr (fun r_180 e_181 hr => ?_)
    refine roS_i (As := [.int z1, .int (3 : Int32)]) (rest := [.ref (ad 0)]) ⟨hx, hb, hml, hown, hts⟩ (k_L_isClosed l D Y  z1 (3 : Int32) r_180 e_181) (va_cwS 2 hts gL_told_L_isClosed rfl rfl rfl (by decide +kernel) ⟨Nat.le_of_ble_eq_true rfl, Nat.le_of_ble_eq_true rfl⟩) (hP.sub (ws' := []) [] rfl) hK hN hZ rfl hl.1 rfl (Nat.le_of_ble_eq_true rfl) dL_told_164 ⟨Nat.le_refl 0, Nat.le_refl 0⟩ ?_
    refine lv_if_eq (tgt := 174) hx hb dL_told_167 (by decide) (fun c_182 => ?_) (fun c_182 => ?_)
    · have hr := hr.trans (if_pos c_182)
      refine lv_bipush (v := (6 : Int32)) hx hb dL_told_174 (by decide) ?_
      exact B176_3 z1 z2 z3 z4 z5 y0 z8 (6 : Int32) _ hr (lv_sub hl [1, 2, 3, 4, 5, 6, 0, 7, 8] rfl)
    · have hr := hr.trans (if_neg c_182)
      refine lv_iconst (v := (5 : Int32)) hx hb dL_told_170 (by decide) ?_
      refine lv_goto (tgt := 176) hx hb dL_told_171 (by decide) ?_
      exact B176_3 z1 z2 z3 z4 z5 y0 z8 (5 : Int32) _ hr (lv_sub hl [1, 2, 3, 4, 5, 6, 0, 7, 8] rfl)
  have B141_3 : ∀ (z1 : Int32) (z2 : Int32) (z3 : Int32) (z4 : Int32) (z5 : Int32) (z6 : UInt32) (y0 : UInt32) (ls : Array Slot), some R = mf_L_told_B141_3 V z1 z2 z3 z4 z5 z6 y0 → lv_has ls 18 [(0, .ref (ad 0)), (1, .int z1), (2, .int z2), (3, .int z3), (4, .int z4), (5, .int z5), (6, .float z6), (7, .int (3 : Int32))] → W p l e ({ frames := 5, cells := 0, slots := 0, locals := 106 } : Room) s m ([.ref (ad 0)] : List Value).toArray below meth c s.heap [] 0 0 (MQ below (vp_Si (fun x => x = R)) ([.ref (ad 0)] : List Value).toArray s 0 0 (fun _ => False)) (F0 m 141 ls [.float y0]) := by
    intro z1 z2 z3 z4 z5 z6 y0 ls hr hl
    rw [mf_L_told_B141_3] at hr
    refine lv_fstore (lv' := [(8, .float y0), (0, .ref (ad 0)), (1, .int z1), (2, .int z2), (3, .int z3), (4, .int z4), (5, .int z5), (6, .float z6), (7, .int (3 : Int32))]) hx hb dL_told_141 hl (by decide) rfl (fun ls hl => ?_)
    refine lv_fload hx hb dL_told_143 (lv_at hl 0 rfl) ?_
    refine lv_fload hx hb dL_told_145 (lv_at hl 7 rfl) ?_
    refine lv_fcmp hx hb dL_told_147 ?_
    refine lv_if_le (tgt := 156) hx hb dL_told_148 (by decide) (fun c_179 => ?_) (fun c_179 => ?_)
    · have hr := hr.trans (if_pos c_179)
      refine lv_fload hx hb dL_told_156 (lv_at hl 7 rfl) ?_
      exact B158_3 z1 z2 z3 z4 z5 y0 z6 _ hr (lv_sub hl [1, 2, 3, 4, 5, 6, 8, 0] rfl)
    · have hr := hr.trans (if_neg c_179)
      refine lv_fload hx hb dL_told_151 (lv_at hl 0 rfl) ?_
      refine lv_goto (tgt := 158) hx hb dL_told_153 (by decide) ?_
      exact B158_3 z1 z2 z3 z4 z5 y0 y0 _ hr (lv_sub hl [1, 2, 3, 4, 5, 6, 8, 0] rfl)
  have B68_3 : ∀ (z1 : Int32) (z2 : Int32) (z3 : Int32) (z4 : Int32) (z5 : Int32) (z6 : UInt32) (y0 : UInt32) (ls : Array Slot), some R = mf_L_told_B68_3 V z1 z2 z3 z4 z5 z6 y0 → lv_has ls 18 [(0, .ref (ad 0)), (1, .int z1), (2, .int z2), (3, .int z3), (4, .int z4), (5, .int z5), (6, .float z6), (7, .int (3 : Int32))] → W p l e ({ frames := 5, cells := 0, slots := 0, locals := 106 } : Room) s m ([.ref (ad 0)] : List Value).toArray below meth c s.heap [] 0 0 (MQ below (vp_Si (fun x => x = R)) ([.ref (ad 0)] : List Value).toArray s 0 0 (fun _ => False)) (F0 m 68 ls [.float y0]) := by
    intro z1 z2 z3 z4 z5 z6 y0 ls hr hl
    rw [mf_L_told_B68_3] at hr
    refine lv_fstore (lv' := [(8, .float y0), (0, .ref (ad 0)), (1, .int z1), (2, .int z2), (3, .int z3), (4, .int z4), (5, .int z5), (6, .float z6), (7, .int (3 : Int32))]) hx hb dL_told_68 hl (by decide) rfl (fun ls hl => ?_)
    refine lv_iload_n hx hb dL_told_70 rfl (lv_at hl 3 rfl) ?_
    refine lv_bipush (v := (-5 : Int32)) hx hb dL_told_71 (by decide) ?_
    refine lv_icmp_eq (tgt := 186) hx hb dL_told_73 (by decide) (fun c_36 => ?_) (fun c_36 => ?_)
    · have hr := hr.trans (if_pos c_36)
      exact B186_3 z1 z2 z3 z4 z5 z6 y0 _ hr (lv_sub hl [1, 2, 3, 4, 5, 6, 7, 8, 0] rfl)
    · have hr := hr.trans (if_neg c_36)
      refine lv_iload_n hx hb dL_told_76 rfl (lv_at hl 2 rfl) ?_
      refine lv_iload hx hb dL_told_77 (lv_at hl 8 rfl) ?_
      refine nmv hr (fun r_164 e_165 hr => ?_)
      refine roS_i (As := [.int z1, .int (3 : Int32)]) (rest := []) ⟨hx, hb, hml, hown, hts⟩ (k_L_isClosed l D Y  z1 (3 : Int32) r_164 e_165) (va_cwS 2 hts gL_told_L_isClosed rfl rfl rfl (by decide +kernel) ⟨Nat.le_of_ble_eq_true rfl, Nat.le_of_ble_eq_true rfl⟩) (hP.sub (ws' := []) [] rfl) hK hN hZ rfl hl.1 rfl (Nat.le_of_ble_eq_true rfl) dL_told_79 ⟨Nat.le_refl 0, Nat.le_refl 0⟩ ?_
      refine lv_iload_n hx hb dL_told_82 rfl (lv_at hl 3 rfl) ?_
      refine lv_iload hx hb dL_told_83 (lv_at hl 8 rfl) ?_
      refine nmv hr (fun r_166 e_167 hr => ?_)
      refine roS_i (As := [.int z2, .int (3 : Int32)]) (rest := [.int r_164]) ⟨hx, hb, hml, hown, hts⟩ (k_L_isClosed l D Y  z2 (3 : Int32) r_166 e_167) (va_cwS 2 hts gL_told_L_isClosed rfl rfl rfl (by decide +kernel) ⟨Nat.le_of_ble_eq_true rfl, Nat.le_of_ble_eq_true rfl⟩) (hP.sub (ws' := []) [] rfl) hK hN hZ rfl hl.1 rfl (Nat.le_of_ble_eq_true rfl) dL_told_85 ⟨Nat.le_refl 0, Nat.le_refl 0⟩ ?_
      refine lv_icmp_eq (tgt := 186) hx hb dL_told_88 (by decide) (fun c_168 => ?_) (fun c_168 => ?_)
      · have hr := hr.trans (if_pos c_168)
        exact B186_3 z1 z2 z3 z4 z5 z6 y0 _ hr (lv_sub hl [1, 2, 3, 4, 5, 6, 7, 8, 0] rfl)
      · have hr := hr.trans (if_neg c_168)
        refine lv_iload_n hx hb dL_told_91 rfl (lv_at hl 4 rfl) ?_
        refine lv_i2f hx hb dL_told_92 ?_
        refine lv_iload hx hb dL_told_93 (lv_at hl 5 rfl) ?_
        refine lv_i2f hx hb dL_told_95 ?_
        refine gdv hr (fun g_169 hr => ?_)
        refine lv_fdiv hx hb dL_told_96 g_169 ?_
        refine nmv hr (fun f_170 e_171 hr => ?_)
        rw [← e_171]
        refine lv_fstore (lv' := [(9, .float f_170), (8, .float y0), (0, .ref (ad 0)), (1, .int z1), (2, .int z2), (3, .int z3), (4, .int z4), (5, .int z5), (6, .float z6), (7, .int (3 : Int32))]) hx hb dL_told_97 hl (by decide) rfl (fun ls hl => ?_)
        refine lv_iload_n hx hb dL_told_99 rfl (lv_at hl 5 rfl) ?_
        refine lv_iload hx hb dL_told_100 (lv_at hl 7 rfl) ?_
        refine lv_isub hx hb dL_told_102 ?_
        refine lv_i2f hx hb dL_told_103 ?_
        refine lv_iload hx hb dL_told_104 (lv_at hl 6 rfl) ?_
        refine lv_iload hx hb dL_told_106 (lv_at hl 7 rfl) ?_
        refine lv_isub hx hb dL_told_108 ?_
        refine lv_i2f hx hb dL_told_109 ?_
        refine gdv hr (fun g_172 hr => ?_)
        refine lv_fdiv hx hb dL_told_110 g_172 ?_
        refine nmv hr (fun f_173 e_174 hr => ?_)
        rw [← e_174]
        refine lv_fstore (lv' := [(10, .float f_173), (9, .float f_170), (8, .float y0), (0, .ref (ad 0)), (1, .int z1), (2, .int z2), (3, .int z3), (4, .int z4), (5, .int z5), (6, .float z6), (7, .int (3 : Int32))]) hx hb dL_told_111 hl (by decide) rfl (fun ls hl => ?_)
        refine lv_iload_n hx hb dL_told_113 rfl (lv_at hl 4 rfl) ?_
        refine lv_iload hx hb dL_told_114 (lv_at hl 10 rfl) ?_
        refine nmv hr (fun r_175 e_176 hr => ?_)
        refine roS_i (As := [.int z1, .int (3 : Int32)]) (rest := []) ⟨hx, hb, hml, hown, hts⟩ (k_L_isClosed l D Y  z1 (3 : Int32) r_175 e_176) (va_cwS 2 hts gL_told_L_isClosed rfl rfl rfl (by decide +kernel) ⟨Nat.le_of_ble_eq_true rfl, Nat.le_of_ble_eq_true rfl⟩) (hP.sub (ws' := []) [] rfl) hK hN hZ rfl hl.1 rfl (Nat.le_of_ble_eq_true rfl) dL_told_116 ⟨Nat.le_refl 0, Nat.le_refl 0⟩ ?_
        refine lv_if_eq (tgt := 129) hx hb dL_told_119 (by decide) (fun c_177 => ?_) (fun c_177 => ?_)
        · have hr := hr.trans (if_pos c_177)
          refine lv_iload_n hx hb dL_told_129 rfl (lv_at hl 6 rfl) ?_
          refine lv_iload hx hb dL_told_130 (lv_at hl 8 rfl) ?_
          refine lv_icmp_gt (tgt := 139) hx hb dL_told_132 (by decide) (fun c_178 => ?_) (fun c_178 => ?_)
          · have hr := hr.trans (if_pos c_178)
            refine lv_fload hx hb dL_told_139 (lv_at hl 0 rfl) ?_
            exact B141_3 z1 z2 z3 z4 z5 z6 f_173 _ hr (lv_sub hl [3, 4, 5, 6, 7, 8, 9, 10] rfl)
          · have hr := hr.trans (if_neg c_178)
            refine lv_fconst0 hx hb dL_told_135 ?_
            refine lv_goto (tgt := 141) hx hb dL_told_136 (by decide) ?_
            exact B141_3 z1 z2 z3 z4 z5 z6 FP.fconst0 _ hr (lv_sub hl [3, 4, 5, 6, 7, 8, 9, 10] rfl)
        · have hr := hr.trans (if_neg c_177)
          refine lv_fconst1 hx hb dL_told_122 ?_
          refine lv_fload hx hb dL_told_123 (lv_at hl 1 rfl) ?_
          refine gdv hr (fun g_186 hr => ?_)
          refine lv_fsub hx hb dL_told_125 g_186 ?_
          refine nmv hr (fun f_187 e_188 hr => ?_)
          rw [← e_188]
          refine lv_goto (tgt := 141) hx hb dL_told_126 (by decide) ?_
          exact B141_3 z1 z2 z3 z4 z5 z6 f_187 _ hr (lv_sub hl [3, 4, 5, 6, 7, 8, 9, 10] rfl)
  have B48_3 : ∀ (z1 : Int32) (z2 : Int32) (z3 : Int32) (z4 : Int32) (z5 : Int32) (z6 : UInt32) (ls : Array Slot), some R = mf_L_told_B48_3 V z1 z2 z3 z4 z5 z6 → lv_has ls 18 [(0, .ref (ad 0)), (1, .int z1), (2, .int z2), (3, .int z3), (4, .int z4), (5, .int z5), (6, .float z6), (7, .int (3 : Int32))] → W p l e ({ frames := 5, cells := 0, slots := 0, locals := 106 } : Room) s m ([.ref (ad 0)] : List Value).toArray below meth c s.heap [] 0 0 (MQ below (vp_Si (fun x => x = R)) ([.ref (ad 0)] : List Value).toArray s 0 0 (fun _ => False)) (F0 m 48 ls []) := by
    intro z1 z2 z3 z4 z5 z6 ls hr hl
    rw [mf_L_told_B48_3] at hr
    refine lv_iload hx hb dL_told_48 (lv_at hl 7 rfl) ?_
    refine lv_iconst (v := (5 : Int32)) hx hb dL_told_50 (by decide) ?_
    refine lv_icmp_ge (tgt := 206) hx hb dL_told_51 (by decide) (fun hc => absurd hc (by decide)) (fun _ => ?_)
    refine lv_iload_n hx hb dL_told_54 rfl (lv_at hl 1 rfl) ?_
    refine lv_iload hx hb dL_told_55 (lv_at hl 7 rfl) ?_
    refine nmv hr (fun r_33 e_34 hr => ?_)
    refine roS_i (As := [.int z1, .int (3 : Int32)]) (rest := []) ⟨hx, hb, hml, hown, hts⟩ (k_L_isClosed l D Y  z1 (3 : Int32) r_33 e_34) (va_cwS 2 hts gL_told_L_isClosed rfl rfl rfl (by decide +kernel) ⟨Nat.le_of_ble_eq_true rfl, Nat.le_of_ble_eq_true rfl⟩) (hP.sub (ws' := []) [] rfl) hK hN hZ rfl hl.1 rfl (Nat.le_of_ble_eq_true rfl) dL_told_57 ⟨Nat.le_refl 0, Nat.le_refl 0⟩ ?_
    refine lv_if_eq (tgt := 67) hx hb dL_told_60 (by decide) (fun c_35 => ?_) (fun c_35 => ?_)
    · have hr := hr.trans (if_pos c_35)
      refine lv_fconst0 hx hb dL_told_67 ?_
      exact B68_3 z1 z2 z3 z4 z5 z6 FP.fconst0 _ hr (lv_sub hl [0, 1, 2, 3, 4, 5, 6, 7] rfl)
    · have hr := hr.trans (if_neg c_35)
      refine lv_fconst1 hx hb dL_told_63 ?_
      refine lv_goto (tgt := 68) hx hb dL_told_64 (by decide) ?_
      exact B68_3 z1 z2 z3 z4 z5 z6 FP.fconst1 _ hr (lv_sub hl [0, 1, 2, 3, 4, 5, 6, 7] rfl)
  have B186_2 : ∀ (z1 : Int32) (z2 : Int32) (z3 : Int32) (z4 : Int32) (z5 : Int32) (z6 : UInt32) (z8 : UInt32) (ls : Array Slot), some R = mf_L_told_B186_2 V z1 z2 z3 z4 z5 z6 z8 → lv_has ls 18 [(0, .ref (ad 0)), (1, .int z1), (2, .int z2), (3, .int z3), (4, .int z4), (5, .int z5), (6, .float z6), (7, .int (2 : Int32)), (8, .float z8)] → W p l e ({ frames := 5, cells := 0, slots := 0, locals := 106 } : Room) s m ([.ref (ad 0)] : List Value).toArray below meth c s.heap [] 0 0 (MQ below (vp_Si (fun x => x = R)) ([.ref (ad 0)] : List Value).toArray s 0 0 (fun _ => False)) (F0 m 186 ls []) := by
    intro z1 z2 z3 z4 z5 z6 z8 ls hr hl
    rw [mf_L_told_B186_2] at hr
    refine lv_aload_n hx hb dL_told_186 rfl (lv_at hl 0 rfl) ?_
    refine lv_iload hx hb dL_told_187 (lv_at hl 7 rfl) ?_
    refine bdv hr (fun r_30 e_31 hr => ?_)
    refine roV_f (As := [.int (2 : Int32)]) (rest := []) ⟨hx, hb, hml, hown, hts⟩ (k_X5_pressed l D Y ad V (2 : Int32) r_30 e_31) (cwV 1 hts gL_told_X5_pressed rfl rfl rfl (by decide +kernel) ⟨Nat.le_of_ble_eq_true rfl, Nat.le_of_ble_eq_true rfl⟩) hP hK hN hZ 0 5 rfl rfl rfl hl.1 rfl (Nat.le_of_ble_eq_true rfl) dL_told_189 ⟨Nat.le_refl 0, Nat.le_refl 0⟩ ?_
    refine lv_fload hx hb dL_told_192 (lv_at hl 8 rfl) ?_
    refine lv_fcmp hx hb dL_told_194 ?_
    refine lv_if_eq (tgt := 200) hx hb dL_told_195 (by decide) (fun c_32 => ?_) (fun c_32 => ?_)
    · have hr := hr.trans (if_pos c_32)
      refine lv_iinc (v := (3 : Int32)) (lv' := [(7, .int (3 : Int32)), (0, .ref (ad 0)), (1, .int z1), (2, .int z2), (3, .int z3), (4, .int z4), (5, .int z5), (6, .float z6), (8, .float z8)]) hx hb dL_told_200 hl (k := 7) rfl (by decide) (by decide) rfl (fun ls hl => ?_)
      refine lv_goto (tgt := 48) hx hb dL_told_203 (by decide) ?_
      exact B48_3 z1 z2 z3 z4 z5 z6 _ hr (lv_sub hl [1, 2, 3, 4, 5, 6, 7, 0] rfl)
    · have hr := hr.trans (if_neg c_32)
      refine lv_iconst (v := (0 : Int32)) hx hb dL_told_198 (by decide) ?_
      have hr := Option.some.inj hr
      subst hr
      exact W.zret (ty := .boolean) hx hb hrt (by decide) (fun t ht hW => ⟨_, rfl, rfl, ht⟩) (fun q hq => absurd hq List.not_mem_nil) dL_told_199
  have B176_2 : ∀ (z1 : Int32) (z2 : Int32) (z3 : Int32) (z4 : Int32) (z5 : Int32) (z6 : UInt32) (z8 : UInt32) (y0 : Int32) (ls : Array Slot), some R = mf_L_told_B176_2 V z1 z2 z3 z4 z5 z6 z8 y0 → lv_has ls 18 [(0, .ref (ad 0)), (1, .int z1), (2, .int z2), (3, .int z3), (4, .int z4), (5, .int z5), (6, .float z6), (7, .int (2 : Int32)), (8, .float z8)] → W p l e ({ frames := 5, cells := 0, slots := 0, locals := 106 } : Room) s m ([.ref (ad 0)] : List Value).toArray below meth c s.heap [] 0 0 (MQ below (vp_Si (fun x => x = R)) ([.ref (ad 0)] : List Value).toArray s 0 0 (fun _ => False)) (F0 m 176 ls [.int y0, .ref (ad 0)]) := by
    intro z1 z2 z3 z4 z5 z6 z8 y0 ls hr hl
    rw [mf_L_told_B176_2] at hr
    refine nmv hr (fun r_208 e_209 hr => ?_)
    refine roV_i (As := [.int y0]) (rest := []) ⟨hx, hb, hml, hown, hts⟩ (k_X5_car l D Y ad V y0 r_208 e_209) (cwV 1 hts gL_told_X5_car rfl rfl rfl (by decide +kernel) ⟨Nat.le_of_ble_eq_true rfl, Nat.le_of_ble_eq_true rfl⟩) hP hK hN hZ 0 5 rfl rfl rfl hl.1 rfl (Nat.le_of_ble_eq_true rfl) dL_told_176 ⟨Nat.le_refl 0, Nat.le_refl 0⟩ ?_
    refine lv_iload hx hb dL_told_179 (lv_at hl 7 rfl) ?_
    refine lv_icmp_eq (tgt := 186) hx hb dL_told_181 (by decide) (fun c_210 => ?_) (fun c_210 => ?_)
    · have hr := hr.trans (if_pos c_210)
      exact B186_2 z1 z2 z3 z4 z5 z6 z8 _ hr (lv_sub hl [0, 1, 2, 3, 4, 5, 6, 7, 8] rfl)
    · have hr := hr.trans (if_neg c_210)
      refine lv_iconst (v := (0 : Int32)) hx hb dL_told_184 (by decide) ?_
      have hr := Option.some.inj hr
      subst hr
      exact W.zret (ty := .boolean) hx hb hrt (by decide) (fun t ht hW => ⟨_, rfl, rfl, ht⟩) (fun q hq => absurd hq List.not_mem_nil) dL_told_185
  have B158_2 : ∀ (z1 : Int32) (z2 : Int32) (z3 : Int32) (z4 : Int32) (z5 : Int32) (z8 : UInt32) (y0 : UInt32) (ls : Array Slot), some R = mf_L_told_B158_2 V z1 z2 z3 z4 z5 z8 y0 → lv_has ls 18 [(0, .ref (ad 0)), (1, .int z1), (2, .int z2), (3, .int z3), (4, .int z4), (5, .int z5), (7, .int (2 : Int32)), (8, .float z8)] → W p l e ({ frames := 5, cells := 0, slots := 0, locals := 106 } : Room) s m ([.ref (ad 0)] : List Value).toArray below meth c s.heap [] 0 0 (MQ below (vp_Si (fun x => x = R)) ([.ref (ad 0)] : List Value).toArray s 0 0 (fun _ => False)) (F0 m 158 ls [.float y0]) := by
    intro z1 z2 z3 z4 z5 z8 y0 ls hr hl
    rw [mf_L_told_B158_2] at hr
    refine lv_fstore (lv' := [(6, .float y0), (0, .ref (ad 0)), (1, .int z1), (2, .int z2), (3, .int z3), (4, .int z4), (5, .int z5), (7, .int (2 : Int32)), (8, .float z8)]) hx hb dL_told_158 hl (by decide) rfl (fun ls hl => ?_)
    refine lv_aload_n hx hb dL_told_160 rfl (lv_at hl 1 rfl) ?_
    refine lv_iload_n hx hb dL_told_161 rfl (lv_at hl 2 rfl) ?_
    refine lv_iload hx hb dL_told_162 (lv_at hl 7 rfl) ?_
    refine nmv hr (fun r_205 e_206 hr => ?_)
    refine roS_i (As := [.int z1, .int (2 : Int32)]) (rest := [.ref (ad 0)]) ⟨hx, hb, hml, hown, hts⟩ (k_L_isClosed l D Y  z1 (2 : Int32) r_205 e_206) (va_cwS 2 hts gL_told_L_isClosed rfl rfl rfl (by decide +kernel) ⟨Nat.le_of_ble_eq_true rfl, Nat.le_of_ble_eq_true rfl⟩) (hP.sub (ws' := []) [] rfl) hK hN hZ rfl hl.1 rfl (Nat.le_of_ble_eq_true rfl) dL_told_164 ⟨Nat.le_refl 0, Nat.le_refl 0⟩ ?_
    refine lv_if_eq (tgt := 174) hx hb dL_told_167 (by decide) (fun c_207 => ?_) (fun c_207 => ?_)
    · have hr := hr.trans (if_pos c_207)
      refine lv_bipush (v := (6 : Int32)) hx hb dL_told_174 (by decide) ?_
      exact B176_2 z1 z2 z3 z4 z5 y0 z8 (6 : Int32) _ hr (lv_sub hl [1, 2, 3, 4, 5, 6, 0, 7, 8] rfl)
    · have hr := hr.trans (if_neg c_207)
      refine lv_iconst (v := (5 : Int32)) hx hb dL_told_170 (by decide) ?_
      refine lv_goto (tgt := 176) hx hb dL_told_171 (by decide) ?_
      exact B176_2 z1 z2 z3 z4 z5 y0 z8 (5 : Int32) _ hr (lv_sub hl [1, 2, 3, 4, 5, 6, 0, 7, 8] rfl)
  have B141_2 : ∀ (z1 : Int32) (z2 : Int32) (z3 : Int32) (z4 : Int32) (z5 : Int32) (z6 : UInt32) (y0 : UInt32) (ls : Array Slot), some R = mf_L_told_B141_2 V z1 z2 z3 z4 z5 z6 y0 → lv_has ls 18 [(0, .ref (ad 0)), (1, .int z1), (2, .int z2), (3, .int z3), (4, .int z4), (5, .int z5), (6, .float z6), (7, .int (2 : Int32))] → W p l e ({ frames := 5, cells := 0, slots := 0, locals := 106 } : Room) s m ([.ref (ad 0)] : List Value).toArray below meth c s.heap [] 0 0 (MQ below (vp_Si (fun x => x = R)) ([.ref (ad 0)] : List Value).toArray s 0 0 (fun _ => False)) (F0 m 141 ls [.float y0]) := by
    intro z1 z2 z3 z4 z5 z6 y0 ls hr hl
    rw [mf_L_told_B141_2] at hr
    refine lv_fstore (lv' := [(8, .float y0), (0, .ref (ad 0)), (1, .int z1), (2, .int z2), (3, .int z3), (4, .int z4), (5, .int z5), (6, .float z6), (7, .int (2 : Int32))]) hx hb dL_told_141 hl (by decide) rfl (fun ls hl => ?_)
    refine lv_fload hx hb dL_told_143 (lv_at hl 0 rfl) ?_
    refine lv_fload hx hb dL_told_145 (lv_at hl 7 rfl) ?_
    refine lv_fcmp hx hb dL_told_147 ?_
    refine lv_if_le (tgt := 156) hx hb dL_told_148 (by decide) (fun c_204 => ?_) (fun c_204 => ?_)
    · have hr := hr.trans (if_pos c_204)
      refine lv_fload hx hb dL_told_156 (lv_at hl 7 rfl) ?_
      exact B158_2 z1 z2 z3 z4 z5 y0 z6 _ hr (lv_sub hl [1, 2, 3, 4, 5, 6, 8, 0] rfl)
    · have hr := hr.trans (if_neg c_204)
      refine lv_fload hx hb dL_told_151 (lv_at hl 0 rfl) ?_
      refine lv_goto (tgt := 158) hx hb dL_told_153 (by decide) ?_
      exact B158_2 z1 z2 z3 z4 z5 y0 y0 _ hr (lv_sub hl [1, 2, 3, 4, 5, 6, 8, 0] rfl)
  have B68_2 : ∀ (z1 : Int32) (z2 : Int32) (z3 : Int32) (z4 : Int32) (z5 : Int32) (z6 : UInt32) (y0 : UInt32) (ls : Array Slot), some R = mf_L_told_B68_2 V z1 z2 z3 z4 z5 z6 y0 → lv_has ls 18 [(0, .ref (ad 0)), (1, .int z1), (2, .int z2), (3, .int z3), (4, .int z4), (5, .int z5), (6, .float z6), (7, .int (2 : Int32))] → W p l e ({ frames := 5, cells := 0, slots := 0, locals := 106 } : Room) s m ([.ref (ad 0)] : List Value).toArray below meth c s.heap [] 0 0 (MQ below (vp_Si (fun x => x = R)) ([.ref (ad 0)] : List Value).toArray s 0 0 (fun _ => False)) (F0 m 68 ls [.float y0]) := by
    intro z1 z2 z3 z4 z5 z6 y0 ls hr hl
    rw [mf_L_told_B68_2] at hr
    refine lv_fstore (lv' := [(8, .float y0), (0, .ref (ad 0)), (1, .int z1), (2, .int z2), (3, .int z3), (4, .int z4), (5, .int z5), (6, .float z6), (7, .int (2 : Int32))]) hx hb dL_told_68 hl (by decide) rfl (fun ls hl => ?_)
    refine lv_iload_n hx hb dL_told_70 rfl (lv_at hl 3 rfl) ?_
    refine lv_bipush (v := (-5 : Int32)) hx hb dL_told_71 (by decide) ?_
    refine lv_icmp_eq (tgt := 186) hx hb dL_told_73 (by decide) (fun c_29 => ?_) (fun c_29 => ?_)
    · have hr := hr.trans (if_pos c_29)
      exact B186_2 z1 z2 z3 z4 z5 z6 y0 _ hr (lv_sub hl [1, 2, 3, 4, 5, 6, 7, 8, 0] rfl)
    · have hr := hr.trans (if_neg c_29)
      refine lv_iload_n hx hb dL_told_76 rfl (lv_at hl 2 rfl) ?_
      refine lv_iload hx hb dL_told_77 (lv_at hl 8 rfl) ?_
      refine nmv hr (fun r_189 e_190 hr => ?_)
      refine roS_i (As := [.int z1, .int (2 : Int32)]) (rest := []) ⟨hx, hb, hml, hown, hts⟩ (k_L_isClosed l D Y  z1 (2 : Int32) r_189 e_190) (va_cwS 2 hts gL_told_L_isClosed rfl rfl rfl (by decide +kernel) ⟨Nat.le_of_ble_eq_true rfl, Nat.le_of_ble_eq_true rfl⟩) (hP.sub (ws' := []) [] rfl) hK hN hZ rfl hl.1 rfl (Nat.le_of_ble_eq_true rfl) dL_told_79 ⟨Nat.le_refl 0, Nat.le_refl 0⟩ ?_
      refine lv_iload_n hx hb dL_told_82 rfl (lv_at hl 3 rfl) ?_
      refine lv_iload hx hb dL_told_83 (lv_at hl 8 rfl) ?_
      refine nmv hr (fun r_191 e_192 hr => ?_)
      refine roS_i (As := [.int z2, .int (2 : Int32)]) (rest := [.int r_189]) ⟨hx, hb, hml, hown, hts⟩ (k_L_isClosed l D Y  z2 (2 : Int32) r_191 e_192) (va_cwS 2 hts gL_told_L_isClosed rfl rfl rfl (by decide +kernel) ⟨Nat.le_of_ble_eq_true rfl, Nat.le_of_ble_eq_true rfl⟩) (hP.sub (ws' := []) [] rfl) hK hN hZ rfl hl.1 rfl (Nat.le_of_ble_eq_true rfl) dL_told_85 ⟨Nat.le_refl 0, Nat.le_refl 0⟩ ?_
      refine lv_icmp_eq (tgt := 186) hx hb dL_told_88 (by decide) (fun c_193 => ?_) (fun c_193 => ?_)
      · have hr := hr.trans (if_pos c_193)
        exact B186_2 z1 z2 z3 z4 z5 z6 y0 _ hr (lv_sub hl [1, 2, 3, 4, 5, 6, 7, 8, 0] rfl)
      · have hr := hr.trans (if_neg c_193)
        refine lv_iload_n hx hb dL_told_91 rfl (lv_at hl 4 rfl) ?_
        refine lv_i2f hx hb dL_told_92 ?_
        refine lv_iload hx hb dL_told_93 (lv_at hl 5 rfl) ?_
        refine lv_i2f hx hb dL_told_95 ?_
        refine gdv hr (fun g_194 hr => ?_)
        refine lv_fdiv hx hb dL_told_96 g_194 ?_
        refine nmv hr (fun f_195 e_196 hr => ?_)
        rw [← e_196]
        refine lv_fstore (lv' := [(9, .float f_195), (8, .float y0), (0, .ref (ad 0)), (1, .int z1), (2, .int z2), (3, .int z3), (4, .int z4), (5, .int z5), (6, .float z6), (7, .int (2 : Int32))]) hx hb dL_told_97 hl (by decide) rfl (fun ls hl => ?_)
        refine lv_iload_n hx hb dL_told_99 rfl (lv_at hl 5 rfl) ?_
        refine lv_iload hx hb dL_told_100 (lv_at hl 7 rfl) ?_
        refine lv_isub hx hb dL_told_102 ?_
        refine lv_i2f hx hb dL_told_103 ?_
        refine lv_iload hx hb dL_told_104 (lv_at hl 6 rfl) ?_
        refine lv_iload hx hb dL_told_106 (lv_at hl 7 rfl) ?_
        refine lv_isub hx hb dL_told_108 ?_
        refine lv_i2f hx hb dL_told_109 ?_
        refine gdv hr (fun g_197 hr => ?_)
        refine lv_fdiv hx hb dL_told_110 g_197 ?_
        refine nmv hr (fun f_198 e_199 hr => ?_)
        rw [← e_199]
        refine lv_fstore (lv' := [(10, .float f_198), (9, .float f_195), (8, .float y0), (0, .ref (ad 0)), (1, .int z1), (2, .int z2), (3, .int z3), (4, .int z4), (5, .int z5), (6, .float z6), (7, .int (2 : Int32))]) hx hb dL_told_111 hl (by decide) rfl (fun ls hl => ?_)
        refine lv_iload_n hx hb dL_told_113 rfl (lv_at hl 4 rfl) ?_
        refine lv_iload hx hb dL_told_114 (lv_at hl 10 rfl) ?_
        refine nmv hr (fun r_200 e_201 hr => ?_)
        refine roS_i (As := [.int z1, .int (2 : Int32)]) (rest := []) ⟨hx, hb, hml, hown, hts⟩ (k_L_isClosed l D Y  z1 (2 : Int32) r_200 e_201) (va_cwS 2 hts gL_told_L_isClosed rfl rfl rfl (by decide +kernel) ⟨Nat.le_of_ble_eq_true rfl, Nat.le_of_ble_eq_true rfl⟩) (hP.sub (ws' := []) [] rfl) hK hN hZ rfl hl.1 rfl (Nat.le_of_ble_eq_true rfl) dL_told_116 ⟨Nat.le_refl 0, Nat.le_refl 0⟩ ?_
        refine lv_if_eq (tgt := 129) hx hb dL_told_119 (by decide) (fun c_202 => ?_) (fun c_202 => ?_)
        · have hr := hr.trans (if_pos c_202)
          refine lv_iload_n hx hb dL_told_129 rfl (lv_at hl 6 rfl) ?_
          refine lv_iload hx hb dL_told_130 (lv_at hl 8 rfl) ?_
          refine lv_icmp_gt (tgt := 139) hx hb dL_told_132 (by decide) (fun c_203 => ?_) (fun c_203 => ?_)
          · have hr := hr.trans (if_pos c_203)
            refine lv_fload hx hb dL_told_139 (lv_at hl 0 rfl) ?_
            exact B141_2 z1 z2 z3 z4 z5 z6 f_198 _ hr (lv_sub hl [3, 4, 5, 6, 7, 8, 9, 10] rfl)
          · have hr := hr.trans (if_neg c_203)
            refine lv_fconst0 hx hb dL_told_135 ?_
            refine lv_goto (tgt := 141) hx hb dL_told_136 (by decide) ?_
            exact B141_2 z1 z2 z3 z4 z5 z6 FP.fconst0 _ hr (lv_sub hl [3, 4, 5, 6, 7, 8, 9, 10] rfl)
        · have hr := hr.trans (if_neg c_202)
          refine lv_fconst1 hx hb dL_told_122 ?_
          refine lv_fload hx hb dL_told_123 (lv_at hl 1 rfl) ?_
          refine gdv hr (fun g_211 hr => ?_)
          refine lv_fsub hx hb dL_told_125 g_211 ?_
          refine nmv hr (fun f_212 e_213 hr => ?_)
          rw [← e_213]
          refine lv_goto (tgt := 141) hx hb dL_told_126 (by decide) ?_
          exact B141_2 z1 z2 z3 z4 z5 z6 f_212 _ hr (lv_sub hl [3, 4, 5, 6, 7, 8, 9, 10] rfl)
  have B48_2 : ∀ (z1 : Int32) (z2 : Int32) (z3 : Int32) (z4 : Int32) (z5 : Int32) (z6 : UInt32) (ls : Array Slot), some R = mf_L_told_B48_2 V z1 z2 z3 z4 z5 z6 → lv_has ls 18 [(0, .ref (ad 0)), (1, .int z1), (2, .int z2), (3, .int z3), (4, .int z4), (5, .int z5), (6, .float z6), (7, .int (2 : Int32))] → W p l e ({ frames := 5, cells := 0, slots := 0, locals := 106 } : Room) s m ([.ref (ad 0)] : List Value).toArray below meth c s.heap [] 0 0 (MQ below (vp_Si (fun x => x = R)) ([.ref (ad 0)] : List Value).toArray s 0 0 (fun _ => False)) (F0 m 48 ls []) := by
    intro z1 z2 z3 z4 z5 z6 ls hr hl
    rw [mf_L_told_B48_2] at hr
    refine lv_iload hx hb dL_told_48 (lv_at hl 7 rfl) ?_
    refine lv_iconst (v := (5 : Int32)) hx hb dL_told_50 (by decide) ?_
    refine lv_icmp_ge (tgt := 206) hx hb dL_told_51 (by decide) (fun hc => absurd hc (by decide)) (fun _ => ?_)
    refine lv_iload_n hx hb dL_told_54 rfl (lv_at hl 1 rfl) ?_
    refine lv_iload hx hb dL_told_55 (lv_at hl 7 rfl) ?_
    refine nmv hr (fun r_26 e_27 hr => ?_)
    refine roS_i (As := [.int z1, .int (2 : Int32)]) (rest := []) ⟨hx, hb, hml, hown, hts⟩ (k_L_isClosed l D Y  z1 (2 : Int32) r_26 e_27) (va_cwS 2 hts gL_told_L_isClosed rfl rfl rfl (by decide +kernel) ⟨Nat.le_of_ble_eq_true rfl, Nat.le_of_ble_eq_true rfl⟩) (hP.sub (ws' := []) [] rfl) hK hN hZ rfl hl.1 rfl (Nat.le_of_ble_eq_true rfl) dL_told_57 ⟨Nat.le_refl 0, Nat.le_refl 0⟩ ?_
    refine lv_if_eq (tgt := 67) hx hb dL_told_60 (by decide) (fun c_28 => ?_) (fun c_28 => ?_)
    · have hr := hr.trans (if_pos c_28)
      refine lv_fconst0 hx hb dL_told_67 ?_
      exact B68_2 z1 z2 z3 z4 z5 z6 FP.fconst0 _ hr (lv_sub hl [0, 1, 2, 3, 4, 5, 6, 7] rfl)
    · have hr := hr.trans (if_neg c_28)
      refine lv_fconst1 hx hb dL_told_63 ?_
      refine lv_goto (tgt := 68) hx hb dL_told_64 (by decide) ?_
      exact B68_2 z1 z2 z3 z4 z5 z6 FP.fconst1 _ hr (lv_sub hl [0, 1, 2, 3, 4, 5, 6, 7] rfl)
  have B186_1 : ∀ (z1 : Int32) (z2 : Int32) (z3 : Int32) (z4 : Int32) (z5 : Int32) (z6 : UInt32) (z8 : UInt32) (ls : Array Slot), some R = mf_L_told_B186_1 V z1 z2 z3 z4 z5 z6 z8 → lv_has ls 18 [(0, .ref (ad 0)), (1, .int z1), (2, .int z2), (3, .int z3), (4, .int z4), (5, .int z5), (6, .float z6), (7, .int (1 : Int32)), (8, .float z8)] → W p l e ({ frames := 5, cells := 0, slots := 0, locals := 106 } : Room) s m ([.ref (ad 0)] : List Value).toArray below meth c s.heap [] 0 0 (MQ below (vp_Si (fun x => x = R)) ([.ref (ad 0)] : List Value).toArray s 0 0 (fun _ => False)) (F0 m 186 ls []) := by
    intro z1 z2 z3 z4 z5 z6 z8 ls hr hl
    rw [mf_L_told_B186_1] at hr
    refine lv_aload_n hx hb dL_told_186 rfl (lv_at hl 0 rfl) ?_
    refine lv_iload hx hb dL_told_187 (lv_at hl 7 rfl) ?_
    refine bdv hr (fun r_23 e_24 hr => ?_)
    refine roV_f (As := [.int (1 : Int32)]) (rest := []) ⟨hx, hb, hml, hown, hts⟩ (k_X5_pressed l D Y ad V (1 : Int32) r_23 e_24) (cwV 1 hts gL_told_X5_pressed rfl rfl rfl (by decide +kernel) ⟨Nat.le_of_ble_eq_true rfl, Nat.le_of_ble_eq_true rfl⟩) hP hK hN hZ 0 5 rfl rfl rfl hl.1 rfl (Nat.le_of_ble_eq_true rfl) dL_told_189 ⟨Nat.le_refl 0, Nat.le_refl 0⟩ ?_
    refine lv_fload hx hb dL_told_192 (lv_at hl 8 rfl) ?_
    refine lv_fcmp hx hb dL_told_194 ?_
    refine lv_if_eq (tgt := 200) hx hb dL_told_195 (by decide) (fun c_25 => ?_) (fun c_25 => ?_)
    · have hr := hr.trans (if_pos c_25)
      refine lv_iinc (v := (2 : Int32)) (lv' := [(7, .int (2 : Int32)), (0, .ref (ad 0)), (1, .int z1), (2, .int z2), (3, .int z3), (4, .int z4), (5, .int z5), (6, .float z6), (8, .float z8)]) hx hb dL_told_200 hl (k := 7) rfl (by decide) (by decide) rfl (fun ls hl => ?_)
      refine lv_goto (tgt := 48) hx hb dL_told_203 (by decide) ?_
      exact B48_2 z1 z2 z3 z4 z5 z6 _ hr (lv_sub hl [1, 2, 3, 4, 5, 6, 7, 0] rfl)
    · have hr := hr.trans (if_neg c_25)
      refine lv_iconst (v := (0 : Int32)) hx hb dL_told_198 (by decide) ?_
      have hr := Option.some.inj hr
      subst hr
      exact W.zret (ty := .boolean) hx hb hrt (by decide) (fun t ht hW => ⟨_, rfl, rfl, ht⟩) (fun q hq => absurd hq List.not_mem_nil) dL_told_199
  have B176_1 : ∀ (z1 : Int32) (z2 : Int32) (z3 : Int32) (z4 : Int32) (z5 : Int32) (z6 : UInt32) (z8 : UInt32) (y0 : Int32) (ls : Array Slot), some R = mf_L_told_B176_1 V z1 z2 z3 z4 z5 z6 z8 y0 → lv_has ls 18 [(0, .ref (ad 0)), (1, .int z1), (2, .int z2), (3, .int z3), (4, .int z4), (5, .int z5), (6, .float z6), (7, .int (1 : Int32)), (8, .float z8)] → W p l e ({ frames := 5, cells := 0, slots := 0, locals := 106 } : Room) s m ([.ref (ad 0)] : List Value).toArray below meth c s.heap [] 0 0 (MQ below (vp_Si (fun x => x = R)) ([.ref (ad 0)] : List Value).toArray s 0 0 (fun _ => False)) (F0 m 176 ls [.int y0, .ref (ad 0)]) := by
    intro z1 z2 z3 z4 z5 z6 z8 y0 ls hr hl
    rw [mf_L_told_B176_1] at hr
    refine nmv hr (fun r_233 e_234 hr => ?_)
    refine roV_i (As := [.int y0]) (rest := []) ⟨hx, hb, hml, hown, hts⟩ (k_X5_car l D Y ad V y0 r_233 e_234) (cwV 1 hts gL_told_X5_car rfl rfl rfl (by decide +kernel) ⟨Nat.le_of_ble_eq_true rfl, Nat.le_of_ble_eq_true rfl⟩) hP hK hN hZ 0 5 rfl rfl rfl hl.1 rfl (Nat.le_of_ble_eq_true rfl) dL_told_176 ⟨Nat.le_refl 0, Nat.le_refl 0⟩ ?_
    refine lv_iload hx hb dL_told_179 (lv_at hl 7 rfl) ?_
    refine lv_icmp_eq (tgt := 186) hx hb dL_told_181 (by decide) (fun c_235 => ?_) (fun c_235 => ?_)
    · have hr := hr.trans (if_pos c_235)
      exact B186_1 z1 z2 z3 z4 z5 z6 z8 _ hr (lv_sub hl [0, 1, 2, 3, 4, 5, 6, 7, 8] rfl)
    · have hr := hr.trans (if_neg c_235)
      refine lv_iconst (v := (0 : Int32)) hx hb dL_told_184 (by decide) ?_
      have hr := Option.some.inj hr
      subst hr
      exact W.zret (ty := .boolean) hx hb hrt (by decide) (fun t ht hW => ⟨_, rfl, rfl, ht⟩) (fun q hq => absurd hq List.not_mem_nil) dL_told_185
  have B158_1 : ∀ (z1 : Int32) (z2 : Int32) (z3 : Int32) (z4 : Int32) (z5 : Int32) (z8 : UInt32) (y0 : UInt32) (ls : Array Slot), some R = mf_L_told_B158_1 V z1 z2 z3 z4 z5 z8 y0 → lv_has ls 18 [(0, .ref (ad 0)), (1, .int z1), (2, .int z2), (3, .int z3), (4, .int z4), (5, .int z5), (7, .int (1 : Int32)), (8, .float z8)] → W p l e ({ frames := 5, cells := 0, slots := 0, locals := 106 } : Room) s m ([.ref (ad 0)] : List Value).toArray below meth c s.heap [] 0 0 (MQ below (vp_Si (fun x => x = R)) ([.ref (ad 0)] : List Value).toArray s 0 0 (fun _ => False)) (F0 m 158 ls [.float y0]) := by
    intro z1 z2 z3 z4 z5 z8 y0 ls hr hl
    rw [mf_L_told_B158_1] at hr
    refine lv_fstore (lv' := [(6, .float y0), (0, .ref (ad 0)), (1, .int z1), (2, .int z2), (3, .int z3), (4, .int z4), (5, .int z5), (7, .int (1 : Int32)), (8, .float z8)]) hx hb dL_told_158 hl (by decide) rfl (fun ls hl => ?_)
    refine lv_aload_n hx hb dL_told_160 rfl (lv_at hl 1 rfl) ?_
    refine lv_iload_n hx hb dL_told_161 rfl (lv_at hl 2 rfl) ?_
    refine lv_iload hx hb dL_told_162 (lv_at hl 7 rfl) ?_
    refine nmv hr (fun r_230 e_231 hr => ?_)
    refine roS_i (As := [.int z1, .int (1 : Int32)]) (rest := [.ref (ad 0)]) ⟨hx, hb, hml, hown, hts⟩ (k_L_isClosed l D Y  z1 (1 : Int32) r_230 e_231) (va_cwS 2 hts gL_told_L_isClosed rfl rfl rfl (by decide +kernel) ⟨Nat.le_of_ble_eq_true rfl, Nat.le_of_ble_eq_true rfl⟩) (hP.sub (ws' := []) [] rfl) hK hN hZ rfl hl.1 rfl (Nat.le_of_ble_eq_true rfl) dL_told_164 ⟨Nat.le_refl 0, Nat.le_refl 0⟩ ?_
    refine lv_if_eq (tgt := 174) hx hb dL_told_167 (by decide) (fun c_232 => ?_) (fun c_232 => ?_)
    · have hr := hr.trans (if_pos c_232)
      refine lv_bipush (v := (6 : Int32)) hx hb dL_told_174 (by decide) ?_
      exact B176_1 z1 z2 z3 z4 z5 y0 z8 (6 : Int32) _ hr (lv_sub hl [1, 2, 3, 4, 5, 6, 0, 7, 8] rfl)
    · have hr := hr.trans (if_neg c_232)
      refine lv_iconst (v := (5 : Int32)) hx hb dL_told_170 (by decide) ?_
      refine lv_goto (tgt := 176) hx hb dL_told_171 (by decide) ?_
      exact B176_1 z1 z2 z3 z4 z5 y0 z8 (5 : Int32) _ hr (lv_sub hl [1, 2, 3, 4, 5, 6, 0, 7, 8] rfl)
  have B141_1 : ∀ (z1 : Int32) (z2 : Int32) (z3 : Int32) (z4 : Int32) (z5 : Int32) (z6 : UInt32) (y0 : UInt32) (ls : Array Slot), some R = mf_L_told_B141_1 V z1 z2 z3 z4 z5 z6 y0 → lv_has ls 18 [(0, .ref (ad 0)), (1, .int z1), (2, .int z2), (3, .int z3), (4, .int z4), (5, .int z5), (6, .float z6), (7, .int (1 : Int32))] → W p l e ({ frames := 5, cells := 0, slots := 0, locals := 106 } : Room) s m ([.ref (ad 0)] : List Value).toArray below meth c s.heap [] 0 0 (MQ below (vp_Si (fun x => x = R)) ([.ref (ad 0)] : List Value).toArray s 0 0 (fun _ => False)) (F0 m 141 ls [.float y0]) := by
    intro z1 z2 z3 z4 z5 z6 y0 ls hr hl
    rw [mf_L_told_B141_1] at hr
    refine lv_fstore (lv' := [(8, .float y0), (0, .ref (ad 0)), (1, .int z1), (2, .int z2), (3, .int z3), (4, .int z4), (5, .int z5), (6, .float z6), (7, .int (1 : Int32))]) hx hb dL_told_141 hl (by decide) rfl (fun ls hl => ?_)
    refine lv_fload hx hb dL_told_143 (lv_at hl 0 rfl) ?_
    refine lv_fload hx hb dL_told_145 (lv_at hl 7 rfl) ?_
    refine lv_fcmp hx hb dL_told_147 ?_
    refine lv_if_le (tgt := 156) hx hb dL_told_148 (by decide) (fun c_229 => ?_) (fun c_229 => ?_)
    · have hr := hr.trans (if_pos c_229)
      refine lv_fload hx hb dL_told_156 (lv_at hl 7 rfl) ?_
      exact B158_1 z1 z2 z3 z4 z5 y0 z6 _ hr (lv_sub hl [1, 2, 3, 4, 5, 6, 8, 0] rfl)
    · have hr := hr.trans (if_neg c_229)
      refine lv_fload hx hb dL_told_151 (lv_at hl 0 rfl) ?_
      refine lv_goto (tgt := 158) hx hb dL_told_153 (by decide) ?_
      exact B158_1 z1 z2 z3 z4 z5 y0 y0 _ hr (lv_sub hl [1, 2, 3, 4, 5, 6, 8, 0] rfl)
  have B68_1 : ∀ (z1 : Int32) (z2 : Int32) (z3 : Int32) (z4 : Int32) (z5 : Int32) (z6 : UInt32) (y0 : UInt32) (ls : Array Slot), some R = mf_L_told_B68_1 V z1 z2 z3 z4 z5 z6 y0 → lv_has ls 18 [(0, .ref (ad 0)), (1, .int z1), (2, .int z2), (3, .int z3), (4, .int z4), (5, .int z5), (6, .float z6), (7, .int (1 : Int32))] → W p l e ({ frames := 5, cells := 0, slots := 0, locals := 106 } : Room) s m ([.ref (ad 0)] : List Value).toArray below meth c s.heap [] 0 0 (MQ below (vp_Si (fun x => x = R)) ([.ref (ad 0)] : List Value).toArray s 0 0 (fun _ => False)) (F0 m 68 ls [.float y0]) := by
    intro z1 z2 z3 z4 z5 z6 y0 ls hr hl
    rw [mf_L_told_B68_1] at hr
    refine lv_fstore (lv' := [(8, .float y0), (0, .ref (ad 0)), (1, .int z1), (2, .int z2), (3, .int z3), (4, .int z4), (5, .int z5), (6, .float z6), (7, .int (1 : Int32))]) hx hb dL_told_68 hl (by decide) rfl (fun ls hl => ?_)
    refine lv_iload_n hx hb dL_told_70 rfl (lv_at hl 3 rfl) ?_
    refine lv_bipush (v := (-5 : Int32)) hx hb dL_told_71 (by decide) ?_
    refine lv_icmp_eq (tgt := 186) hx hb dL_told_73 (by decide) (fun c_22 => ?_) (fun c_22 => ?_)
    · have hr := hr.trans (if_pos c_22)
      exact B186_1 z1 z2 z3 z4 z5 z6 y0 _ hr (lv_sub hl [1, 2, 3, 4, 5, 6, 7, 8, 0] rfl)
    · have hr := hr.trans (if_neg c_22)
      refine lv_iload_n hx hb dL_told_76 rfl (lv_at hl 2 rfl) ?_
      refine lv_iload hx hb dL_told_77 (lv_at hl 8 rfl) ?_
      refine nmv hr (fun r_214 e_215 hr => ?_)
      refine roS_i (As := [.int z1, .int (1 : Int32)]) (rest := []) ⟨hx, hb, hml, hown, hts⟩ (k_L_isClosed l D Y  z1 (1 : Int32) r_214 e_215) (va_cwS 2 hts gL_told_L_isClosed rfl rfl rfl (by decide +kernel) ⟨Nat.le_of_ble_eq_true rfl, Nat.le_of_ble_eq_true rfl⟩) (hP.sub (ws' := []) [] rfl) hK hN hZ rfl hl.1 rfl (Nat.le_of_ble_eq_true rfl) dL_told_79 ⟨Nat.le_refl 0, Nat.le_refl 0⟩ ?_
      refine lv_iload_n hx hb dL_told_82 rfl (lv_at hl 3 rfl) ?_
      refine lv_iload hx hb dL_told_83 (lv_at hl 8 rfl) ?_
      refine nmv hr (fun r_216 e_217 hr => ?_)
      refine roS_i (As := [.int z2, .int (1 : Int32)]) (rest := [.int r_214]) ⟨hx, hb, hml, hown, hts⟩ (k_L_isClosed l D Y  z2 (1 : Int32) r_216 e_217) (va_cwS 2 hts gL_told_L_isClosed rfl rfl rfl (by decide +kernel) ⟨Nat.le_of_ble_eq_true rfl, Nat.le_of_ble_eq_true rfl⟩) (hP.sub (ws' := []) [] rfl) hK hN hZ rfl hl.1 rfl (Nat.le_of_ble_eq_true rfl) dL_told_85 ⟨Nat.le_refl 0, Nat.le_refl 0⟩ ?_
      refine lv_icmp_eq (tgt := 186) hx hb dL_told_88 (by decide) (fun c_218 => ?_) (fun c_218 => ?_)
      · have hr := hr.trans (if_pos c_218)
        exact B186_1 z1 z2 z3 z4 z5 z6 y0 _ hr (lv_sub hl [1, 2, 3, 4, 5, 6, 7, 8, 0] rfl)
      · have hr := hr.trans (if_neg c_218)
        refine lv_iload_n hx hb dL_told_91 rfl (lv_at hl 4 rfl) ?_
        refine lv_i2f hx hb dL_told_92 ?_
        refine lv_iload hx hb dL_told_93 (lv_at hl 5 rfl) ?_
        refine lv_i2f hx hb dL_told_95 ?_
        refine gdv hr (fun g_219 hr => ?_)
        refine lv_fdiv hx hb dL_told_96 g_219 ?_
        refine nmv hr (fun f_220 e_221 hr => ?_)
        rw [← e_221]
        refine lv_fstore (lv' := [(9, .float f_220), (8, .float y0), (0, .ref (ad 0)), (1, .int z1), (2, .int z2), (3, .int z3), (4, .int z4), (5, .int z5), (6, .float z6), (7, .int (1 : Int32))]) hx hb dL_told_97 hl (by decide) rfl (fun ls hl => ?_)
        refine lv_iload_n hx hb dL_told_99 rfl (lv_at hl 5 rfl) ?_
        refine lv_iload hx hb dL_told_100 (lv_at hl 7 rfl) ?_
        refine lv_isub hx hb dL_told_102 ?_
        refine lv_i2f hx hb dL_told_103 ?_
        refine lv_iload hx hb dL_told_104 (lv_at hl 6 rfl) ?_
        refine lv_iload hx hb dL_told_106 (lv_at hl 7 rfl) ?_
        refine lv_isub hx hb dL_told_108 ?_
        refine lv_i2f hx hb dL_told_109 ?_
        refine gdv hr (fun g_222 hr => ?_)
        refine lv_fdiv hx hb dL_told_110 g_222 ?_
        refine nmv hr (fun f_223 e_224 hr => ?_)
        rw [← e_224]
        refine lv_fstore (lv' := [(10, .float f_223), (9, .float f_220), (8, .float y0), (0, .ref (ad 0)), (1, .int z1), (2, .int z2), (3, .int z3), (4, .int z4), (5, .int z5), (6, .float z6), (7, .int (1 : Int32))]) hx hb dL_told_111 hl (by decide) rfl (fun ls hl => ?_)
        refine lv_iload_n hx hb dL_told_113 rfl (lv_at hl 4 rfl) ?_
        refine lv_iload hx hb dL_told_114 (lv_at hl 10 rfl) ?_
        refine nmv hr (fun r_225 e_226 hr => ?_)
        refine roS_i (As := [.int z1, .int (1 : Int32)]) (rest := []) ⟨hx, hb, hml, hown, hts⟩ (k_L_isClosed l D Y  z1 (1 : Int32) r_225 e_226) (va_cwS 2 hts gL_told_L_isClosed rfl rfl rfl (by decide +kernel) ⟨Nat.le_of_ble_eq_true rfl, Nat.le_of_ble_eq_true rfl⟩) (hP.sub (ws' := []) [] rfl) hK hN hZ rfl hl.1 rfl (Nat.le_of_ble_eq_true rfl) dL_told_116 ⟨Nat.le_refl 0, Nat.le_refl 0⟩ ?_
        refine lv_if_eq (tgt := 129) hx hb dL_told_119 (by decide) (fun c_227 => ?_) (fun c_227 => ?_)
        · have hr := hr.trans (if_pos c_227)
          refine lv_iload_n hx hb dL_told_129 rfl (lv_at hl 6 rfl) ?_
          refine lv_iload hx hb dL_told_130 (lv_at hl 8 rfl) ?_
          refine lv_icmp_gt (tgt := 139) hx hb dL_told_132 (by decide) (fun c_228 => ?_) (fun c_228 => ?_)
          · have hr := hr.trans (if_pos c_228)
            refine lv_fload hx hb dL_told_139 (lv_at hl 0 rfl) ?_
            exact B141_1 z1 z2 z3 z4 z5 z6 f_223 _ hr (lv_sub hl [3, 4, 5, 6, 7, 8, 9, 10] rfl)
          · have hr := hr.trans (if_neg c_228)
            refine lv_fconst0 hx hb dL_told_135 ?_
            refine lv_goto (tgt := 141) hx hb dL_told_136 (by decide) ?_
            exact B141_1 z1 z2 z3 z4 z5 z6 FP.fconst0 _ hr (lv_sub hl [3, 4, 5, 6, 7, 8, 9, 10] rfl)
        · have hr := hr.trans (if_neg c_227)
          refine lv_fconst1 hx hb dL_told_122 ?_
          refine lv_fload hx hb dL_told_123 (lv_at hl 1 rfl) ?_
          refine gdv hr (fun g_236 hr => ?_)
          refine lv_fsub hx hb dL_told_125 g_236 ?_
          refine nmv hr (fun f_237 e_238 hr => ?_)
          rw [← e_238]
          refine lv_goto (tgt := 141) hx hb dL_told_126 (by decide) ?_
          exact B141_1 z1 z2 z3 z4 z5 z6 f_237 _ hr (lv_sub hl [3, 4, 5, 6, 7, 8, 9, 10] rfl)
  have B48_1 : ∀ (z1 : Int32) (z2 : Int32) (z3 : Int32) (z4 : Int32) (z5 : Int32) (z6 : UInt32) (ls : Array Slot), some R = mf_L_told_B48_1 V z1 z2 z3 z4 z5 z6 → lv_has ls 18 [(0, .ref (ad 0)), (1, .int z1), (2, .int z2), (3, .int z3), (4, .int z4), (5, .int z5), (6, .float z6), (7, .int (1 : Int32))] → W p l e ({ frames := 5, cells := 0, slots := 0, locals := 106 } : Room) s m ([.ref (ad 0)] : List Value).toArray below meth c s.heap [] 0 0 (MQ below (vp_Si (fun x => x = R)) ([.ref (ad 0)] : List Value).toArray s 0 0 (fun _ => False)) (F0 m 48 ls []) := by
    intro z1 z2 z3 z4 z5 z6 ls hr hl
    rw [mf_L_told_B48_1] at hr
    refine lv_iload hx hb dL_told_48 (lv_at hl 7 rfl) ?_
    refine lv_iconst (v := (5 : Int32)) hx hb dL_told_50 (by decide) ?_
    refine lv_icmp_ge (tgt := 206) hx hb dL_told_51 (by decide) (fun hc => absurd hc (by decide)) (fun _ => ?_)
    refine lv_iload_n hx hb dL_told_54 rfl (lv_at hl 1 rfl) ?_
    refine lv_iload hx hb dL_told_55 (lv_at hl 7 rfl) ?_
    refine nmv hr (fun r_19 e_20 hr => ?_)
    refine roS_i (As := [.int z1, .int (1 : Int32)]) (rest := []) ⟨hx, hb, hml, hown, hts⟩ (k_L_isClosed l D Y  z1 (1 : Int32) r_19 e_20) (va_cwS 2 hts gL_told_L_isClosed rfl rfl rfl (by decide +kernel) ⟨Nat.le_of_ble_eq_true rfl, Nat.le_of_ble_eq_true rfl⟩) (hP.sub (ws' := []) [] rfl) hK hN hZ rfl hl.1 rfl (Nat.le_of_ble_eq_true rfl) dL_told_57 ⟨Nat.le_refl 0, Nat.le_refl 0⟩ ?_
    refine lv_if_eq (tgt := 67) hx hb dL_told_60 (by decide) (fun c_21 => ?_) (fun c_21 => ?_)
    · have hr := hr.trans (if_pos c_21)
      refine lv_fconst0 hx hb dL_told_67 ?_
      exact B68_1 z1 z2 z3 z4 z5 z6 FP.fconst0 _ hr (lv_sub hl [0, 1, 2, 3, 4, 5, 6, 7] rfl)
    · have hr := hr.trans (if_neg c_21)
      refine lv_fconst1 hx hb dL_told_63 ?_
      refine lv_goto (tgt := 68) hx hb dL_told_64 (by decide) ?_
      exact B68_1 z1 z2 z3 z4 z5 z6 FP.fconst1 _ hr (lv_sub hl [0, 1, 2, 3, 4, 5, 6, 7] rfl)
  have B186_0 : ∀ (z1 : Int32) (z2 : Int32) (z3 : Int32) (z4 : Int32) (z5 : Int32) (z6 : UInt32) (z8 : UInt32) (ls : Array Slot), some R = mf_L_told_B186_0 V z1 z2 z3 z4 z5 z6 z8 → lv_has ls 18 [(0, .ref (ad 0)), (1, .int z1), (2, .int z2), (3, .int z3), (4, .int z4), (5, .int z5), (6, .float z6), (7, .int (0 : Int32)), (8, .float z8)] → W p l e ({ frames := 5, cells := 0, slots := 0, locals := 106 } : Room) s m ([.ref (ad 0)] : List Value).toArray below meth c s.heap [] 0 0 (MQ below (vp_Si (fun x => x = R)) ([.ref (ad 0)] : List Value).toArray s 0 0 (fun _ => False)) (F0 m 186 ls []) := by
    intro z1 z2 z3 z4 z5 z6 z8 ls hr hl
    rw [mf_L_told_B186_0] at hr
    refine lv_aload_n hx hb dL_told_186 rfl (lv_at hl 0 rfl) ?_
    refine lv_iload hx hb dL_told_187 (lv_at hl 7 rfl) ?_
    refine bdv hr (fun r_16 e_17 hr => ?_)
    refine roV_f (As := [.int (0 : Int32)]) (rest := []) ⟨hx, hb, hml, hown, hts⟩ (k_X5_pressed l D Y ad V (0 : Int32) r_16 e_17) (cwV 1 hts gL_told_X5_pressed rfl rfl rfl (by decide +kernel) ⟨Nat.le_of_ble_eq_true rfl, Nat.le_of_ble_eq_true rfl⟩) hP hK hN hZ 0 5 rfl rfl rfl hl.1 rfl (Nat.le_of_ble_eq_true rfl) dL_told_189 ⟨Nat.le_refl 0, Nat.le_refl 0⟩ ?_
    refine lv_fload hx hb dL_told_192 (lv_at hl 8 rfl) ?_
    refine lv_fcmp hx hb dL_told_194 ?_
    refine lv_if_eq (tgt := 200) hx hb dL_told_195 (by decide) (fun c_18 => ?_) (fun c_18 => ?_)
    · have hr := hr.trans (if_pos c_18)
      refine lv_iinc (v := (1 : Int32)) (lv' := [(7, .int (1 : Int32)), (0, .ref (ad 0)), (1, .int z1), (2, .int z2), (3, .int z3), (4, .int z4), (5, .int z5), (6, .float z6), (8, .float z8)]) hx hb dL_told_200 hl (k := 7) rfl (by decide) (by decide) rfl (fun ls hl => ?_)
      refine lv_goto (tgt := 48) hx hb dL_told_203 (by decide) ?_
      exact B48_1 z1 z2 z3 z4 z5 z6 _ hr (lv_sub hl [1, 2, 3, 4, 5, 6, 7, 0] rfl)
    · have hr := hr.trans (if_neg c_18)
      refine lv_iconst (v := (0 : Int32)) hx hb dL_told_198 (by decide) ?_
      have hr := Option.some.inj hr
      subst hr
      exact W.zret (ty := .boolean) hx hb hrt (by decide) (fun t ht hW => ⟨_, rfl, rfl, ht⟩) (fun q hq => absurd hq List.not_mem_nil) dL_told_199
  have B176_0 : ∀ (z1 : Int32) (z2 : Int32) (z3 : Int32) (z4 : Int32) (z5 : Int32) (z6 : UInt32) (z8 : UInt32) (y0 : Int32) (ls : Array Slot), some R = mf_L_told_B176_0 V z1 z2 z3 z4 z5 z6 z8 y0 → lv_has ls 18 [(0, .ref (ad 0)), (1, .int z1), (2, .int z2), (3, .int z3), (4, .int z4), (5, .int z5), (6, .float z6), (7, .int (0 : Int32)), (8, .float z8)] → W p l e ({ frames := 5, cells := 0, slots := 0, locals := 106 } : Room) s m ([.ref (ad 0)] : List Value).toArray below meth c s.heap [] 0 0 (MQ below (vp_Si (fun x => x = R)) ([.ref (ad 0)] : List Value).toArray s 0 0 (fun _ => False)) (F0 m 176 ls [.int y0, .ref (ad 0)]) := by
    intro z1 z2 z3 z4 z5 z6 z8 y0 ls hr hl
    rw [mf_L_told_B176_0] at hr
    refine nmv hr (fun r_258 e_259 hr => ?_)
    refine roV_i (As := [.int y0]) (rest := []) ⟨hx, hb, hml, hown, hts⟩ (k_X5_car l D Y ad V y0 r_258 e_259) (cwV 1 hts gL_told_X5_car rfl rfl rfl (by decide +kernel) ⟨Nat.le_of_ble_eq_true rfl, Nat.le_of_ble_eq_true rfl⟩) hP hK hN hZ 0 5 rfl rfl rfl hl.1 rfl (Nat.le_of_ble_eq_true rfl) dL_told_176 ⟨Nat.le_refl 0, Nat.le_refl 0⟩ ?_
    refine lv_iload hx hb dL_told_179 (lv_at hl 7 rfl) ?_
    refine lv_icmp_eq (tgt := 186) hx hb dL_told_181 (by decide) (fun c_260 => ?_) (fun c_260 => ?_)
    · have hr := hr.trans (if_pos c_260)
      exact B186_0 z1 z2 z3 z4 z5 z6 z8 _ hr (lv_sub hl [0, 1, 2, 3, 4, 5, 6, 7, 8] rfl)
    · have hr := hr.trans (if_neg c_260)
      refine lv_iconst (v := (0 : Int32)) hx hb dL_told_184 (by decide) ?_
      have hr := Option.some.inj hr
      subst hr
      exact W.zret (ty := .boolean) hx hb hrt (by decide) (fun t ht hW => ⟨_, rfl, rfl, ht⟩) (fun q hq => absurd hq List.not_mem_nil) dL_told_185
  have B158_0 : ∀ (z1 : Int32) (z2 : Int32) (z3 : Int32) (z4 : Int32) (z5 : Int32) (z8 : UInt32) (y0 : UInt32) (ls : Array Slot), some R = mf_L_told_B158_0 V z1 z2 z3 z4 z5 z8 y0 → lv_has ls 18 [(0, .ref (ad 0)), (1, .int z1), (2, .int z2), (3, .int z3), (4, .int z4), (5, .int z5), (7, .int (0 : Int32)), (8, .float z8)] → W p l e ({ frames := 5, cells := 0, slots := 0, locals := 106 } : Room) s m ([.ref (ad 0)] : List Value).toArray below meth c s.heap [] 0 0 (MQ below (vp_Si (fun x => x = R)) ([.ref (ad 0)] : List Value).toArray s 0 0 (fun _ => False)) (F0 m 158 ls [.float y0]) := by
    intro z1 z2 z3 z4 z5 z8 y0 ls hr hl
    rw [mf_L_told_B158_0] at hr
    refine lv_fstore (lv' := [(6, .float y0), (0, .ref (ad 0)), (1, .int z1), (2, .int z2), (3, .int z3), (4, .int z4), (5, .int z5), (7, .int (0 : Int32)), (8, .float z8)]) hx hb dL_told_158 hl (by decide) rfl (fun ls hl => ?_)
    refine lv_aload_n hx hb dL_told_160 rfl (lv_at hl 1 rfl) ?_
    refine lv_iload_n hx hb dL_told_161 rfl (lv_at hl 2 rfl) ?_
    refine lv_iload hx hb dL_told_162 (lv_at hl 7 rfl) ?_
    refine nmv hr (fun r_255 e_256 hr => ?_)
    refine roS_i (As := [.int z1, .int (0 : Int32)]) (rest := [.ref (ad 0)]) ⟨hx, hb, hml, hown, hts⟩ (k_L_isClosed l D Y  z1 (0 : Int32) r_255 e_256) (va_cwS 2 hts gL_told_L_isClosed rfl rfl rfl (by decide +kernel) ⟨Nat.le_of_ble_eq_true rfl, Nat.le_of_ble_eq_true rfl⟩) (hP.sub (ws' := []) [] rfl) hK hN hZ rfl hl.1 rfl (Nat.le_of_ble_eq_true rfl) dL_told_164 ⟨Nat.le_refl 0, Nat.le_refl 0⟩ ?_
    refine lv_if_eq (tgt := 174) hx hb dL_told_167 (by decide) (fun c_257 => ?_) (fun c_257 => ?_)
    · have hr := hr.trans (if_pos c_257)
      refine lv_bipush (v := (6 : Int32)) hx hb dL_told_174 (by decide) ?_
      exact B176_0 z1 z2 z3 z4 z5 y0 z8 (6 : Int32) _ hr (lv_sub hl [1, 2, 3, 4, 5, 6, 0, 7, 8] rfl)
    · have hr := hr.trans (if_neg c_257)
      refine lv_iconst (v := (5 : Int32)) hx hb dL_told_170 (by decide) ?_
      refine lv_goto (tgt := 176) hx hb dL_told_171 (by decide) ?_
      exact B176_0 z1 z2 z3 z4 z5 y0 z8 (5 : Int32) _ hr (lv_sub hl [1, 2, 3, 4, 5, 6, 0, 7, 8] rfl)
  have B141_0 : ∀ (z1 : Int32) (z2 : Int32) (z3 : Int32) (z4 : Int32) (z5 : Int32) (z6 : UInt32) (y0 : UInt32) (ls : Array Slot), some R = mf_L_told_B141_0 V z1 z2 z3 z4 z5 z6 y0 → lv_has ls 18 [(0, .ref (ad 0)), (1, .int z1), (2, .int z2), (3, .int z3), (4, .int z4), (5, .int z5), (6, .float z6), (7, .int (0 : Int32))] → W p l e ({ frames := 5, cells := 0, slots := 0, locals := 106 } : Room) s m ([.ref (ad 0)] : List Value).toArray below meth c s.heap [] 0 0 (MQ below (vp_Si (fun x => x = R)) ([.ref (ad 0)] : List Value).toArray s 0 0 (fun _ => False)) (F0 m 141 ls [.float y0]) := by
    intro z1 z2 z3 z4 z5 z6 y0 ls hr hl
    rw [mf_L_told_B141_0] at hr
    refine lv_fstore (lv' := [(8, .float y0), (0, .ref (ad 0)), (1, .int z1), (2, .int z2), (3, .int z3), (4, .int z4), (5, .int z5), (6, .float z6), (7, .int (0 : Int32))]) hx hb dL_told_141 hl (by decide) rfl (fun ls hl => ?_)
    refine lv_fload hx hb dL_told_143 (lv_at hl 0 rfl) ?_
    refine lv_fload hx hb dL_told_145 (lv_at hl 7 rfl) ?_
    refine lv_fcmp hx hb dL_told_147 ?_
    refine lv_if_le (tgt := 156) hx hb dL_told_148 (by decide) (fun c_254 => ?_) (fun c_254 => ?_)
    · have hr := hr.trans (if_pos c_254)
      refine lv_fload hx hb dL_told_156 (lv_at hl 7 rfl) ?_
      exact B158_0 z1 z2 z3 z4 z5 y0 z6 _ hr (lv_sub hl [1, 2, 3, 4, 5, 6, 8, 0] rfl)
    · have hr := hr.trans (if_neg c_254)
      refine lv_fload hx hb dL_told_151 (lv_at hl 0 rfl) ?_
      refine lv_goto (tgt := 158) hx hb dL_told_153 (by decide) ?_
      exact B158_0 z1 z2 z3 z4 z5 y0 y0 _ hr (lv_sub hl [1, 2, 3, 4, 5, 6, 8, 0] rfl)
  have B68_0 : ∀ (z1 : Int32) (z2 : Int32) (z3 : Int32) (z4 : Int32) (z5 : Int32) (z6 : UInt32) (y0 : UInt32) (ls : Array Slot), some R = mf_L_told_B68_0 V z1 z2 z3 z4 z5 z6 y0 → lv_has ls 18 [(0, .ref (ad 0)), (1, .int z1), (2, .int z2), (3, .int z3), (4, .int z4), (5, .int z5), (6, .float z6), (7, .int (0 : Int32))] → W p l e ({ frames := 5, cells := 0, slots := 0, locals := 106 } : Room) s m ([.ref (ad 0)] : List Value).toArray below meth c s.heap [] 0 0 (MQ below (vp_Si (fun x => x = R)) ([.ref (ad 0)] : List Value).toArray s 0 0 (fun _ => False)) (F0 m 68 ls [.float y0]) := by
    intro z1 z2 z3 z4 z5 z6 y0 ls hr hl
    rw [mf_L_told_B68_0] at hr
    refine lv_fstore (lv' := [(8, .float y0), (0, .ref (ad 0)), (1, .int z1), (2, .int z2), (3, .int z3), (4, .int z4), (5, .int z5), (6, .float z6), (7, .int (0 : Int32))]) hx hb dL_told_68 hl (by decide) rfl (fun ls hl => ?_)
    refine lv_iload_n hx hb dL_told_70 rfl (lv_at hl 3 rfl) ?_
    refine lv_bipush (v := (-5 : Int32)) hx hb dL_told_71 (by decide) ?_
    refine lv_icmp_eq (tgt := 186) hx hb dL_told_73 (by decide) (fun c_15 => ?_) (fun c_15 => ?_)
    · have hr := hr.trans (if_pos c_15)
      exact B186_0 z1 z2 z3 z4 z5 z6 y0 _ hr (lv_sub hl [1, 2, 3, 4, 5, 6, 7, 8, 0] rfl)
    · have hr := hr.trans (if_neg c_15)
      refine lv_iload_n hx hb dL_told_76 rfl (lv_at hl 2 rfl) ?_
      refine lv_iload hx hb dL_told_77 (lv_at hl 8 rfl) ?_
      refine nmv hr (fun r_239 e_240 hr => ?_)
      refine roS_i (As := [.int z1, .int (0 : Int32)]) (rest := []) ⟨hx, hb, hml, hown, hts⟩ (k_L_isClosed l D Y  z1 (0 : Int32) r_239 e_240) (va_cwS 2 hts gL_told_L_isClosed rfl rfl rfl (by decide +kernel) ⟨Nat.le_of_ble_eq_true rfl, Nat.le_of_ble_eq_true rfl⟩) (hP.sub (ws' := []) [] rfl) hK hN hZ rfl hl.1 rfl (Nat.le_of_ble_eq_true rfl) dL_told_79 ⟨Nat.le_refl 0, Nat.le_refl 0⟩ ?_
      refine lv_iload_n hx hb dL_told_82 rfl (lv_at hl 3 rfl) ?_
      refine lv_iload hx hb dL_told_83 (lv_at hl 8 rfl) ?_
      refine nmv hr (fun r_241 e_242 hr => ?_)
      refine roS_i (As := [.int z2, .int (0 : Int32)]) (rest := [.int r_239]) ⟨hx, hb, hml, hown, hts⟩ (k_L_isClosed l D Y  z2 (0 : Int32) r_241 e_242) (va_cwS 2 hts gL_told_L_isClosed rfl rfl rfl (by decide +kernel) ⟨Nat.le_of_ble_eq_true rfl, Nat.le_of_ble_eq_true rfl⟩) (hP.sub (ws' := []) [] rfl) hK hN hZ rfl hl.1 rfl (Nat.le_of_ble_eq_true rfl) dL_told_85 ⟨Nat.le_refl 0, Nat.le_refl 0⟩ ?_
      refine lv_icmp_eq (tgt := 186) hx hb dL_told_88 (by decide) (fun c_243 => ?_) (fun c_243 => ?_)
      · have hr := hr.trans (if_pos c_243)
        exact B186_0 z1 z2 z3 z4 z5 z6 y0 _ hr (lv_sub hl [1, 2, 3, 4, 5, 6, 7, 8, 0] rfl)
      · have hr := hr.trans (if_neg c_243)
        refine lv_iload_n hx hb dL_told_91 rfl (lv_at hl 4 rfl) ?_
        refine lv_i2f hx hb dL_told_92 ?_
        refine lv_iload hx hb dL_told_93 (lv_at hl 5 rfl) ?_
        refine lv_i2f hx hb dL_told_95 ?_
        refine gdv hr (fun g_244 hr => ?_)
        refine lv_fdiv hx hb dL_told_96 g_244 ?_
        refine nmv hr (fun f_245 e_246 hr => ?_)
        rw [← e_246]
        refine lv_fstore (lv' := [(9, .float f_245), (8, .float y0), (0, .ref (ad 0)), (1, .int z1), (2, .int z2), (3, .int z3), (4, .int z4), (5, .int z5), (6, .float z6), (7, .int (0 : Int32))]) hx hb dL_told_97 hl (by decide) rfl (fun ls hl => ?_)
        refine lv_iload_n hx hb dL_told_99 rfl (lv_at hl 5 rfl) ?_
        refine lv_iload hx hb dL_told_100 (lv_at hl 7 rfl) ?_
        refine lv_isub hx hb dL_told_102 ?_
        refine lv_i2f hx hb dL_told_103 ?_
        refine lv_iload hx hb dL_told_104 (lv_at hl 6 rfl) ?_
        refine lv_iload hx hb dL_told_106 (lv_at hl 7 rfl) ?_
        refine lv_isub hx hb dL_told_108 ?_
        refine lv_i2f hx hb dL_told_109 ?_
        refine gdv hr (fun g_247 hr => ?_)
        refine lv_fdiv hx hb dL_told_110 g_247 ?_
        refine nmv hr (fun f_248 e_249 hr => ?_)
        rw [← e_249]
        refine lv_fstore (lv' := [(10, .float f_248), (9, .float f_245), (8, .float y0), (0, .ref (ad 0)), (1, .int z1), (2, .int z2), (3, .int z3), (4, .int z4), (5, .int z5), (6, .float z6), (7, .int (0 : Int32))]) hx hb dL_told_111 hl (by decide) rfl (fun ls hl => ?_)
        refine lv_iload_n hx hb dL_told_113 rfl (lv_at hl 4 rfl) ?_
        refine lv_iload hx hb dL_told_114 (lv_at hl 10 rfl) ?_
        refine nmv hr (fun r_250 e_251 hr => ?_)
        refine roS_i (As := [.int z1, .int (0 : Int32)]) (rest := []) ⟨hx, hb, hml, hown, hts⟩ (k_L_isClosed l D Y  z1 (0 : Int32) r_250 e_251) (va_cwS 2 hts gL_told_L_isClosed rfl rfl rfl (by decide +kernel) ⟨Nat.le_of_ble_eq_true rfl, Nat.le_of_ble_eq_true rfl⟩) (hP.sub (ws' := []) [] rfl) hK hN hZ rfl hl.1 rfl (Nat.le_of_ble_eq_true rfl) dL_told_116 ⟨Nat.le_refl 0, Nat.le_refl 0⟩ ?_
        refine lv_if_eq (tgt := 129) hx hb dL_told_119 (by decide) (fun c_252 => ?_) (fun c_252 => ?_)
        · have hr := hr.trans (if_pos c_252)
          refine lv_iload_n hx hb dL_told_129 rfl (lv_at hl 6 rfl) ?_
          refine lv_iload hx hb dL_told_130 (lv_at hl 8 rfl) ?_
          refine lv_icmp_gt (tgt := 139) hx hb dL_told_132 (by decide) (fun c_253 => ?_) (fun c_253 => ?_)
          · have hr := hr.trans (if_pos c_253)
            refine lv_fload hx hb dL_told_139 (lv_at hl 0 rfl) ?_
            exact B141_0 z1 z2 z3 z4 z5 z6 f_248 _ hr (lv_sub hl [3, 4, 5, 6, 7, 8, 9, 10] rfl)
          · have hr := hr.trans (if_neg c_253)
            refine lv_fconst0 hx hb dL_told_135 ?_
            refine lv_goto (tgt := 141) hx hb dL_told_136 (by decide) ?_
            exact B141_0 z1 z2 z3 z4 z5 z6 FP.fconst0 _ hr (lv_sub hl [3, 4, 5, 6, 7, 8, 9, 10] rfl)
        · have hr := hr.trans (if_neg c_252)
          refine lv_fconst1 hx hb dL_told_122 ?_
          refine lv_fload hx hb dL_told_123 (lv_at hl 1 rfl) ?_
          refine gdv hr (fun g_261 hr => ?_)
          refine lv_fsub hx hb dL_told_125 g_261 ?_
          refine nmv hr (fun f_262 e_263 hr => ?_)
          rw [← e_263]
          refine lv_goto (tgt := 141) hx hb dL_told_126 (by decide) ?_
          exact B141_0 z1 z2 z3 z4 z5 z6 f_262 _ hr (lv_sub hl [3, 4, 5, 6, 7, 8, 9, 10] rfl)
  have B48_0 : ∀ (z1 : Int32) (z2 : Int32) (z3 : Int32) (z4 : Int32) (z5 : Int32) (z6 : UInt32) (ls : Array Slot), some R = mf_L_told_B48_0 V z1 z2 z3 z4 z5 z6 → lv_has ls 18 [(0, .ref (ad 0)), (1, .int z1), (2, .int z2), (3, .int z3), (4, .int z4), (5, .int z5), (6, .float z6), (7, .int (0 : Int32))] → W p l e ({ frames := 5, cells := 0, slots := 0, locals := 106 } : Room) s m ([.ref (ad 0)] : List Value).toArray below meth c s.heap [] 0 0 (MQ below (vp_Si (fun x => x = R)) ([.ref (ad 0)] : List Value).toArray s 0 0 (fun _ => False)) (F0 m 48 ls []) := by
    intro z1 z2 z3 z4 z5 z6 ls hr hl
    rw [mf_L_told_B48_0] at hr
    refine lv_iload hx hb dL_told_48 (lv_at hl 7 rfl) ?_
    refine lv_iconst (v := (5 : Int32)) hx hb dL_told_50 (by decide) ?_
    refine lv_icmp_ge (tgt := 206) hx hb dL_told_51 (by decide) (fun hc => absurd hc (by decide)) (fun _ => ?_)
    refine lv_iload_n hx hb dL_told_54 rfl (lv_at hl 1 rfl) ?_
    refine lv_iload hx hb dL_told_55 (lv_at hl 7 rfl) ?_
    refine nmv hr (fun r_12 e_13 hr => ?_)
    refine roS_i (As := [.int z1, .int (0 : Int32)]) (rest := []) ⟨hx, hb, hml, hown, hts⟩ (k_L_isClosed l D Y  z1 (0 : Int32) r_12 e_13) (va_cwS 2 hts gL_told_L_isClosed rfl rfl rfl (by decide +kernel) ⟨Nat.le_of_ble_eq_true rfl, Nat.le_of_ble_eq_true rfl⟩) (hP.sub (ws' := []) [] rfl) hK hN hZ rfl hl.1 rfl (Nat.le_of_ble_eq_true rfl) dL_told_57 ⟨Nat.le_refl 0, Nat.le_refl 0⟩ ?_
    refine lv_if_eq (tgt := 67) hx hb dL_told_60 (by decide) (fun c_14 => ?_) (fun c_14 => ?_)
    · have hr := hr.trans (if_pos c_14)
      refine lv_fconst0 hx hb dL_told_67 ?_
      exact B68_0 z1 z2 z3 z4 z5 z6 FP.fconst0 _ hr (lv_sub hl [0, 1, 2, 3, 4, 5, 6, 7] rfl)
    · have hr := hr.trans (if_neg c_14)
      refine lv_fconst1 hx hb dL_told_63 ?_
      refine lv_goto (tgt := 68) hx hb dL_told_64 (by decide) ?_
      exact B68_0 z1 z2 z3 z4 z5 z6 FP.fconst1 _ hr (lv_sub hl [0, 1, 2, 3, 4, 5, 6, 7] rfl)
  have B43 : ∀ (z1 : Int32) (z2 : Int32) (z3 : Int32) (z4 : Int32) (z5 : Int32) (y0 : UInt32) (ls : Array Slot), some R = mf_L_told_B43 V z1 z2 z3 z4 z5 y0 → lv_has ls 18 [(0, .ref (ad 0)), (1, .int z1), (2, .int z2), (3, .int z3), (4, .int z4), (5, .int z5)] → W p l e ({ frames := 5, cells := 0, slots := 0, locals := 106 } : Room) s m ([.ref (ad 0)] : List Value).toArray below meth c s.heap [] 0 0 (MQ below (vp_Si (fun x => x = R)) ([.ref (ad 0)] : List Value).toArray s 0 0 (fun _ => False)) (F0 m 43 ls [.float y0]) := by
    intro z1 z2 z3 z4 z5 y0 ls hr hl
    rw [mf_L_told_B43] at hr
    refine lv_fstore (lv' := [(6, .float y0), (0, .ref (ad 0)), (1, .int z1), (2, .int z2), (3, .int z3), (4, .int z4), (5, .int z5)]) hx hb dL_told_43 hl (by decide) rfl (fun ls hl => ?_)
    refine lv_iconst (v := (0 : Int32)) hx hb dL_told_45 (by decide) ?_
    refine lv_istore (lv' := [(7, .int (0 : Int32)), (6, .float y0), (0, .ref (ad 0)), (1, .int z1), (2, .int z2), (3, .int z3), (4, .int z4), (5, .int z5)]) hx hb dL_told_46 hl (by decide) rfl (fun ls hl => ?_)
    exact B48_0 z1 z2 z3 z4 z5 y0 _ hr (lv_sub hl [2, 3, 4, 5, 6, 7, 1, 0] rfl)
  rw [mf_L_told] at hr
  refine lv_aload_n hx hb dL_told_0 rfl (lv_at hl 0 rfl) ?_
  refine lv_iconst (v := (0 : Int32)) hx hb dL_told_1 (by decide) ?_
  refine nmv hr (fun r_1 e_2 hr => ?_)
  refine roV_i (As := [.int (0 : Int32)]) (rest := []) ⟨hx, hb, hml, hown, hts⟩ (k_X5_car l D Y ad V (0 : Int32) r_1 e_2) (cwV 1 hts gL_told_X5_car rfl rfl rfl (by decide +kernel) ⟨Nat.le_of_ble_eq_true rfl, Nat.le_of_ble_eq_true rfl⟩) hP hK hN hZ 0 5 rfl rfl rfl hl.1 rfl (Nat.le_of_ble_eq_true rfl) dL_told_2 ⟨Nat.le_refl 0, Nat.le_refl 0⟩ ?_
  refine lv_istore_n (lv' := [(1, .int r_1), (0, .ref (ad 0))]) hx hb dL_told_5 rfl hl (by decide) rfl (fun ls hl => ?_)
  refine lv_aload_n hx hb dL_told_6 rfl (lv_at hl 1 rfl) ?_
  refine lv_iconst (v := (1 : Int32)) hx hb dL_told_7 (by decide) ?_
  refine nmv hr (fun r_3 e_4 hr => ?_)
  refine roV_i (As := [.int (1 : Int32)]) (rest := []) ⟨hx, hb, hml, hown, hts⟩ (k_X5_car l D Y ad V (1 : Int32) r_3 e_4) (cwV 1 hts gL_told_X5_car rfl rfl rfl (by decide +kernel) ⟨Nat.le_of_ble_eq_true rfl, Nat.le_of_ble_eq_true rfl⟩) hP hK hN hZ 0 5 rfl rfl rfl hl.1 rfl (Nat.le_of_ble_eq_true rfl) dL_told_8 ⟨Nat.le_refl 0, Nat.le_refl 0⟩ ?_
  refine lv_istore_n (lv' := [(2, .int r_3), (1, .int r_1), (0, .ref (ad 0))]) hx hb dL_told_11 rfl hl (by decide) rfl (fun ls hl => ?_)
  refine lv_aload_n hx hb dL_told_12 rfl (lv_at hl 2 rfl) ?_
  refine lv_iconst (v := (2 : Int32)) hx hb dL_told_13 (by decide) ?_
  refine nmv hr (fun r_5 e_6 hr => ?_)
  refine roV_i (As := [.int (2 : Int32)]) (rest := []) ⟨hx, hb, hml, hown, hts⟩ (k_X5_car l D Y ad V (2 : Int32) r_5 e_6) (cwV 1 hts gL_told_X5_car rfl rfl rfl (by decide +kernel) ⟨Nat.le_of_ble_eq_true rfl, Nat.le_of_ble_eq_true rfl⟩) hP hK hN hZ 0 5 rfl rfl rfl hl.1 rfl (Nat.le_of_ble_eq_true rfl) dL_told_14 ⟨Nat.le_refl 0, Nat.le_refl 0⟩ ?_
  refine lv_istore_n (lv' := [(3, .int r_5), (2, .int r_3), (1, .int r_1), (0, .ref (ad 0))]) hx hb dL_told_17 rfl hl (by decide) rfl (fun ls hl => ?_)
  refine lv_aload_n hx hb dL_told_18 rfl (lv_at hl 3 rfl) ?_
  refine lv_iconst (v := (0 : Int32)) hx hb dL_told_19 (by decide) ?_
  refine nmv hr (fun r_7 e_8 hr => ?_)
  refine roV_i (As := [.int (0 : Int32)]) (rest := []) ⟨hx, hb, hml, hown, hts⟩ (k_X5_number l D Y ad V (0 : Int32) r_7 e_8) (cwV 1 hts gL_told_X5_number rfl rfl rfl (by decide +kernel) ⟨Nat.le_of_ble_eq_true rfl, Nat.le_of_ble_eq_true rfl⟩) hP hK hN hZ 0 5 rfl rfl rfl hl.1 rfl (Nat.le_of_ble_eq_true rfl) dL_told_20 ⟨Nat.le_refl 0, Nat.le_refl 0⟩ ?_
  refine lv_istore (lv' := [(4, .int r_7), (3, .int r_5), (2, .int r_3), (1, .int r_1), (0, .ref (ad 0))]) hx hb dL_told_23 hl (by decide) rfl (fun ls hl => ?_)
  refine lv_aload_n hx hb dL_told_25 rfl (lv_at hl 4 rfl) ?_
  refine lv_iconst (v := (1 : Int32)) hx hb dL_told_26 (by decide) ?_
  refine nmv hr (fun r_9 e_10 hr => ?_)
  refine roV_i (As := [.int (1 : Int32)]) (rest := []) ⟨hx, hb, hml, hown, hts⟩ (k_X5_number l D Y ad V (1 : Int32) r_9 e_10) (cwV 1 hts gL_told_X5_number rfl rfl rfl (by decide +kernel) ⟨Nat.le_of_ble_eq_true rfl, Nat.le_of_ble_eq_true rfl⟩) hP hK hN hZ 0 5 rfl rfl rfl hl.1 rfl (Nat.le_of_ble_eq_true rfl) dL_told_27 ⟨Nat.le_refl 0, Nat.le_refl 0⟩ ?_
  refine lv_istore (lv' := [(5, .int r_9), (4, .int r_7), (3, .int r_5), (2, .int r_3), (1, .int r_1), (0, .ref (ad 0))]) hx hb dL_told_30 hl (by decide) rfl (fun ls hl => ?_)
  refine lv_iload_n hx hb dL_told_32 rfl (lv_at hl 3 rfl) ?_
  refine lv_bipush (v := (-5 : Int32)) hx hb dL_told_33 (by decide) ?_
  refine lv_icmp_ne (tgt := 42) hx hb dL_told_35 (by decide) (fun c_11 => ?_) (fun c_11 => ?_)
  · have hr := hr.trans (if_neg c_11)
    refine lv_fconst0 hx hb dL_told_42 ?_
    exact B43 r_1 r_3 r_5 r_7 r_9 FP.fconst0 _ hr (lv_sub hl [5, 4, 3, 2, 1, 0] rfl)
  · have hr := hr.trans (if_pos c_11)
    refine lv_fconst1 hx hb dL_told_38 ?_
    refine lv_goto (tgt := 43) hx hb dL_told_39 (by decide) ?_
    exact B43 r_1 r_3 r_5 r_7 r_9 FP.fconst1 _ hr (lv_sub hl [5, 4, 3, 2, 1, 0] rfl)
