/-! THE CLAIM OUT OF ONE WALK OF THE LAW'S BODY. Your part is whole_start (and what it stands on); all else here is the same for every law, but numbers. -/
def R_law : String := "ShiftMapsLaw"
def lw_P (b : Addr) (xs : List Int32) (args : Array Value) (s : State) : Prop := args = #[.ref b] ∧ s.IntsAt b xs ∧ xs.length ≤ 260 ∧ (Jvm.Cond.and given_1 narrow_1).before args s = true
/-- what a walk over the start with the record d0 says of its end, said of the start itself -/
theorem lw_closed {s t : State} {o : Outcome} {d0 : Drawn} {L : List Loc} {k n : Nat} (hd0 : s.drawn.sameBut d0 lw_cs) (hv : ∃ v, o = .returned v) (hW : (s.setDrawn d0).WarmedH t.vm) (hs : (s.setDrawn d0).sameButNew ({ t with vm := s.vm } : State) L k n) : State.butDraws s t lw_cs (fun t1 => Framed s o t1 L k n) := by
  have h2 : t.drawn = d0 := congrArg State.drawn hs.1
  refine ⟨⟨hv, hW, State.sameButNew.setDrawn hs s.drawn⟩, ?_, by decide⟩
  rw [h2]
  exact hd0
def lw_Q (_ : Array Value) (s : State) (o : Outcome) (t : State) : Prop := o = .returned (some (.int 1)) ∧ State.butDraws s t lw_cs (fun t1 => Framed s o t1 [] 600000 7302250)
def lw_Z (below : List Frame) (a : Array Value) (s : State) : State → Prop := fun t => ∃ o, t.status = .running ∧ Ended t below o ∧ lw_Q a s o t
/-- the law's own end, with 1 on the stack, nothing written that was there before, its room as the claim has it; d0: the record of draws at this point (at the entry s.drawn: begin with 'refine W.base ?_' and 'have hd0 := Drawn.sameBut.refl s.drawn lw_cs') -/
theorem lw_ret {p : Program} {l : Launch} {e : Env} {s : State} {m : MethodId} {below : List Frame} {meth : Method} {c : Code} {b : Nat} {d0 : Drawn} (hd0 : s.drawn.sameBut d0 lw_cs) (hx : p.tables.exec = Jvm.exec) (hb : c.code = code) (hr : meth.sig.returnType = ret) (hlocks : meth.locks = false) {pc : Nat} {H : Heap} {ls : Array Slot} (hdg : decode code pc = .ok (.ireturn, 1)) : W p l e room_1 (s.setDrawn d0) m #[Value.ref b] below meth c H [] 600000 7302250 (lw_Z below #[Value.ref b] s) (F0 m pc ls [.int 1]) := by
  intro T hT X
  obtain ⟨fs, hret, hrun, hended, hW, hframe⟩ := X.leave (v := some (.int 1)) (hlocks := hlocks) (fun h => by rw [hr] at h; cases h)
  have hmeth' : T.vm.method? m = some meth := X.method'
  refine ⟨T.setFrames fs, ?_, .returned (some (.int 1)), hrun, hended, rfl, lw_closed hd0 ⟨_, rfl⟩ hW hframe⟩
  jvm_step X.here [X.here.top, hx, hb, hdg, hmeth', hr, ret, narrow_b1]
  (try refine ⟨rfl, ?_⟩); (try refine ⟨rfl, ?_⟩)
  first | (intro acts; rw [hret _ acts rfl rfl rfl]) | rw [hret _ _ rfl rfl rfl]
  exact Steps.refl _
/-- what holds at the law's entry: the machine, the code, the tables' words (any of lw_tbl by 'hts w (by decide +kernel)'), the script of L ints xs at the cell b, what the Statement gives of the start (any of its parts by flat_of_before) -/
def lw_At (p : Program) (s : State) (m : MethodId) (meth : Method) (c : Code) (b L : Nat) (xs : Nat → Int32) : Prop :=
  p.tables.exec = Jvm.exec ∧ c.code = code ∧ meth.sig.returnType = ret ∧ c.maxLocals = 3 ∧ s.vm.findClass R_law = some m.cls ∧ (∀ w ∈ lw_tbl, w.before #[Value.ref b] s = true) ∧ va_X b L xs s s.heap ∧ b < s.heap.size ∧ meth.locks = false ∧ (Jvm.Cond.and given_1 narrow_1).before #[Value.ref b] s = true

set_option maxHeartbeats 4000000 in
set_option maxRecDepth 100000 in
theorem k_L_cell (l : Launch) (b L : Nat) (xs : Nat → Int32) (hL : L ≤ 260) (x1 : Int32) (h0 : ¬ x1 < 0) : Met l yL_cell wsL_cell ({ frames := 0, cells := 0, slots := 0, locals := 0 } : Room) (va_Pc [.ref b, .int x1] (fun U => va_X b L xs U U.heap)) (vp_Si (fun _ => True)) 0 0 (fun _ => False) := by
  refine Met.ofW (cc := cL_cell) (maxL := 2) (ret := (some .int)) (by decide) rfl ?_
  intro p e s m args below meth c s₁ B hml hv
  obtain ⟨rfl, hX⟩ := hv
  have hx := B.exec
  have hb := B.bytes
  have hrt := B.returns
  have hts := atoms_spec (ws := wsL_cell) B.pre
  have hown : s.vm.findClass RL = some m.cls := findClass_of_methodNamed B.named
  have hlocks := B.notSynchronized
  have hS : va_S (fun _ => False) s.heap s.heap [] := va_S.rf
  have hbl : b < s.heap.size := by
    obtain ⟨scr, h1, -⟩ := hX
    exact (Array.getElem?_eq_some_iff.mp h1).1
  have hl := lv_entry ([.ref b, .int x1]) (n := 2) (Nat.le_of_ble_eq_true rfl)
  rw [lg_entry_eq]
  generalize (lg_sl ([.ref b, .int x1]) ++ List.replicate (2 - (lg_sl ([.ref b, .int x1])).length) Slot.unset).toArray = ls at hl ⊢
  have hl : lv_has ls 2 [(0, .ref b), (1, .int x1)] := hl
  refine lv_iload_n hx hb dL_cell_0 rfl (lv_at hl 1 rfl) ?_
  refine lv_aload_n hx hb dL_cell_1 rfl (lv_at hl 0 rfl) ?_
  refine va_slen hx hb hX hbl (fun q => q) hS dL_cell_2 ?_
  refine lv_icmp_ge (tgt := 12) hx hb dL_cell_3 (by decide) (fun c_1 => ?_) (fun c_1 => ?_)
  · refine lv_ldc hx hb hown (hts (.constant RL 7 (15010021)) (List.mem_of_getElem? (i := 1) rfl)) dL_cell_12 ?_
    refine lv_iload_n hx hb dL_cell_14 rfl (lv_at hl 1 rfl) ?_
    refine lv_imul hx hb dL_cell_15 ?_
    refine lv_sipush (v := (14809 : Int32)) hx hb dL_cell_16 (by decide) ?_
    refine lv_iadd hx hb dL_cell_19 ?_
    exact W.iret hx hb hrt (fun t ht hW => ⟨_, rfl, trivial, ht⟩) (fun q hq => absurd hq List.not_mem_nil) dL_cell_20
  · refine lv_aload_n hx hb dL_cell_6 rfl (lv_at hl 0 rfl) ?_
    refine lv_iload_n hx hb dL_cell_7 rfl (lv_at hl 1 rfl) ?_
    refine va_sld hx hb hX hbl (fun q => q) hS (in_of (n := L) rfl (by omega) h0 c_1) dL_cell_8 ?_
    refine lv_goto (tgt := 20) hx hb dL_cell_9 (by decide) ?_
    exact W.iret hx hb hrt (fun t ht hW => ⟨_, rfl, trivial, ht⟩) (fun q hq => absurd hq List.not_mem_nil) dL_cell_20
theorem X_blind {b L : Nat} {xs : Nat → Int32} {av : List Value} : FrameBlind (va_Pc av (fun U => va_X b L xs U U.heap)) := fun a U g mk h => ⟨h.1, va_X.moved (u := U) (U := U.calling g mk a) (Vm.Alike.refl U.vm) h.2⟩

theorem law_k0 (e : Nat) (h : e < 60) : ¬ (2 : Int32) * nI e < 0 := by
  rw [show (2 : Int32) = nI 2 from rfl, pk_mul]
  exact nI_pos (by omega)
theorem law_k1 (e : Nat) (h : e < 60) : ¬ (2 : Int32) * nI e + 1 < 0 := by
  rw [show (2 : Int32) = nI 2 from rfl, pk_mul, nI_1]
  exact nI_pos (by omega)
set_option maxHeartbeats 4000000 in
set_option maxRecDepth 100000 in
theorem law_loop {p : Program} {e9 : Env} {s : State} {m : MethodId} {below : List Frame} {meth : Method} {c : Code} (l : Launch) {b L : Nat} {xs : Nat → Int32} (hL : L ≤ 260) (C0 : lw_At p s m meth c b L xs) (D : va_G) (Y : Nat → ClassId) (ad : Nat → Nat) (hK : va_K D vwCl (tyL Y) s) (hN : NZ s) (hZ : SZ (fun q : Nat => s.heap.size ≤ q) s s.heap) :
    ∀ (n e : Nat) (he9 : e ≤ 60) (hn : 60 - e < n) (V : CarV) (hI : Inv (200 * e) V) (H : Heap) (locs : List Loc) (ls : Array Slot), va_P D vwCl (carW Y ad V) H → va_D (fun q : Nat => s.heap.size ≤ q) (carW Y ad V) → va_S (fun q : Nat => s.heap.size ≤ q) s.heap H locs → lv_has ls 3 [(2, .int (nI e)), (1, .ref (ad 0)), (0, .ref b)] → W p l e9 room_1 s m #[Value.ref b] below meth c H locs 55 839 (lw_Z below #[Value.ref b] s) (F0 m 10 ls []) := by
  obtain ⟨hx, hb, hr, hml, hown, hts, hX, hbl, hlocks, hgv⟩ := id C0
  have htl : ∀ w ∈ wsL_law, w.before #[Value.ref b] s = true := fun w h => hts w (wsL_law_in w h)
  have hbA : ¬ (fun q : Nat => s.heap.size ≤ q) b := Nat.not_le.mpr hbl
  intro n
  induction n with
  | zero => intro e he9 hn; omega
  | succ n ih =>
    intro e he9 hn V hI H locs ls hP hD hS hl
    obtain ⟨z, ez⟩ : ∃ z : Int32, z = nI e := ⟨_, rfl⟩
    rw [← ez] at hl
    refine lv_iload_n hx hb dL_law_10 rfl (lv_at hl 0 rfl) ?_
    refine lv_bipush (v := (60 : Int32)) hx hb dL_law_11 (by decide) ?_
    refine lv_icmp_ge (tgt := 54) hx hb dL_law_13 (by decide) (fun c_1 => ?_) (fun c_1 => ?_)
    · refine lv_aload_n hx hb dL_law_54 rfl (lv_at hl 1 rfl) ?_
      have e60 : e ≤ 60 := he9
      obtain ⟨V1, hE⟩ := P_errors hI (by omega)
      refine rwS_iw (As := [.ref (ad 0)]) (rest := []) ⟨hx, hb, hml, hown, htl⟩ (k_L_errors l D Y ad V (1, V1) hE.symm) (va_cwS 1 htl gL_law_L_errors rfl rfl rfl (by decide +kernel) ⟨Nat.le_of_ble_eq_true rfl, Nat.le_of_ble_eq_true rfl⟩) hP hK hN hZ hD hS rfl rfl hl.1 rfl (Nat.le_of_ble_eq_true rfl) dL_law_55 ⟨Nat.le_of_ble_eq_true rfl, Nat.le_of_ble_eq_true rfl⟩ (fun H locs hP hD hS => ?_)
      refine va_forget (fun q hq => hS.2.2 q hq) ?_
      refine W.widen (k := 600000) (n := 7302250) (Nat.le_of_ble_eq_true rfl) (Nat.le_of_ble_eq_true rfl) ?_
      exact lw_ret (d0 := s.drawn) (Drawn.sameBut.refl s.drawn lw_cs) hx hb hr hlocks dL_law_58
    · have he : e < 60 := by
        rcases Nat.lt_or_ge e 60 with q | q
        · exact q
        · exact absurd (by rw [ez]; exact nI_le (a := 60) q (by omega)) c_1
      refine lv_aload_n hx hb dL_law_16 rfl (lv_at hl 1 rfl) ?_
      refine lv_aload_n hx hb dL_law_17 rfl (lv_at hl 2 rfl) ?_
      refine lv_iconst (v := (2 : Int32)) hx hb dL_law_18 (by decide) ?_
      refine lv_iload_n hx hb dL_law_19 rfl (lv_at hl 0 rfl) ?_
      refine lv_imul hx hb dL_law_20 ?_
      refine vp_callSi (W.runS (g := F0 m 21 ls (.int ((2 : Int32) * z) :: .ref b :: .ref (ad 0) :: [])) (As := [.ref b, .int ((2 : Int32) * z)]) (rest := (.ref (ad 0) :: [])) ⟨hx, hb, hml, hown, htl⟩ (k_L_cell l b L xs hL ((2 : Int32) * z) (by rw [ez]; exact law_k0 e he)) (va_cwS 2 htl gL_law_L_cell rfl rfl rfl (by decide +kernel) ⟨Nat.le_of_ble_eq_true rfl, Nat.le_of_ble_eq_true rfl⟩) ⟨X_blind, fun U hU hW => ⟨rfl, by show va_X b L xs U U.heap; rw [hU]; exact va_X.moved hW.alike (hX.kept (hS.2.1 b hbl hbA))⟩⟩ rfl rfl hl.1 rfl (lv_room (Nat.le_of_ble_eq_true rfl)) dL_law_21 ⟨Nat.le_of_ble_eq_true rfl, Nat.le_of_ble_eq_true rfl⟩) (fun g1 _ => ?_)
      refine lv_aload_n hx hb dL_law_24 rfl (lv_at hl 2 rfl) ?_
      refine lv_iconst (v := (2 : Int32)) hx hb dL_law_25 (by decide) ?_
      refine lv_iload_n hx hb dL_law_26 rfl (lv_at hl 0 rfl) ?_
      refine lv_imul hx hb dL_law_27 ?_
      refine lv_iconst (v := (1 : Int32)) hx hb dL_law_28 (by decide) ?_
      refine lv_iadd hx hb dL_law_29 ?_
      refine vp_callSi (W.runS (g := F0 m 30 ls (.int ((2 : Int32) * z + 1) :: .ref b :: .int g1 :: .ref (ad 0) :: [])) (As := [.ref b, .int ((2 : Int32) * z + 1)]) (rest := (.int g1 :: .ref (ad 0) :: [])) ⟨hx, hb, hml, hown, htl⟩ (k_L_cell l b L xs hL ((2 : Int32) * z + 1) (by rw [ez]; exact law_k1 e he)) (va_cwS 2 htl gL_law_L_cell rfl rfl rfl (by decide +kernel) ⟨Nat.le_of_ble_eq_true rfl, Nat.le_of_ble_eq_true rfl⟩) ⟨X_blind, fun U hU hW => ⟨rfl, by show va_X b L xs U U.heap; rw [hU]; exact va_X.moved hW.alike (hX.kept (hS.2.1 b hbl hbA))⟩⟩ rfl rfl hl.1 rfl (lv_room (Nat.le_of_ble_eq_true rfl)) dL_law_30 ⟨Nat.le_of_ble_eq_true rfl, Nat.le_of_ble_eq_true rfl⟩) (fun g2 _ => ?_)
      obtain ⟨V1, hE, hI1⟩ := P_acts g1 g2 hI (by omega)
      refine rwS_iw (As := [.ref (ad 0), .int g1, .int g2]) (rest := []) ⟨hx, hb, hml, hown, htl⟩ (k_L_acts l D Y ad V g1 g2 (1, V1) hE.symm) (va_cwS 3 htl gL_law_L_acts rfl rfl rfl (by decide +kernel) ⟨Nat.le_of_ble_eq_true rfl, Nat.le_of_ble_eq_true rfl⟩) hP hK hN hZ hD hS rfl rfl hl.1 rfl (Nat.le_of_ble_eq_true rfl) dL_law_33 ⟨Nat.le_of_ble_eq_true rfl, Nat.le_of_ble_eq_true rfl⟩ (fun H locs hP hD hS => ?_)
      refine lv_if_eq (tgt := 46) hx hb dL_law_36 (by decide) (fun hc => absurd hc (show ¬ (1 : Int32) = 0 by decide)) (fun _ => ?_)
      refine lv_aload_n hx hb dL_law_39 rfl (lv_at hl 1 rfl) ?_
      refine roS_i (As := [.ref (ad 0)]) (rest := []) ⟨hx, hb, hml, hown, htl⟩ (k_L_told l D Y ad V1 1 (P_told hI1 (by omega)).symm) (va_cwS 1 htl gL_law_L_told rfl rfl rfl (by decide +kernel) ⟨Nat.le_of_ble_eq_true rfl, Nat.le_of_ble_eq_true rfl⟩) hP hK hN (hZ.at hS).F rfl hl.1 rfl (Nat.le_of_ble_eq_true rfl) dL_law_40 ⟨Nat.le_of_ble_eq_true rfl, Nat.le_of_ble_eq_true rfl⟩ ?_
      refine lv_if_ne (tgt := 48) hx hb dL_law_43 (by decide) (fun _ => ?_) (fun hc => absurd hc (by decide))
      obtain ⟨z1, ez1⟩ : ∃ y : Int32, y = z + 1 := ⟨_, rfl⟩
      refine lv_iinc (v := z1) (lv' := [(2, .int z1), (1, .ref (ad 0)), (0, .ref b)]) hx hb dL_law_48 hl (k := 0) rfl (by rw [ez1]; rfl) (by decide) rfl (fun ls hl => ?_)
      refine lv_goto (tgt := 10) hx hb dL_law_51 (by decide) ?_
      exact ih (e + 1) (by omega) (by omega) V1 (by rw [show 200 * (e + 1) = 200 * e + 200 by omega]; exact hI1) H locs ls hP hD hS (by rw [ez1, ez, nI_1] at hl; exact hl)

set_option maxHeartbeats 4000000 in
set_option maxRecDepth 100000 in
theorem tab_lo {s : State} {b : Nat} (hts : ∀ w ∈ lw_tbl, w.before #[Value.ref b] s = true) (hgv : (Jvm.Cond.and given_1 narrow_1).before #[Value.ref b] s = true) : sx_T "ShiftMaps$State" "LOWER_CLUTCH" 5 tb_lo (fun q : Nat => s.heap.size ≤ q) s s.heap := by
  have hs := flat_of_before _ hgv
  have hA : ∀ a : Nat, a < s.heap.size → ¬ (fun q : Nat => s.heap.size ≤ q) a := fun a h => Nat.not_le.mpr h
  obtain ⟨t, h1, h2⟩ := va_Tof (tm := .static "ShiftMaps$State" "LOWER_CLUTCH" "[I") (ty := .int) (N := 5) (f := fun j => .int (tb_lo j)) (by decide) (hs (Cond.arrayOf (.static "ShiftMaps$State" "LOWER_CLUTCH" "[I") .int) (by decide +kernel)) (va_eqt (z := 5) (hs (Cond.eq (.length (.static "ShiftMaps$State" "LOWER_CLUTCH" "[I")) (.int 5)) (by decide +kernel))) (fun j hj => by
    have hj2 : j = 0 ∨ j = 1 ∨ j = 2 ∨ j = 3 ∨ j = 4 := by omega
    rcases hj2 with rfl | rfl | rfl | rfl | rfl <;> exact va_eqt (hs _ (by decide +kernel))) hA
  exact ⟨t, va_Zof (hts (.laysStatic "ShiftMaps$State" "LOWER_CLUTCH" "[I") (List.mem_of_getElem? (i := 210) rfl)) (hts (.initialized "ShiftMaps$State") (List.mem_of_getElem? (i := 19) rfl)) h1 hA, h2⟩

set_option maxHeartbeats 4000000 in
set_option maxRecDepth 100000 in
theorem tab_hi {s : State} {b : Nat} (hts : ∀ w ∈ lw_tbl, w.before #[Value.ref b] s = true) (hgv : (Jvm.Cond.and given_1 narrow_1).before #[Value.ref b] s = true) : sx_T "ShiftMaps$State" "HIGHER_CLUTCH" 5 tb_hi (fun q : Nat => s.heap.size ≤ q) s s.heap := by
  have hs := flat_of_before _ hgv
  have hA : ∀ a : Nat, a < s.heap.size → ¬ (fun q : Nat => s.heap.size ≤ q) a := fun a h => Nat.not_le.mpr h
  obtain ⟨t, h1, h2⟩ := va_Tof (tm := .static "ShiftMaps$State" "HIGHER_CLUTCH" "[I") (ty := .int) (N := 5) (f := fun j => .int (tb_hi j)) (by decide) (hs (Cond.arrayOf (.static "ShiftMaps$State" "HIGHER_CLUTCH" "[I") .int) (by decide +kernel)) (va_eqt (z := 5) (hs (Cond.eq (.length (.static "ShiftMaps$State" "HIGHER_CLUTCH" "[I")) (.int 5)) (by decide +kernel))) (fun j hj => by
    have hj2 : j = 0 ∨ j = 1 ∨ j = 2 ∨ j = 3 ∨ j = 4 := by omega
    rcases hj2 with rfl | rfl | rfl | rfl | rfl <;> exact va_eqt (hs _ (by decide +kernel))) hA
  exact ⟨t, va_Zof (hts (.laysStatic "ShiftMaps$State" "HIGHER_CLUTCH" "[I") (List.mem_of_getElem? (i := 212) rfl)) (hts (.initialized "ShiftMaps$State") (List.mem_of_getElem? (i := 19) rfl)) h1 hA, h2⟩

set_option maxHeartbeats 4000000 in
set_option maxRecDepth 100000 in
theorem tab_gr {s : State} {b : Nat} (hts : ∀ w ∈ lw_tbl, w.before #[Value.ref b] s = true) (hgv : (Jvm.Cond.and given_1 narrow_1).before #[Value.ref b] s = true) : sx_T "ShiftMaps$DriveText" "GREATEST" 3 tb_gr (fun q : Nat => s.heap.size ≤ q) s s.heap := by
  have hs := flat_of_before _ hgv
  have hA : ∀ a : Nat, a < s.heap.size → ¬ (fun q : Nat => s.heap.size ≤ q) a := fun a h => Nat.not_le.mpr h
  obtain ⟨t, h1, h2⟩ := va_Tof (tm := .static "ShiftMaps$DriveText" "GREATEST" "[I") (ty := .int) (N := 3) (f := fun j => .int (tb_gr j)) (by decide) (hs (Cond.arrayOf (.static "ShiftMaps$DriveText" "GREATEST" "[I") .int) (by decide +kernel)) (va_eqt (z := 3) (hs (Cond.eq (.length (.static "ShiftMaps$DriveText" "GREATEST" "[I")) (.int 3)) (by decide +kernel))) (fun j hj => by
    have hj2 : j = 0 ∨ j = 1 ∨ j = 2 := by omega
    rcases hj2 with rfl | rfl | rfl <;> exact va_eqt (hs _ (by decide +kernel))) hA
  exact ⟨t, va_Zof (hts (.laysStatic "ShiftMaps$DriveText" "GREATEST" "[I") (List.mem_of_getElem? (i := 569) rfl)) (hts (.initialized "ShiftMaps$DriveText") (List.mem_of_getElem? (i := 24) rfl)) h1 hA, h2⟩

set_option maxHeartbeats 4000000 in
set_option maxRecDepth 100000 in
theorem tab_mp {s : State} {b : Nat} (hts : ∀ w ∈ lw_tbl, w.before #[Value.ref b] s = true) (hgv : (Jvm.Cond.and given_1 narrow_1).before #[Value.ref b] s = true) : sx_T "ShiftMaps$Maps" "AT_FIRST" 20 tb_mp (fun q : Nat => s.heap.size ≤ q) s s.heap := by
  have hs := flat_of_before _ hgv
  have hA : ∀ a : Nat, a < s.heap.size → ¬ (fun q : Nat => s.heap.size ≤ q) a := fun a h => Nat.not_le.mpr h
  obtain ⟨t, h1, h2⟩ := va_Tof (tm := .static "ShiftMaps$Maps" "AT_FIRST" "[I") (ty := .int) (N := 20) (f := fun j => .int (tb_mp j)) (by decide) (hs (Cond.arrayOf (.static "ShiftMaps$Maps" "AT_FIRST" "[I") .int) (by decide +kernel)) (va_eqt (z := 20) (hs (Cond.eq (.length (.static "ShiftMaps$Maps" "AT_FIRST" "[I")) (.int 20)) (by decide +kernel))) (fun j hj => by
    have hj2 : j = 0 ∨ j = 1 ∨ j = 2 ∨ j = 3 ∨ j = 4 ∨ j = 5 ∨ j = 6 ∨ j = 7 ∨ j = 8 ∨ j = 9 ∨ j = 10 ∨ j = 11 ∨ j = 12 ∨ j = 13 ∨ j = 14 ∨ j = 15 ∨ j = 16 ∨ j = 17 ∨ j = 18 ∨ j = 19 := by omega
    rcases hj2 with rfl | rfl | rfl | rfl | rfl | rfl | rfl | rfl | rfl | rfl | rfl | rfl | rfl | rfl | rfl | rfl | rfl | rfl | rfl | rfl <;> exact va_eqt (hs _ (by decide +kernel))) hA
  exact ⟨t, va_Zof (hts (.laysStatic "ShiftMaps$Maps" "AT_FIRST" "[I") (List.mem_of_getElem? (i := 47) rfl)) (hts (.initialized "ShiftMaps$Maps") (List.mem_of_getElem? (i := 20) rfl)) h1 hA, h2⟩

set_option maxHeartbeats 4000000 in
set_option maxRecDepth 100000 in
theorem tab_st {s : State} {b : Nat} (hts : ∀ w ∈ lw_tbl, w.before #[Value.ref b] s = true) (hgv : (Jvm.Cond.and given_1 narrow_1).before #[Value.ref b] s = true) : sx_T "ShiftMaps$State" "SETTINGS_AT_FIRST" 4 tb_st (fun q : Nat => s.heap.size ≤ q) s s.heap := by
  have hs := flat_of_before _ hgv
  have hA : ∀ a : Nat, a < s.heap.size → ¬ (fun q : Nat => s.heap.size ≤ q) a := fun a h => Nat.not_le.mpr h
  obtain ⟨t, h1, h2⟩ := va_Tof (tm := .static "ShiftMaps$State" "SETTINGS_AT_FIRST" "[I") (ty := .int) (N := 4) (f := fun j => .int (tb_st j)) (by decide) (hs (Cond.arrayOf (.static "ShiftMaps$State" "SETTINGS_AT_FIRST" "[I") .int) (by decide +kernel)) (va_eqt (z := 4) (hs (Cond.eq (.length (.static "ShiftMaps$State" "SETTINGS_AT_FIRST" "[I")) (.int 4)) (by decide +kernel))) (fun j hj => by
    have hj2 : j = 0 ∨ j = 1 ∨ j = 2 ∨ j = 3 := by omega
    rcases hj2 with rfl | rfl | rfl | rfl <;> exact va_eqt (hs _ (by decide +kernel))) hA
  exact ⟨t, va_Zof (hts (.laysStatic "ShiftMaps$State" "SETTINGS_AT_FIRST" "[I") (List.mem_of_getElem? (i := 71) rfl)) (hts (.initialized "ShiftMaps$State") (List.mem_of_getElem? (i := 19) rfl)) h1 hA, h2⟩

theorem nz_start {s : State} {b : Nat} (hts : ∀ w ∈ lw_tbl, w.before #[Value.ref b] s = true) : NZ s := ⟨va_Nw.of (A := #[Value.ref b]) rfl (hts _ (List.mem_of_getElem? (i := 76) rfl)), va_Nw.of (A := #[Value.ref b]) rfl (hts _ (List.mem_of_getElem? (i := 78) rfl)), va_Nw.of (A := #[Value.ref b]) rfl (hts _ (List.mem_of_getElem? (i := 82) rfl)), va_Nw.of (A := #[Value.ref b]) rfl (hts _ (List.mem_of_getElem? (i := 84) rfl)), va_Nw.of (A := #[Value.ref b]) rfl (hts _ (List.mem_of_getElem? (i := 86) rfl)), va_Nw.of (A := #[Value.ref b]) rfl (hts _ (List.mem_of_getElem? (i := 88) rfl)), va_Nw.of (A := #[Value.ref b]) rfl (hts _ (List.mem_of_getElem? (i := 90) rfl)), va_Nw.of (A := #[Value.ref b]) rfl (hts _ (List.mem_of_getElem? (i := 55) rfl)), va_Nw.of (A := #[Value.ref b]) rfl (hts _ (List.mem_of_getElem? (i := 137) rfl))⟩
theorem arr_of {s : State} {args : Array Value} {ty : FieldType} (h : (Cond.arrayClass ty).before args s = true) : ∃ cA : ClassId, ArrOfT s cA ty ∧ s.vm.findClass ("[" ++ ty.toString) = some cA := by
  obtain ⟨c, k, comp, h1, h2, h3⟩ := Cond.arrayClass_spec h
  exact ⟨c, fun n z => ⟨fun k h => (by cases h), k, h2, comp, h3⟩, h1⟩
theorem arr_ofQ {s : State} {C : String} (h : va_AO C s) : ∃ cA : ClassId, ArrOfT s cA (.object C) ∧ va_RA s cA (.object C) := by
  obtain ⟨comp, c, k, h1, h2, h3, h4, h5⟩ := Cond.arrayOver_spec h
  exact ⟨c, fun n z => ⟨fun k h => (by cases h), k, h3, comp, h4⟩, k, comp, h3, h4, h1, h5⟩

set_option maxHeartbeats 4000000 in
set_option maxRecDepth 100000 in
theorem k_start {s : State} {b : Nat} (hts : ∀ w ∈ lw_tbl, w.before #[Value.ref b] s = true) (hO : va_AO "ShiftMaps$State" s) : ∃ (D : va_G) (Y : Nat → ClassId), va_K D vwCl (tyL Y) s := by

  obtain ⟨c0, i0, hk0⟩ := u_known (C := RX0) (T := TX0) (N := 7) (n := 7) hts inX0 (hts (.instantiable RX0 7) (List.mem_of_getElem? (i := 136) rfl))
  obtain ⟨c1, i1, hk1⟩ := u_known (C := RX1) (T := TX1) (N := 3) (n := 3) hts inX1 (hts (.instantiable RX1 3) (List.mem_of_getElem? (i := 117) rfl))
  obtain ⟨c2, i2, hk2⟩ := u_known (C := RX2) (T := TX2) (N := 3) (n := 3) hts inX2 (hts (.instantiable RX2 3) (List.mem_of_getElem? (i := 54) rfl))
  obtain ⟨c3, i3, hk3⟩ := u_known (C := RX3) (T := TX3) (N := 1) (n := 1) hts inX3 (hts (.instantiable RX3 1) (List.mem_of_getElem? (i := 41) rfl))
  obtain ⟨c4, i4, hk4⟩ := u_known (C := RX4) (T := TX4) (N := 11) (n := 11) hts inX4 (hts (.instantiable RX4 11) (List.mem_of_getElem? (i := 35) rfl))
  obtain ⟨c5, i5, hk5⟩ := u_known (C := RX5) (T := TX5) (N := 6) (n := 6) hts inX5 (hts (.instantiable RX5 6) (List.mem_of_getElem? (i := 27) rfl))
  obtain ⟨a0, ha0, hb0⟩ := arr_of (hts (.arrayClass .char) (List.mem_of_getElem? (i := 163) rfl))
  obtain ⟨a1, ha1, hb1⟩ := arr_of (hts (.arrayClass .float) (List.mem_of_getElem? (i := 52) rfl))
  obtain ⟨a2, ha2, hb2⟩ := arr_of (hts (.arrayClass .int) (List.mem_of_getElem? (i := 69) rfl))
  obtain ⟨a3, ha3, hb3⟩ := arr_ofQ hO
  refine ⟨(fun k => ([c0, c1, c2, c3, c4, c5] : List ClassId).getD k c0, fun k => ([i0, i1, i2, i3, i4, i5] : List (Nat → Nat)).getD k i0), fun k => ([a0, a1, a2, a3] : List ClassId).getD k a0, fun k q hq => ?_, fun k q hq => ?_⟩
  · match k, hq with
    | 0, hq => cases hq; exact hk0
    | 1, hq => cases hq; exact hk1
    | 2, hq => cases hq; exact hk2
    | 3, hq => cases hq; exact hk3
    | 4, hq => cases hq; exact hk4
    | 5, hq => cases hq; exact hk5
    | k + 6, hq => simp [vwCl] at hq
  · match k, hq with
    | 0, hq => cases hq; exact ⟨ha0, hb0⟩
    | 1, hq => cases hq; exact ⟨ha1, hb1⟩
    | 2, hq => cases hq; exact ⟨ha2, hb2⟩
    | 3, hq => cases hq; exact ⟨ha3, hb3⟩
    | k + 4, hq => simp [tyL] at hq
set_option maxHeartbeats 4000000 in
set_option maxRecDepth 100000 in
/-- THE LAW, from its entry -/
theorem whole_start {p : Program} {e : Env} {s : State} {m : MethodId} {below : List Frame} {meth : Method} {c : Code} (l : Launch) (hflags : l.flags = flags0) {b L : Nat} {xs : Nat → Int32} (hL : L ≤ 260) (C0 : lw_At p s m meth c b L xs) : W p l e room_1 s m #[Value.ref b] below meth c s.heap [] 0 0 (lw_Z below #[Value.ref b] s) (entryFrame m ([Value.ref b] : List Value).toArray 3) := by
  obtain ⟨hx, hb, hr, hml, hown, hts, hX, hbl, hlocks, hgv⟩ := id C0
  have htl : ∀ w ∈ wsL_law, w.before #[Value.ref b] s = true := fun w h => hts w (wsL_law_in w h)
  have hA : ∀ q : Nat, s.heap.size ≤ q → (fun q : Nat => s.heap.size ≤ q) q := fun _ h => h
  have hO : va_AO "ShiftMaps$State" s := va_AO.of (hts (.arrayOver (.object "ShiftMaps$State")) (List.mem_of_getElem? (i := 123) rfl))
  obtain ⟨D, Y, hK⟩ := k_start hts hO
  have hN := nz_start hts
  have hZ : SZ (fun q : Nat => s.heap.size ≤ q) s s.heap := ⟨tab_lo hts hgv, tab_hi hts hgv, tab_gr hts hgv, tab_mp hts hgv, tab_st hts hgv⟩
  have hS : va_S (fun q : Nat => s.heap.size ≤ q) s.heap s.heap [] := va_S.rf
  have hP : va_P D vwCl [] s.heap := fun k q h => by simp at h
  have hD : va_D (fun q : Nat => s.heap.size ≤ q) [] := ⟨fun i j p q h => by simp at h, fun k q h => by simp at h⟩
  have hl := lv_entry ([.ref b]) (n := 3) (Nat.le_of_ble_eq_true rfl)
  rw [lg_entry_eq]
  generalize (lg_sl ([.ref b]) ++ List.replicate (3 - (lg_sl ([.ref b])).length) Slot.unset).toArray = ls at hl ⊢
  have hl : lv_has ls 3 [(0, .ref b)] := hl
  refine va_new (ci := 5) (fs := [.null, .null, .null, .null, .null, .int 0]) (C := RX5) (T := TX5) (N := 6) hx hb htl inlX5 tyX5 tyX5_ok hown (htl (.classLink RL 39 RX5) (List.mem_of_getElem? (i := 0) rfl)) (htl (.instantiable RX5 6) (List.mem_of_getElem? (i := 1) rfl)) (htl (.initialized RX5) (List.mem_of_getElem? (i := 2) rfl)) hK hP hD hS hA rfl (fun j hj => by rcases (show j = 0 ∨ j = 1 ∨ j = 2 ∨ j = 3 ∨ j = 4 ∨ j = 5 by omega) with rfl | rfl | rfl | rfl | rfl | rfl <;> rfl) (Nat.le_of_ble_eq_true rfl) (Nat.le_of_ble_eq_true rfl) dL_law_0 (fun q0 H hP hD hS => ?_)
  have hP : va_P D vwCl [(q0, .inr (5, [.null, .null, .null, .null, .null, .int 0]))] H := hP
  have hD : va_D (fun q : Nat => s.heap.size ≤ q) [(q0, .inr (5, [.null, .null, .null, .null, .null, .int 0]))] := hD
  refine W.widen (k := 1) (n := 6) (Nat.le_of_ble_eq_true rfl) (Nat.le_of_ble_eq_true rfl) ?_
  refine lv_dup hx hb dL_law_3 rfl ?_
  refine in_go (Wf := fun u : Nat → Nat => (carW Y (fun i => if i = 0 then q0 else u i) Car0)) (Wr := []) (fun hp => va_runI (As := []) (rest := [.ref q0]) ⟨hx, hb, hml, hown, htl⟩ (k_X5_init l D Y q0 H.size) (cwI 0 htl gL_law_X5_init rfl rfl rfl (htl (.initialized RX5) (List.mem_of_getElem? (i := 2) rfl)) (htl (.methodLink RL 146 yX5_init) (List.mem_of_getElem? (i := 3) rfl)) (htl (.instanceMethod yX5_init) (List.mem_of_getElem? (i := 4) rfl)) rfl (by decide +kernel) ⟨Nat.le_of_ble_eq_true rfl, Nat.le_of_ble_eq_true rfl⟩) hp rfl rfl hl.1 rfl (lv_room (Nat.le_of_ble_eq_true rfl)) dL_law_4 ⟨Nat.le_of_ble_eq_true rfl, Nat.le_of_ble_eq_true rfl⟩) hP hK hN hO hZ hD hS hA [0] [] rfl rfl (by decide) (by decide) (fun u H locs hP hD hS => ?_)
  obtain ⟨ad, ead⟩ : ∃ ad : Nat → Nat, ad = fun i => if i = 0 then q0 else u i := ⟨_, rfl⟩
  have e0 : q0 = ad 0 := by rw [ead]; rfl
  rw [e0]
  have hP : va_P D vwCl (carW Y ad Car0) H := by rw [ead]; exact hP
  have hD : va_D (fun q : Nat => s.heap.size ≤ q) (carW Y ad Car0) := by rw [ead]; exact hD
  refine W.widen (k := 55) (n := 839) (Nat.le_of_ble_eq_true rfl) (Nat.le_of_ble_eq_true rfl) ?_
  refine lv_astore_n (lv' := [(1, .ref (ad 0)), (0, .ref b)]) hx hb dL_law_7 rfl hl (by decide) rfl (fun ls hl => ?_)
  refine lv_iconst (v := (0 : Int32)) hx hb dL_law_8 (by decide) ?_
  refine lv_istore_n (lv' := [(2, .int (0 : Int32)), (1, .ref (ad 0)), (0, .ref b)]) hx hb dL_law_9 rfl hl (by decide) rfl (fun ls hl => ?_)
  exact law_loop l hL C0 D Y ad hK hN hZ 61 0 (by omega) (by omega) Car0 P_start H locs ls hP hD hS hl
