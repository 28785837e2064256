/-! own words: the static tables, worlds of methods, calls -/
def tb_lo : Nat → Int32 := fun k => if k = 4 then 1 else 0
def tb_hi : Nat → Int32 := fun k => if k = 0 then 4 else if k = 1 then 3 else if k = 2 then 2 else if k = 3 then 1 else 2
def tb_gr : Nat → Int32 := fun k => if k = 0 then 300 else if k = 1 then 100 else 99
def tb_st : Nat → Int32 := fun k => if k = 0 then 5 else if k = 1 then 1 else if k = 2 then 20 else 30
def tb_mp : Nat → Int32 := fun k => ([15, 30, 45, 60, 0, 40, 75, 110, 150, 0, 5, 8, 10, 12, 0, 50, 90, 130, 180, 300] : List Int32).getD k 0
def sx_T (C n : String) (N : Nat) (f : Nat → Int32) (A : Nat → Prop) (U : State) (H : Heap) : Prop := ∃ t : Nat, va_Z C n "[I" (.ref t) A U H ∧ va_T .int t N (fun j => .int (f j)) A U H
theorem sx_T.moved {C n : String} {N : Nat} {f : Nat → Int32} {A : Nat → Prop} {u U : State} {H : Heap} (hvm : u.vm.Alike U.vm) (h : sx_T C n N f A u H) : sx_T C n N f A U H := by
  obtain ⟨t, h1, h2⟩ := h
  exact ⟨t, va_Z.moved hvm h1, va_T.moved hvm h2⟩
theorem sx_T.kept {C n : String} {N : Nat} {f : Nat → Int32} {A : Nat → Prop} {U : State} {H H1 : Heap} (h : sx_T C n N f A U H) (hq : ∀ a : Nat, a < H.size → ¬ A a → H1[a]? = H[a]?) : sx_T C n N f A U H1 := by
  obtain ⟨t, h1, h2⟩ := h
  exact ⟨t, va_Z.kept h1 hq, va_T.kept h2 hq⟩
theorem sx_T.narrow {C n : String} {N : Nat} {f : Nat → Int32} {A B : Nat → Prop} {U : State} {H : Heap} (h : sx_T C n N f A U H) (hAB : ∀ q, B q → A q) : sx_T C n N f B U H := by
  obtain ⟨t, h1, h2⟩ := h
  exact ⟨t, va_Z.narrow h1 hAB, va_T.narrow h2 hAB⟩
def SZ (A : Nat → Prop) (U : State) (H : Heap) : Prop := sx_T "ShiftMaps$State" "LOWER_CLUTCH" 5 tb_lo A U H ∧ sx_T "ShiftMaps$State" "HIGHER_CLUTCH" 5 tb_hi A U H ∧ sx_T "ShiftMaps$DriveText" "GREATEST" 3 tb_gr A U H ∧ sx_T "ShiftMaps$Maps" "AT_FIRST" 20 tb_mp A U H ∧ sx_T "ShiftMaps$State" "SETTINGS_AT_FIRST" 4 tb_st A U H
theorem SZ.moved {A : Nat → Prop} {u U : State} {H : Heap} (hvm : u.vm.Alike U.vm) (h : SZ A u H) : SZ A U H := ⟨h.1.moved hvm, h.2.1.moved hvm, h.2.2.1.moved hvm, h.2.2.2.1.moved hvm, h.2.2.2.2.moved hvm⟩
theorem SZ.kept {A : Nat → Prop} {U : State} {H H1 : Heap} (h : SZ A U H) (hq : ∀ a : Nat, a < H.size → ¬ A a → H1[a]? = H[a]?) : SZ A U H1 := ⟨h.1.kept hq, h.2.1.kept hq, h.2.2.1.kept hq, h.2.2.2.1.kept hq, h.2.2.2.2.kept hq⟩
theorem SZ.narrow {A B : Nat → Prop} {U : State} {H : Heap} (h : SZ A U H) (hAB : ∀ q, B q → A q) : SZ B U H := ⟨h.1.narrow hAB, h.2.1.narrow hAB, h.2.2.1.narrow hAB, h.2.2.2.1.narrow hAB, h.2.2.2.2.narrow hAB⟩
theorem SZ.F {A : Nat → Prop} {U : State} {H : Heap} (h : SZ A U H) : SZ (fun _ => False) U H := h.narrow (fun _ q => q.elim)
theorem SZ.at {A : Nat → Prop} {s : State} {H : Heap} {locs : List Loc} (h : SZ A s s.heap) (hS : va_S A s.heap H locs) : SZ A s H := h.kept (fun a h1 h2 => hS.2.1 a h1 h2)
/-- a value that gets a name -/
def bnd {α : Type} {β : Type} (x : α) (f : α → β) : β := f x
theorem nmv {α β : Type} {R : β} {T : α → β} {x : α} {G : Prop} (h : R = bnd x T) (k : ∀ v : α, v = x → R = T v → G) : G := k x rfl h
theorem bdv {α β : Type} {R : β} {T : α → Option β} {x : Option α} {G : Prop} (h : some R = x.bind T) (k : ∀ v : α, some v = x → some R = T v → G) : G := by
  cases x with
  | none => exact absurd h (fun q => by simp at q)
  | some v => exact k v rfl h
theorem gdv {β : Type} {R : β} {P : Prop} [Decidable P] {T : Option β} {G : Prop} (h : some R = if P then T else none) (k : P → some R = T → G) : G := by
  by_cases q : P
  · exact k q (h.trans (if_pos q))
  · exact absurd (h.trans (if_neg q)) (fun z => by cases z)
theorem in_of {x y : Int32} {n : Nat} (hy : Int32.ofNat n = y) (hn : n < 2 ^ 31) (h0 : ¬ x < 0) (h1 : ¬ y ≤ x) : vp_in x n := by
  subst hy
  rw [vp_in_iff]
  have e : (Int32.ofNat n).toInt = (n : Int) := nI_toInt hn
  rw [Int32.lt_iff_toInt_lt, Int32.toInt_zero] at h0
  rw [Int32.le_iff_toInt_le, e] at h1
  omega
theorem in_of2 {x y : Int32} {n : Nat} (hy : Int32.ofNat n = y) (hn : n < 2 ^ 31) (h0 : ¬ x < 0) (h1 : x < y) : vp_in x n := by
  subst hy
  rw [vp_in_iff]
  have e : (Int32.ofNat n).toInt = (n : Int) := nI_toInt hn
  rw [Int32.lt_iff_toInt_lt, Int32.toInt_zero] at h0
  rw [Int32.lt_iff_toInt_lt, e] at h1
  omega
theorem in_of3 {x : Int32} {n : Nat} (hn : n < 2 ^ 31) (h : 0 ≤ x.toInt ∧ x.toInt < n) : vp_in x n := vp_in_iff.mpr h
theorem va_D_adr {A : Nat → Prop} {w w' : va_W} (h : va_D A w) (e : w'.map (fun q => q.1) = w.map (fun q => q.1)) : va_D A w' := by
  have key : ∀ (k : Nat) (q : Nat × va_E), w'[k]? = some q → ∃ q0 : Nat × va_E, w[k]? = some q0 ∧ q0.1 = q.1 := by
    intro k q hk
    have h1 : (w'.map (fun q => q.1))[k]? = some q.1 := by rw [List.getElem?_map, hk]; rfl
    rw [e, List.getElem?_map] at h1
    cases h2 : w[k]? with
    | none => rw [h2] at h1; cases h1
    | some q0 => rw [h2] at h1; exact ⟨q0, rfl, Option.some.inj h1⟩
  refine ⟨fun i j x y hi hj hxy => ?_, fun k q hk => ?_⟩
  · obtain ⟨x0, a1, a2⟩ := key i x hi
    obtain ⟨y0, b1, b2⟩ := key j y hj
    exact h.1 i j x0 y0 a1 b1 (a2.trans (hxy.trans b2.symm))
  · obtain ⟨q0, a1, a2⟩ := key k q hk
    rw [← a2]
    exact h.2 k q0 a1
/-- the places that a world's cells are -/
def wA (ws : va_W) : Nat → Prop := fun q => ∃ (k : Nat) (e : va_E), ws[k]? = some (q, e)
theorem wA_in {A : Nat → Prop} {ws : va_W} (h : va_D A ws) : ∀ q, wA ws q → A q := fun q ⟨k, e, hk⟩ => h.2 k (q, e) hk
theorem va_D_own {A : Nat → Prop} {ws : va_W} (h : va_D A ws) : va_D (wA ws) ws := ⟨h.1, fun k q hk => ⟨k, q.2, hk⟩⟩
/-- some cells of a world by others at the same places -/
def spl (js : List (Nat ⊕ Nat)) (W W1 : va_W) : va_W := js.filterMap (fun j => match j with | .inl k => W[k]? | .inr k => W1[k]?)
theorem va_P_spl {D : va_G} {cl : List vw_C} {A : Nat → Prop} {W Wc W1 W' : va_W} {H H1 : Heap} (hP : va_P D cl W H) (hD : va_D A W) (isC : List Nat) (hC : isC.map (fun i => W[i]?) = Wc.map some) (hk : ∀ q : Nat, q < H.size → ¬ wA Wc q → H1[q]? = H[q]?) (hP1 : va_P D cl W1 H1) (js : List (Nat ⊕ Nat)) (hjs : ∀ j ∈ js, ∀ k : Nat, j = .inl k → k ∉ isC) (hs : spl js W W1 = W') : va_P D cl W' H1 := by
  intro k q hq
  subst hs
  obtain ⟨j, hj, hjq⟩ := List.mem_filterMap.mp (List.mem_of_getElem? hq)
  cases j with
  | inr a => exact hP1 a q hjq
  | inl a =>
    have hni := hjs _ hj a rfl
    have hWa : W[a]? = some q := hjq
    refine (hP a q hWa).kept (hk q.1 (hP a q hWa).lt (fun hz => ?_))
    obtain ⟨k2, e, hz⟩ := hz
    have h1 : (isC.map (fun i => W[i]?))[k2]? = some (some (q.1, e)) := by rw [hC, List.getElem?_map, hz]; rfl
    rw [List.getElem?_map] at h1
    cases hi : isC[k2]? with
    | none => rw [hi] at h1; cases h1
    | some i =>
      rw [hi] at h1
      have h2 : W[i]? = some (q.1, e) := Option.some.inj h1
      have hai := hD.1 a i q (q.1, e) hWa h2 rfl
      subst hai
      exact hni (List.mem_of_getElem? hi)
abbrev tyL (Y : Nat → ClassId) : List (ClassId × FieldType) := [(Y 0, .char), (Y 1, .float), (Y 2, .int), (Y 3, .object "ShiftMaps$State")]
/-- the links of nest mates -/
def NZ (U : State) : Prop := va_Nw (.fieldLinkNest RX5 54 RX4 "maps" "LShiftMaps$Maps;" RX5) U ∧ va_Nw (.fieldLinkNest RX5 187 RX4 "log" "LShiftMaps$Log;" RX5) U ∧ va_Nw (.fieldLinkNest RX5 88 RX4 "gear" "I" RX5) U ∧ va_Nw (.fieldLinkNest RX5 149 RX4 "target" "I" RX5) U ∧ va_Nw (.fieldLinkNest RX5 152 RX4 "done" "I" RX5) U ∧ va_Nw (.fieldLinkNest RX5 155 RX4 "held" "I" RX5) U ∧ va_Nw (.fieldLinkNest RX5 85 RX4 "handMode" "Z" RX5) U ∧ va_Nw (.methodLinkNest RX4 20 yX2_init RX5) U ∧ va_Nw (.methodLinkNest RX5 31 yX0_init RX5) U
theorem NZ.warm {s U : State} (hW : s.WarmedH U.vm) (h : NZ s) : NZ U := ⟨va_Nw.warmF hW h.1, va_Nw.warmF hW h.2.1, va_Nw.warmF hW h.2.2.1, va_Nw.warmF hW h.2.2.2.1, va_Nw.warmF hW h.2.2.2.2.1, va_Nw.warmF hW h.2.2.2.2.2.1, va_Nw.warmF hW h.2.2.2.2.2.2.1, va_Nw.warmM hW h.2.2.2.2.2.2.2.1, va_Nw.warmM hW h.2.2.2.2.2.2.2.2⟩
theorem NZ.same {s U : State} (e : s.vm = U.vm) (h : NZ s) : NZ U := ⟨va_Nw.same rfl e h.1, va_Nw.same rfl e h.2.1, va_Nw.same rfl e h.2.2.1, va_Nw.same rfl e h.2.2.2.1, va_Nw.same rfl e h.2.2.2.2.1, va_Nw.same rfl e h.2.2.2.2.2.1, va_Nw.same rfl e h.2.2.2.2.2.2.1, va_Nw.same rfl e h.2.2.2.2.2.2.2.1, va_Nw.same rfl e h.2.2.2.2.2.2.2.2⟩
theorem NZ.n54 {U : State} (h : NZ U) : va_Nw (.fieldLinkNest RX5 54 RX4 "maps" "LShiftMaps$Maps;" RX5) U := h.1
theorem NZ.n187 {U : State} (h : NZ U) : va_Nw (.fieldLinkNest RX5 187 RX4 "log" "LShiftMaps$Log;" RX5) U := h.2.1
theorem NZ.n88 {U : State} (h : NZ U) : va_Nw (.fieldLinkNest RX5 88 RX4 "gear" "I" RX5) U := h.2.2.1
theorem NZ.n149 {U : State} (h : NZ U) : va_Nw (.fieldLinkNest RX5 149 RX4 "target" "I" RX5) U := h.2.2.2.1
theorem NZ.n152 {U : State} (h : NZ U) : va_Nw (.fieldLinkNest RX5 152 RX4 "done" "I" RX5) U := h.2.2.2.2.1
theorem NZ.n155 {U : State} (h : NZ U) : va_Nw (.fieldLinkNest RX5 155 RX4 "held" "I" RX5) U := h.2.2.2.2.2.1
theorem NZ.n85 {U : State} (h : NZ U) : va_Nw (.fieldLinkNest RX5 85 RX4 "handMode" "Z" RX5) U := h.2.2.2.2.2.2.1
theorem NZ.ni2 {U : State} (h : NZ U) : va_Nw (.methodLinkNest RX4 20 yX2_init RX5) U := h.2.2.2.2.2.2.2.1
theorem NZ.ni0 {U : State} (h : NZ U) : va_Nw (.methodLinkNest RX5 31 yX0_init RX5) U := h.2.2.2.2.2.2.2.2
/-- the start of a method that only reads -/
def PR (D : va_G) (Y : Nat → ClassId) (ws : va_W) (U : State) : Prop := va_P D vwCl ws U.heap ∧ va_K D vwCl (tyL Y) U ∧ NZ U ∧ SZ (fun _ => False) U U.heap
/-- the start of a method that writes into its world -/
def PW (D : va_G) (Y : Nat → ClassId) (ws : va_W) (U : State) : Prop := va_P D vwCl ws U.heap ∧ va_K D vwCl (tyL Y) U ∧ NZ U ∧ SZ (wA ws) U U.heap ∧ va_D (wA ws) ws
theorem PR_blind {D : va_G} {Y : Nat → ClassId} {ws : va_W} {av : List Value} : FrameBlind (va_Pc av (PR D Y ws)) := fun a U g mk h => ⟨h.1, h.2.1, va_K.moved (u := U) (U := U.calling g mk a) (Vm.Alike.refl U.vm) h.2.2.1, NZ.same (s := U) (U := U.calling g mk a) rfl h.2.2.2.1, SZ.moved (u := U) (U := U.calling g mk a) (Vm.Alike.refl U.vm) h.2.2.2.2⟩
theorem PW_blind {D : va_G} {Y : Nat → ClassId} {ws : va_W} {av : List Value} : FrameBlind (va_Pc av (PW D Y ws)) := fun a U g mk h => ⟨h.1, h.2.1, va_K.moved (u := U) (U := U.calling g mk a) (Vm.Alike.refl U.vm) h.2.2.1, NZ.same (s := U) (U := U.calling g mk a) rfl h.2.2.2.1, SZ.moved (u := U) (U := U.calling g mk a) (Vm.Alike.refl U.vm) h.2.2.2.2.1, h.2.2.2.2.2⟩
section SXC
variable {p : Program} {l : Launch} {e : Env} {R : Room} {s : State} {m : MethodId} {args : Array Value} {below : List Frame} {meth : Method} {c : Code} {H : Heap} {locs : List Loc} {cells slots : Nat} {Q : State → Prop}
variable {y : MethodName} {bytes cc : ByteArray} {maxL nL n index : Nat} {ret : Option FieldType} {ws : List Cond} {rm : Room} {Ts : List Cond} {own C : String} {b : Addr} {As rest st0 : List Value} {pc : Nat} {ls : Array Slot}
variable {D : va_G} {Y : Nat → ClassId} {W0 Wc W1 W' : va_W} {A : Nat → Prop}
theorem PR_at (hP : va_P D vwCl Wc H) (hK : va_K D vwCl (tyL Y) s) (hN : NZ s) (hZ : SZ (fun _ => False) s H) (U : State) (hU : U.heap = H) (hW : s.WarmedH U.vm) : PR D Y Wc U := ⟨by rw [hU]; exact hP, va_K.moved hW.alike hK, NZ.warm hW hN, by rw [hU]; exact SZ.moved hW.alike hZ⟩
theorem PW_at (hP : va_P D vwCl Wc H) (hK : va_K D vwCl (tyL Y) s) (hN : NZ s) (hZ : SZ (wA Wc) s H) (hD : va_D (wA Wc) Wc) (U : State) (hU : U.heap = H) (hW : s.WarmedH U.vm) : PW D Y Wc U := ⟨by rw [hU]; exact hP, va_K.moved hW.alike hK, NZ.warm hW hN, by rw [hU]; exact SZ.moved hW.alike hZ, hD⟩
/-- calls that only read: of an object's method (V), of a static one (S); the answer is an int (i), a float (f) -/
theorem roV_i {rr : Int32} (S : CallFix p m c cc nL s args Ts own) (hM : Met l y ws rm (va_Pc (.ref b :: As) (PR D Y Wc)) (vp_Si (fun x => x = rr)) 0 0 (fun _ => False)) (cw : CallW R s args own C index y bytes maxL ret ws rm 0 0 n) (hP : va_P D vwCl Wc H) (hK : va_K D vwCl (tyL Y) s) (hN : NZ s) (hZ : SZ (fun _ => False) s H) (q0 ci : Nat) {fs : List Value} {T : u_T} {N : Nat} (he : Wc[q0]? = some (b, .inr (ci, fs))) (hc : vwCl[ci]? = some (C, T, N))
    (hn : As.length = n) (hsz : ls.size = nL) (hst : st0 = As.reverse ++ .ref b :: rest) (hw : (rest.map fun v => v.category).sum ≤ 8) (hdg : decode cc pc = .ok (.invokevirtual index, 3)) (hf : cells ≤ R.cells ∧ slots ≤ R.slots)
    (kk : W p l e R s m args below meth c H locs cells slots Q (F0 m (pc + 3) ls (.int rr :: rest))) : W p l e R s m args below meth c H locs cells slots Q (F0 m pc ls st0) :=
  vp_callSi (W.runV (g := F0 m pc ls st0) S hM cw ⟨PR_blind, va_recv hK hP hc he, fun U hU hW => ⟨rfl, PR_at hP hK hN hZ U hU hW⟩⟩ rfl hn hsz hst (lv_room hw) hdg hf) (fun r hr => by subst hr; exact kk)
theorem roV_f {rr : UInt32} (S : CallFix p m c cc nL s args Ts own) (hM : Met l y ws rm (va_Pc (.ref b :: As) (PR D Y Wc)) (vp_Sf (fun x => x = rr)) 0 0 (fun _ => False)) (cw : CallW R s args own C index y bytes maxL ret ws rm 0 0 n) (hP : va_P D vwCl Wc H) (hK : va_K D vwCl (tyL Y) s) (hN : NZ s) (hZ : SZ (fun _ => False) s H) (q0 ci : Nat) {fs : List Value} {T : u_T} {N : Nat} (he : Wc[q0]? = some (b, .inr (ci, fs))) (hc : vwCl[ci]? = some (C, T, N))
    (hn : As.length = n) (hsz : ls.size = nL) (hst : st0 = As.reverse ++ .ref b :: rest) (hw : (rest.map fun v => v.category).sum ≤ 8) (hdg : decode cc pc = .ok (.invokevirtual index, 3)) (hf : cells ≤ R.cells ∧ slots ≤ R.slots)
    (kk : W p l e R s m args below meth c H locs cells slots Q (F0 m (pc + 3) ls (.float rr :: rest))) : W p l e R s m args below meth c H locs cells slots Q (F0 m pc ls st0) :=
  vp_callSf (W.runV (g := F0 m pc ls st0) S hM cw ⟨PR_blind, va_recv hK hP hc he, fun U hU hW => ⟨rfl, PR_at hP hK hN hZ U hU hW⟩⟩ rfl hn hsz hst (lv_room hw) hdg hf) (fun r hr => by subst hr; exact kk)
theorem roS_i {rr : Int32} (S : CallFix p m c cc nL s args Ts own) (hM : Met l y ws rm (va_Pc As (PR D Y Wc)) (vp_Si (fun x => x = rr)) 0 0 (fun _ => False)) (cw : CallB R s args own index y bytes maxL ret ws rm 0 0 n ∧ (Cond.static y).before args s = true) (hP : va_P D vwCl Wc H) (hK : va_K D vwCl (tyL Y) s) (hN : NZ s) (hZ : SZ (fun _ => False) s H)
    (hn : As.length = n) (hsz : ls.size = nL) (hst : st0 = As.reverse ++ rest) (hw : (rest.map fun v => v.category).sum ≤ 8) (hdg : decode cc pc = .ok (.invokestatic index, 3)) (hf : cells ≤ R.cells ∧ slots ≤ R.slots)
    (kk : W p l e R s m args below meth c H locs cells slots Q (F0 m (pc + 3) ls (.int rr :: rest))) : W p l e R s m args below meth c H locs cells slots Q (F0 m pc ls st0) :=
  vp_callSi (W.runS (g := F0 m pc ls st0) S hM cw ⟨PR_blind, fun U hU hW => ⟨rfl, PR_at hP hK hN hZ U hU hW⟩⟩ rfl hn hsz hst (lv_room hw) hdg hf) (fun r hr => by subst hr; exact kk)
theorem roS_f {rr : UInt32} (S : CallFix p m c cc nL s args Ts own) (hM : Met l y ws rm (va_Pc As (PR D Y Wc)) (vp_Sf (fun x => x = rr)) 0 0 (fun _ => False)) (cw : CallB R s args own index y bytes maxL ret ws rm 0 0 n ∧ (Cond.static y).before args s = true) (hP : va_P D vwCl Wc H) (hK : va_K D vwCl (tyL Y) s) (hN : NZ s) (hZ : SZ (fun _ => False) s H)
    (hn : As.length = n) (hsz : ls.size = nL) (hst : st0 = As.reverse ++ rest) (hw : (rest.map fun v => v.category).sum ≤ 8) (hdg : decode cc pc = .ok (.invokestatic index, 3)) (hf : cells ≤ R.cells ∧ slots ≤ R.slots)
    (kk : W p l e R s m args below meth c H locs cells slots Q (F0 m (pc + 3) ls (.float rr :: rest))) : W p l e R s m args below meth c H locs cells slots Q (F0 m pc ls st0) :=
  vp_callSf (W.runS (g := F0 m pc ls st0) S hM cw ⟨PR_blind, fun U hU hW => ⟨rfl, PR_at hP hK hN hZ U hU hW⟩⟩ rfl hn hsz hst (lv_room hw) hdg hf) (fun r hr => by subst hr; exact kk)
/-- calls that write into a part Wc of the world W0: it is W1 behind them, the whole W' -/
theorem rwV_i {rr : Int32} (S : CallFix p m c cc nL s args Ts own) (hM : Met l y ws rm (va_Pc (.ref b :: As) (PW D Y Wc)) (va_Qi (S := Unit) (fun r _ => r = rr) (fun _ t => va_P D vwCl W1 t.heap) (wA Wc)) 0 0 (wA Wc)) (cw : CallW R s args own C index y bytes maxL ret ws rm 0 0 n) (hP : va_P D vwCl W0 H) (hK : va_K D vwCl (tyL Y) s) (hN : NZ s) (hZ : SZ A s s.heap) (hD : va_D A W0) (hS : va_S A s.heap H locs)
    (isC : List Nat) (hC : isC.map (fun i => W0[i]?) = Wc.map some) (hni : va_nd isC = true) (js : List (Nat ⊕ Nat)) (hjs : ∀ j ∈ js, ∀ k : Nat, j = .inl k → k ∉ isC) (hs : spl js W0 W1 = W') (ha : W'.map (fun q => q.1) = W0.map (fun q => q.1))
    (q0 ci : Nat) {fs : List Value} {T : u_T} {N : Nat} (he : W0[q0]? = some (b, .inr (ci, fs))) (hc : vwCl[ci]? = some (C, T, N))
    (hn : As.length = n) (hsz : ls.size = nL) (hst : st0 = As.reverse ++ .ref b :: rest) (hw : (rest.map fun v => v.category).sum ≤ 8) (hdg : decode cc pc = .ok (.invokevirtual index, 3)) (hf : cells ≤ R.cells ∧ slots ≤ R.slots)
    (kk : ∀ (H1 : Heap) (locs1 : List Loc), va_P D vwCl W' H1 → va_D A W' → va_S A s.heap H1 locs1 → W p l e R s m args below meth c H1 locs1 cells slots Q (F0 m (pc + 3) ls (.int rr :: rest))) : W p l e R s m args below meth c H locs cells slots Q (F0 m pc ls st0) := by
  have hDc : va_D A Wc := hD.sub isC hni hC
  have hPc : va_P D vwCl Wc H := by
    intro k q hk
    have h1 : (isC.map (fun i => W0[i]?))[k]? = some (some q) := by rw [hC, List.getElem?_map, hk]; rfl
    rw [List.getElem?_map] at h1
    cases hi : isC[k]? with
    | none => rw [hi] at h1; cases h1
    | some i => rw [hi] at h1; exact hP i q (Option.some.inj h1)
  refine va_calli (va_runV (g := F0 m pc ls st0) S hM cw ⟨PW_blind, va_recv hK hP hc he, fun U hU hW => ⟨rfl, PW_at hPc hK hN ((hZ.at hS).narrow (wA_in hDc)) (va_D_own hDc) U hU hW⟩⟩ rfl hn hsz hst (lv_room hw) hdg hf) hS (fun q _ h => wA_in hDc q h) (wA_in hDc) (fun r u t H1 locs1 ht hvm hp hB hz hk hS1 => ?_)
  subst hp
  rw [ht] at hB
  exact kk H1 locs1 (va_P_spl hP hD isC hC hk hB js hjs hs) (va_D_adr hD ha) hS1
theorem rwV_v (S : CallFix p m c cc nL s args Ts own) (hM : Met l y ws rm (va_Pc (.ref b :: As) (PW D Y Wc)) (va_Qv (S := Unit) (fun _ => True) (fun _ t => va_P D vwCl W1 t.heap) (wA Wc)) 0 0 (wA Wc)) (cw : CallW R s args own C index y bytes maxL ret ws rm 0 0 n) (hP : va_P D vwCl W0 H) (hK : va_K D vwCl (tyL Y) s) (hN : NZ s) (hZ : SZ A s s.heap) (hD : va_D A W0) (hS : va_S A s.heap H locs)
    (isC : List Nat) (hC : isC.map (fun i => W0[i]?) = Wc.map some) (hni : va_nd isC = true) (js : List (Nat ⊕ Nat)) (hjs : ∀ j ∈ js, ∀ k : Nat, j = .inl k → k ∉ isC) (hs : spl js W0 W1 = W') (ha : W'.map (fun q => q.1) = W0.map (fun q => q.1))
    (q0 ci : Nat) {fs : List Value} {T : u_T} {N : Nat} (he : W0[q0]? = some (b, .inr (ci, fs))) (hc : vwCl[ci]? = some (C, T, N))
    (hn : As.length = n) (hsz : ls.size = nL) (hst : st0 = As.reverse ++ .ref b :: rest) (hw : (rest.map fun v => v.category).sum ≤ 8) (hdg : decode cc pc = .ok (.invokevirtual index, 3)) (hf : cells ≤ R.cells ∧ slots ≤ R.slots)
    (kk : ∀ (H1 : Heap) (locs1 : List Loc), va_P D vwCl W' H1 → va_D A W' → va_S A s.heap H1 locs1 → W p l e R s m args below meth c H1 locs1 cells slots Q (F0 m (pc + 3) ls rest)) : W p l e R s m args below meth c H locs cells slots Q (F0 m pc ls st0) := by
  have hDc : va_D A Wc := hD.sub isC hni hC
  have hPc : va_P D vwCl Wc H := by
    intro k q hk
    have h1 : (isC.map (fun i => W0[i]?))[k]? = some (some q) := by rw [hC, List.getElem?_map, hk]; rfl
    rw [List.getElem?_map] at h1
    cases hi : isC[k]? with
    | none => rw [hi] at h1; cases h1
    | some i => rw [hi] at h1; exact hP i q (Option.some.inj h1)
  refine va_callv (va_runV (g := F0 m pc ls st0) S hM cw ⟨PW_blind, va_recv hK hP hc he, fun U hU hW => ⟨rfl, PW_at hPc hK hN ((hZ.at hS).narrow (wA_in hDc)) (va_D_own hDc) U hU hW⟩⟩ rfl hn hsz hst (lv_room hw) hdg hf) hS (fun q _ h => wA_in hDc q h) (wA_in hDc) (fun u t H1 locs1 ht hvm hp hB hz hk hS1 => ?_)
  rw [ht] at hB
  exact kk H1 locs1 (va_P_spl hP hD isC hC hk hB js hjs hs) (va_D_adr hD ha) hS1
/-- calls over the whole world -/
theorem rwV_iw {rr : Int32} (S : CallFix p m c cc nL s args Ts own) (hM : Met l y ws rm (va_Pc (.ref b :: As) (PW D Y W0)) (va_Qi (S := Unit) (fun r _ => r = rr) (fun _ t => va_P D vwCl W1 t.heap) (wA W0)) 0 0 (wA W0)) (cw : CallW R s args own C index y bytes maxL ret ws rm 0 0 n) (hP : va_P D vwCl W0 H) (hK : va_K D vwCl (tyL Y) s) (hN : NZ s) (hZ : SZ A s s.heap) (hD : va_D A W0) (hS : va_S A s.heap H locs) (ha : W1.map (fun q => q.1) = W0.map (fun q => q.1))
    (q0 ci : Nat) {fs : List Value} {T : u_T} {N : Nat} (he : W0[q0]? = some (b, .inr (ci, fs))) (hc : vwCl[ci]? = some (C, T, N))
    (hn : As.length = n) (hsz : ls.size = nL) (hst : st0 = As.reverse ++ .ref b :: rest) (hw : (rest.map fun v => v.category).sum ≤ 8) (hdg : decode cc pc = .ok (.invokevirtual index, 3)) (hf : cells ≤ R.cells ∧ slots ≤ R.slots)
    (kk : ∀ (H1 : Heap) (locs1 : List Loc), va_P D vwCl W1 H1 → va_D A W1 → va_S A s.heap H1 locs1 → W p l e R s m args below meth c H1 locs1 cells slots Q (F0 m (pc + 3) ls (.int rr :: rest))) : W p l e R s m args below meth c H locs cells slots Q (F0 m pc ls st0) := by
  refine va_calli (va_runV (g := F0 m pc ls st0) S hM cw ⟨PW_blind, va_recv hK hP hc he, fun U hU hW => ⟨rfl, PW_at hP hK hN ((hZ.at hS).narrow (wA_in hD)) (va_D_own hD) U hU hW⟩⟩ rfl hn hsz hst (lv_room hw) hdg hf) hS (fun q _ h => wA_in hD q h) (wA_in hD) (fun r u t H1 locs1 ht hvm hp hB hz hk hS1 => ?_)
  subst hp
  rw [ht] at hB
  exact kk H1 locs1 hB (va_D_adr hD ha) hS1
theorem rwV_vw (S : CallFix p m c cc nL s args Ts own) (hM : Met l y ws rm (va_Pc (.ref b :: As) (PW D Y W0)) (va_Qv (S := Unit) (fun _ => True) (fun _ t => va_P D vwCl W1 t.heap) (wA W0)) 0 0 (wA W0)) (cw : CallW R s args own C index y bytes maxL ret ws rm 0 0 n) (hP : va_P D vwCl W0 H) (hK : va_K D vwCl (tyL Y) s) (hN : NZ s) (hZ : SZ A s s.heap) (hD : va_D A W0) (hS : va_S A s.heap H locs) (ha : W1.map (fun q => q.1) = W0.map (fun q => q.1))
    (q0 ci : Nat) {fs : List Value} {T : u_T} {N : Nat} (he : W0[q0]? = some (b, .inr (ci, fs))) (hc : vwCl[ci]? = some (C, T, N))
    (hn : As.length = n) (hsz : ls.size = nL) (hst : st0 = As.reverse ++ .ref b :: rest) (hw : (rest.map fun v => v.category).sum ≤ 8) (hdg : decode cc pc = .ok (.invokevirtual index, 3)) (hf : cells ≤ R.cells ∧ slots ≤ R.slots)
    (kk : ∀ (H1 : Heap) (locs1 : List Loc), va_P D vwCl W1 H1 → va_D A W1 → va_S A s.heap H1 locs1 → W p l e R s m args below meth c H1 locs1 cells slots Q (F0 m (pc + 3) ls rest)) : W p l e R s m args below meth c H locs cells slots Q (F0 m pc ls st0) := by
  refine va_callv (va_runV (g := F0 m pc ls st0) S hM cw ⟨PW_blind, va_recv hK hP hc he, fun U hU hW => ⟨rfl, PW_at hP hK hN ((hZ.at hS).narrow (wA_in hD)) (va_D_own hD) U hU hW⟩⟩ rfl hn hsz hst (lv_room hw) hdg hf) hS (fun q _ h => wA_in hD q h) (wA_in hD) (fun u t H1 locs1 ht hvm hp hB hz hk hS1 => ?_)
  rw [ht] at hB
  exact kk H1 locs1 hB (va_D_adr hD ha) hS1
theorem rwS_iw {rr : Int32} (S : CallFix p m c cc nL s args Ts own) (hM : Met l y ws rm (va_Pc As (PW D Y W0)) (va_Qi (S := Unit) (fun r _ => r = rr) (fun _ t => va_P D vwCl W1 t.heap) (wA W0)) 0 0 (wA W0)) (cw : CallB R s args own index y bytes maxL ret ws rm 0 0 n ∧ (Cond.static y).before args s = true) (hP : va_P D vwCl W0 H) (hK : va_K D vwCl (tyL Y) s) (hN : NZ s) (hZ : SZ A s s.heap) (hD : va_D A W0) (hS : va_S A s.heap H locs) (ha : W1.map (fun q => q.1) = W0.map (fun q => q.1))
    (hn : As.length = n) (hsz : ls.size = nL) (hst : st0 = As.reverse ++ rest) (hw : (rest.map fun v => v.category).sum ≤ 8) (hdg : decode cc pc = .ok (.invokestatic index, 3)) (hf : cells ≤ R.cells ∧ slots ≤ R.slots)
    (kk : ∀ (H1 : Heap) (locs1 : List Loc), va_P D vwCl W1 H1 → va_D A W1 → va_S A s.heap H1 locs1 → W p l e R s m args below meth c H1 locs1 cells slots Q (F0 m (pc + 3) ls (.int rr :: rest))) : W p l e R s m args below meth c H locs cells slots Q (F0 m pc ls st0) := by
  refine va_calli (va_runS (g := F0 m pc ls st0) S hM cw ⟨PW_blind, fun U hU hW => ⟨rfl, PW_at hP hK hN ((hZ.at hS).narrow (wA_in hD)) (va_D_own hD) U hU hW⟩⟩ rfl hn hsz hst (lv_room hw) hdg hf) hS (fun q _ h => wA_in hD q h) (wA_in hD) (fun r u t H1 locs1 ht hvm hp hB hz hk hS1 => ?_)
  subst hp
  rw [ht] at hB
  exact kk H1 locs1 hB (va_D_adr hD ha) hS1
end SXC
theorem nar_z {x : Int32} (h : x = 0 ∨ x = 1) : narrow .boolean (.int x) = .int x := by
  rcases h with rfl | rfl <;> decide
theorem jk_ok (js : List (Nat ⊕ Nat)) (isC : List Nat) (h : js.all (fun j => match j with | .inl k => decide (k ∉ isC) | .inr _ => true) = true) : ∀ j ∈ js, ∀ k : Nat, j = .inl k → k ∉ isC := by
  intro j hj k hk
  subst hk
  have h1 := List.all_eq_true.mp h _ hj
  exact of_decide_eq_true h1
theorem fit_z {x : Int32} (h : x = 0 ∨ x = 1) : fits .boolean (.int x) = true := by
  rcases h with rfl | rfl <;> decide
section SXP
variable {p : Program} {l : Launch} {e : Env} {R : Room} {s : State} {m : MethodId} {args : Array Value} {below : List Frame} {meth : Method} {c : Code} {H : Heap} {locs : List Loc} {cells slots : Nat} {Q : State → Prop}
variable {cc : ByteArray} {pc : Nat} {ls : Array Slot} {rest : List Value} {A : Nat → Prop} {H0 : Heap} {D : va_G} {cl : List vw_C} {tys : List (ClassId × FieldType)} {ws : va_W} {a : Nat}
theorem set_congr {q1 : Nat} {e1 e2 : va_E} (hP : va_P D cl (ws.set q1 (a, e1)) H) (h : va_at D cl (a, e1) H → va_at D cl (a, e2) H) : va_P D cl (ws.set q1 (a, e2)) H := by
  intro k q hk
  by_cases hl : q1 < ws.length
  · by_cases hkq : k = q1
    · subst hkq
      rw [List.getElem?_set_self hl] at hk
      cases hk
      exact h (hP k (a, e1) (List.getElem?_set_self hl))
    · rw [List.getElem?_set_ne (Ne.symm hkq)] at hk
      exact hP k q (by rw [List.getElem?_set_ne (Ne.symm hkq)]; exact hk)
  · rw [List.set_eq_of_length_le (Nat.le_of_not_lt hl)] at hk
    exact hP k q (by rw [List.set_eq_of_length_le (Nat.le_of_not_lt hl)]; exact hk)
theorem arrV_same {cI : ClassId} {N : Nat} {f g : Nat → Value} (h : ∀ j, j < N → f j = g j) : arrV cI N f = arrV cI N g := by
  unfold arrV
  have : (Array.ofFn (n := N) fun j => f j.val) = Array.ofFn (n := N) fun j => g j.val := by
    congr 1
    funext j
    exact h j.val j.isLt
  rw [this]
theorem cp_i (hexec : p.tables.exec = Jvm.exec) (hb : c.code = cc) (hml : c.maxLocals = ls.size) {own : String} {index : Nat} (hown : s.vm.findClass own = some m.cls) (hlink : (Cond.methodLink own index arraycopyName).before args s = true) (hnat : (Cond.native arraycopyName).before args s = true) (hstat : (Cond.static arraycopyName).before args s = true) (hini : (Cond.initialized "java/lang/System").before args s = true)
    (hK : va_K D cl tys s) (hP : va_P D cl ws H) (hD : va_D A ws) (hS : va_S A H0 H locs) (q0 q1 t0 : Nat) {a0 : Nat} {c0 : ClassId} {n0 : Nat} {f g : Nat → Int32} (ha0 : ws[q0]? = some (a0, .inl (c0, n0, .inl f))) (ha1 : ws[q1]? = some (a, .inl (c0, n0, .inl g))) (ht0 : tys[t0]? = some (c0, .int)) {n : Int32} (hn : Int32.ofNat n0 = n) (hn2 : n0 < 2 ^ 31)
    (hframes : 1 ≤ R.frames) (hlocals : (rest.map fun v => v.category).sum + (nativeFrameWords "java/lang/System" "arraycopy" 5 + 11) ≤ R.locals) (hdg : decode cc pc = .ok (.invokestatic index, 3))
    (kk : ∀ (H1 : Heap) (locs1 : List Loc), va_P D cl (ws.set q1 (a, .inl (c0, n0, .inl f))) H1 → va_D A (ws.set q1 (a, .inl (c0, n0, .inl f))) → va_S A H0 H1 locs1 → W p l e R s m args below meth c H1 locs1 cells slots Q (F0 m (pc + 3) ls rest)) : W p l e R s m args below meth c H locs cells slots Q (F0 m pc ls (.int n :: .int 0 :: .ref a :: .int 0 :: .ref a0 :: rest)) := by
  have e0 : (0 : Int32).toNatClampNeg = 0 := rfl
  have en : n.toNatClampNeg = n0 := by rw [← hn]; exact nI_clamp hn2
  have np : ¬ n < 0 := by rw [← hn]; exact nI_pos hn2
  refine va_copyi hexec hb hml hown hlink hnat hstat hini hK hP hD hS q0 q1 t0 t0 ha0 ha1 ht0 ht0 rfl (by decide) (by decide) np (by rw [e0, en]; omega) (by rw [e0, en]; omega) (fun i _ => rfl) hframes hlocals hdg (fun H1 locs1 hP1 hD1 hS1 => ?_)
  refine kk H1 locs1 (set_congr hP1 (fun hz => ?_)) (va_D_adr hD1 (by rw [List.map_set, List.map_set])) hS1
  have e1 : H1[a]? = some (vp_cell c0 (n0, .inl (va_cpy f g (0 : Int32).toNatClampNeg (0 : Int32).toNatClampNeg n.toNatClampNeg))) := hz
  show H1[a]? = some (vp_cell c0 (n0, .inl f))
  rw [e1, vp_cell_i, vp_cell_i, e0, en]
  congr 1
  exact arrV_same (fun j hj => by rw [sb_cpy0 hj])
theorem cp_f (hexec : p.tables.exec = Jvm.exec) (hb : c.code = cc) (hml : c.maxLocals = ls.size) {own : String} {index : Nat} (hown : s.vm.findClass own = some m.cls) (hlink : (Cond.methodLink own index arraycopyName).before args s = true) (hnat : (Cond.native arraycopyName).before args s = true) (hstat : (Cond.static arraycopyName).before args s = true) (hini : (Cond.initialized "java/lang/System").before args s = true)
    (hK : va_K D cl tys s) (hP : va_P D cl ws H) (hD : va_D A ws) (hS : va_S A H0 H locs) (q0 q1 t0 : Nat) {a0 : Nat} {c0 : ClassId} {n0 : Nat} {f g : Nat → UInt32} (ha0 : ws[q0]? = some (a0, .inl (c0, n0, .inr (.inr (.inl f))))) (ha1 : ws[q1]? = some (a, .inl (c0, n0, .inr (.inr (.inl g))))) (ht0 : tys[t0]? = some (c0, .float)) {n : Int32} (hn : Int32.ofNat n0 = n) (hn2 : n0 < 2 ^ 31)
    (hframes : 1 ≤ R.frames) (hlocals : (rest.map fun v => v.category).sum + (nativeFrameWords "java/lang/System" "arraycopy" 5 + 11) ≤ R.locals) (hdg : decode cc pc = .ok (.invokestatic index, 3))
    (kk : ∀ (H1 : Heap) (locs1 : List Loc), va_P D cl (ws.set q1 (a, .inl (c0, n0, .inr (.inr (.inl f))))) H1 → va_D A (ws.set q1 (a, .inl (c0, n0, .inr (.inr (.inl f))))) → va_S A H0 H1 locs1 → W p l e R s m args below meth c H1 locs1 cells slots Q (F0 m (pc + 3) ls rest)) : W p l e R s m args below meth c H locs cells slots Q (F0 m pc ls (.int n :: .int 0 :: .ref a :: .int 0 :: .ref a0 :: rest)) := by
  have e0 : (0 : Int32).toNatClampNeg = 0 := rfl
  have en : n.toNatClampNeg = n0 := by rw [← hn]; exact nI_clamp hn2
  have np : ¬ n < 0 := by rw [← hn]; exact nI_pos hn2
  refine va_copyf hexec hb hml hown hlink hnat hstat hini hK hP hD hS q0 q1 t0 t0 ha0 ha1 ht0 ht0 rfl (by decide) (by decide) np (by rw [e0, en]; omega) (by rw [e0, en]; omega) (fun i _ => rfl) hframes hlocals hdg (fun H1 locs1 hP1 hD1 hS1 => ?_)
  refine kk H1 locs1 (set_congr hP1 (fun hz => ?_)) (va_D_adr hD1 (by rw [List.map_set, List.map_set])) hS1
  have e1 : H1[a]? = some (vp_cell c0 (n0, .inr (.inr (.inl (va_cpy f g (0 : Int32).toNatClampNeg (0 : Int32).toNatClampNeg n.toNatClampNeg))))) := hz
  show H1[a]? = some (vp_cell c0 (n0, .inr (.inr (.inl f))))
  rw [e1, vp_cell_f, vp_cell_f, e0, en]
  congr 1
  refine arrV_same (fun j hj => ?_)
  have : va_cpy f g 0 0 n0 j = f j := by rw [pk_cpy_in (Nat.zero_le _) (by omega)]; congr 1; omega
  rw [this]
theorem roV_q {y : MethodName} {bytes : ByteArray} {maxL nL n index : Nat} {ret : Option FieldType} {wsy : List Cond} {rm : Room} {Ts : List Cond} {own C : String} {b : Addr} {As st0 : List Value} {Y : Nat → ClassId} {Wc : va_W} {rr : Option Nat} (S : CallFix p m c cc nL s args Ts own) (hM : Met l y wsy rm (va_Pc (.ref b :: As) (PR D Y Wc)) (va_Sq (fun x => x = rr)) 0 0 (fun _ => False)) (cw : CallW R s args own C index y bytes maxL ret wsy rm 0 0 n) (hP : va_P D vwCl Wc H) (hK : va_K D vwCl (tyL Y) s) (hN : NZ s) (hZ : SZ (fun _ => False) s H) (q0 ci : Nat) {fs : List Value} {T : u_T} {N : Nat} (he : Wc[q0]? = some (b, .inr (ci, fs))) (hc : vwCl[ci]? = some (C, T, N))
    (hn : As.length = n) (hsz : ls.size = nL) (hst : st0 = As.reverse ++ .ref b :: rest) (hw : (rest.map fun v => v.category).sum ≤ 8) (hdg : decode cc pc = .ok (.invokevirtual index, 3)) (hf : cells ≤ R.cells ∧ slots ≤ R.slots)
    (kk : W p l e R s m args below meth c H locs cells slots Q (F0 m (pc + 3) ls (va_rf rr :: rest))) : W p l e R s m args below meth c H locs cells slots Q (F0 m pc ls st0) :=
  va_csq (W.runV (g := F0 m pc ls st0) S hM cw ⟨PR_blind, va_recv hK hP hc he, fun U hU hW => ⟨rfl, PR_at hP hK hN hZ U hU hW⟩⟩ rfl hn hsz hst (lv_room hw) hdg hf) (fun r hr => by subst hr; exact kk)
end SXP
