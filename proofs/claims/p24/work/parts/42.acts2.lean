/-! acts: what is drawn, the maps -/
theorem low_eq (x : Int32) {n : Nat} (h0 : 0 < n) (hn : n < 2 ^ 31) : ∃ k : Nat, k < n ∧ mf_L_low x (nI n) = some (nI k) := by
  obtain ⟨j, hj, e⟩ := pk_andE x (m := 2147483647) 31 (by decide)
  refine ⟨j % n, Nat.mod_lt _ h0, ?_⟩
  unfold mf_L_low
  rw [if_pos (nI_ne0 h0 hn), e, pk_div hj h0 hn, pk_mul, pk_sub (Nat.div_mul_le_self j n)]
  congr 2
  have := Nat.div_add_mod j n
  rw [Nat.mul_comm] at this
  omega
theorem in_sp : ∀ k, k < 12 → nI k ∈ spI := by decide
theorem in_pe : ∀ k, k < 5 → nI k ∈ peI := by decide
theorem low_12 (x : Int32) : ∃ k : Nat, k < 12 ∧ mf_L_low x 12 = some (nI k) := low_eq x (n := 12) (by omega) (by omega)
theorem low_5 (x : Int32) : ∃ k : Nat, k < 5 ∧ mf_L_low x 5 = some (nI k) := low_eq x (n := 5) (by omega) (by omega)
theorem low_4 (x : Int32) : ∃ k : Nat, k < 4 ∧ mf_L_low x 4 = some (nI k) := low_eq x (n := 4) (by omega) (by omega)
theorem low_3 (x : Int32) : ∃ k : Nat, k < 3 ∧ mf_L_low x 3 = some (nI k) := low_eq x (n := 3) (by omega) (by omega)
theorem low_2 (x : Int32) : ∃ k : Nat, k < 2 ∧ mf_L_low x 2 = some (nI k) := low_eq x (n := 2) (by omega) (by omega)
theorem low_8 (x : Int32) : ∃ k : Nat, k < 8 ∧ mf_L_low x 8 = some (nI k) := low_eq x (n := 8) (by omega) (by omega)
theorem low_30 (x : Int32) : ∃ k : Nat, k < 30 ∧ mf_L_low x 30 = some (nI k) := low_eq x (n := 30) (by omega) (by omega)
theorem low_100 (x : Int32) : ∃ k : Nat, k < 100 ∧ mf_L_low x 100 = some (nI k) := low_eq x (n := 100) (by omega) (by omega)
theorem has_eq : ∀ a, a < 5 → ∀ b, b < 4 → mf_X3_has (nI (1 + a)) (nI b) = if a = 4 ∧ b < 3 then 0 else 1 := by decide
theorem idx_eq (a b : Nat) : nI b * (5 : Int32) + nI (1 + a) - 1 = nI (b * 5 + a) := by
  rw [idx_5, show b * 5 + (1 + a) = b * 5 + a + 1 by omega, nI_pred]
theorem sp_at (m : Nat → UInt32) {a b : Nat} (ha : a < 5) (hb : b < 4) : mf_X3_speed m (nI (1 + a)) (nI b) = m (b * 5 + a) := by
  have q : ¬ (20 : Int32) ≤ nI (b * 5 + a) := nI_ge (b := 20) (by omega) (by omega)
  unfold mf_X3_speed
  rw [idx_eq, if_neg (nI_pos (by omega)), if_neg q, nI_clamp (by omega)]
theorem put_at (m : Nat → UInt32) {a b : Nat} (ha : a < 5) (hb : b < 4) (hh : ¬ (a = 4 ∧ b < 3)) (x : UInt32) : mf_X3_put m (nI (1 + a)) (nI b) x = some (vf_upd m (b * 5 + a) x) := by
  have q : ¬ (20 : Int32) ≤ nI (b * 5 + a) := nI_ge (b := 20) (by omega) (by omega)
  unfold mf_X3_put
  simp only [bnd]
  rw [has_eq a ha b hb, if_neg hh, if_neg (by decide), idx_eq, if_pos ⟨nI_pos (by omega), q⟩, nI_clamp (by omega)]
theorem FVm_upd {m : Nat → UInt32} (hm : FVm m) (k : Nat) {x : UInt32} (hx : x ∈ FV) : FVm (vf_upd m k x) := by
  intro i hi
  unfold vf_upd
  by_cases q : i = k
  · rw [if_pos q]; exact hx
  · rw [if_neg q]; exact hm i hi
theorem now_maps {T : Int32} {S : St} (h : NowOK T S) {m : Nat → UInt32} (hm : FVm m) : NowOK T (u4_maps S m) := by
  obtain ⟨⟨hg, ht, hn, hl, h2, h3, hh, hd, hv⟩, hC, hL, hz⟩ := h
  exact ⟨⟨hg, ht, hn, hl, h2, h3, hh, hd, hm⟩, hC, hL, hz⟩
theorem map_at (V : CarV) {a b : Nat} (ha : a < 5) (hb : b < 4) (hh : ¬ (a = 4 ∧ b < 3)) : mf_X5_map V (nI (1 + a)) (nI b) = v4_maps (v5_now V) (b * 5 + a) := by
  unfold mf_X5_map
  simp only [bnd]
  rw [has_eq a ha b hb, if_neg hh, if_neg (by decide), sp_at _ ha hb]
theorem i32_b {b : Nat} (hb : b < 4) : ¬ nI b < 0 ∧ nI b ≤ 3 := ⟨nI_pos (by omega), nI_le (b := 3) (by omega) (by omega)⟩
theorem map_no {V : CarV} {a b : Nat} {s : Int32} (ha : a < 5) (hb : b < 4) (hh : a = 4 ∧ b < 3) : mf_X5_setMap V (nI (1 + a)) (nI b) s = some (-1, V) := by
  unfold mf_X5_setMap
  simp only [bnd]
  rw [if_neg (i32_b hb).1, if_pos (i32_b hb).2, has_eq a ha b hb, if_pos hh]
  exact if_pos rfl
theorem map_same {V : CarV} {a b : Nat} {i : Int32} (hi : i ∈ spI) (ha : a < 5) (hb : b < 4) (hh : ¬ (a = 4 ∧ b < 3)) (hs : fcl (v4_maps (v5_now V) (b * 5 + a)) (mf_L_fast i) = 0) : mf_X5_setMap V (nI (1 + a)) (nI b) (mf_L_speed i) = some (-5, V) := by
  obtain ⟨s1, s2, s3⟩ := fp_of i hi
  unfold mf_X5_setMap
  simp only [bnd]
  rw [if_neg (i32_b hb).1, if_pos (i32_b hb).2, has_eq a ha b hb, if_neg hh, if_neg (by decide), s3, if_neg (by decide), s1, Option.bind_some, sp_at _ ha hb]
  exact if_pos hs
theorem map_put {t : Nat} {V : CarV} {a b : Nat} {i : Int32} (hI : CarOK t V) (hi : i ∈ spI) (ha : a < 5) (hb : b < 4) (hh : ¬ (a = 4 ∧ b < 3)) (hs : ¬ fcl (v4_maps (v5_now V) (b * 5 + a)) (mf_L_fast i) = 0) : ∃ V1, mf_X5_setMap V (nI (1 + a)) (nI b) (mf_L_speed i) = some (1, V1) ∧ CarOK t V1 ∧ v4_maps (v5_now V1) (b * 5 + a) = mf_L_fast i := by
  obtain ⟨s1, s2, s3⟩ := fp_of i hi
  obtain ⟨H1, eH, oH⟩ := rec_ok hI.2 (now_hm hI.1)
  have eV : ∀ H, v5_now (u5_history V H) = v5_now V := fun _ => rfl
  unfold mf_X5_setMap
  simp only [bnd]
  rw [if_neg (i32_b hb).1, if_pos (i32_b hb).2, has_eq a ha b hb, if_neg hh, if_neg (by decide), s3, if_neg (by decide), s1, Option.bind_some, sp_at _ ha hb, if_neg (show ¬ Op.cmpValue (FP.fcmp (v4_maps (v5_now V) (b * 5 + a)) (mf_L_fast i)) CmpOp.l = 0 from hs), eH, Option.bind_some, eV, put_at _ ha hb hh, Option.bind_some]
  refine ⟨_, rfl, ⟨now_maps hI.1 (FVm_upd hI.1.1.2.2.2.2.2.2.2.2 _ (FS_FV _ s2)), oH⟩, ?_⟩
  show vf_upd (v4_maps (v5_now V)) (b * 5 + a) (mf_L_fast i) (b * 5 + a) = mf_L_fast i
  unfold vf_upd
  exact if_pos rfl
theorem acts_115 {t : Nat} {V : CarV} {a b : Nat} {h i none same : Int32} (hI : CarOK t V) (hi : i ∈ spI) (ha : a < 5) (hb : b < 4) (hn : none = if a = 4 ∧ b < 3 then 1 else 0) (hs : ¬ (a = 4 ∧ b < 3) → same = if fcl (v4_maps (v5_now V) (b * 5 + a)) (mf_L_fast i) = 0 then 1 else 0) : ∃ V1, mf_L_acts_B115 V h (nI (1 + a)) (nI b) i none same = some (1, V1) ∧ CarOK t V1 := by
  obtain ⟨k, hk, ek⟩ := low_3 (h >>> ((9 : Int32) &&& 31))
  unfold mf_L_acts_B115
  rw [ek, Option.bind_some]
  by_cases q : 0 < nI k
  · exact ⟨V, by rw [if_pos q]; rfl, hI⟩
  · rw [if_neg q]
    simp only [bnd]
    by_cases q2 : a = 4 ∧ b < 3
    · rw [if_pos q2] at hn
      refine ⟨V, ?_, hI⟩
      rw [map_no ha hb q2, Option.bind_some, hn, if_neg (by decide)]
      unfold mf_L_acts_B160
      rw [if_pos rfl, if_neg (by decide)]
      rfl
    · rw [if_neg q2] at hn
      have hs := hs q2
      by_cases q3 : fcl (v4_maps (v5_now V) (b * 5 + a)) (mf_L_fast i) = 0
      · rw [if_pos q3] at hs
        refine ⟨V, ?_, hI⟩
        rw [map_same hi ha hb q2 q3, Option.bind_some, hn, hs, if_pos rfl, if_neg (by decide)]
        unfold mf_L_acts_B160
        simp only [bnd]
        rw [if_pos trivial, if_pos trivial, map_at V ha hb q2, if_pos (show Op.cmpValue (FP.fcmp (v4_maps (v5_now V) (b * 5 + a)) (mf_L_fast i)) CmpOp.l = 0 from q3)]
        rfl
      · rw [if_neg q3] at hs
        obtain ⟨V1, e1, I1, m1⟩ := map_put hI hi ha hb q2 q3
        refine ⟨V1, ?_, I1⟩
        rw [e1, Option.bind_some, hn, hs, if_pos rfl, if_pos rfl]
        unfold mf_L_acts_B160
        simp only [bnd]
        rw [if_pos trivial, if_pos trivial, map_at V1 ha hb q2, m1, if_pos (show Op.cmpValue (FP.fcmp (mf_L_fast i) (mf_L_fast i)) CmpOp.l = 0 from fp_self _ (fp_of i hi).2.1)]
        rfl
theorem acts_86 {t : Nat} {V : CarV} {a b : Nat} {h i : Int32} (hI : CarOK t V) (hi : i ∈ spI) (ha : a < 5) (hb : b < 4) (q2 : ¬ (a = 4 ∧ b < 3)) : ∃ V1, mf_L_acts_B86 V h (nI (1 + a)) (nI b) i = some (1, V1) ∧ CarOK t V1 := by
  unfold mf_L_acts_B86 mf_L_acts_B87 mf_L_acts_B114
  rw [if_pos rfl]
  simp only [bnd]
  rw [map_at V ha hb q2]
  by_cases q3 : fcl (v4_maps (v5_now V) (b * 5 + a)) (mf_L_fast i) = 0
  · rw [if_pos (show Op.cmpValue (FP.fcmp (v4_maps (v5_now V) (b * 5 + a)) (mf_L_fast i)) CmpOp.l = 0 from q3)]
    exact acts_115 hI hi ha hb (if_neg q2).symm fun _ => (if_pos q3).symm
  · rw [if_neg (show ¬ Op.cmpValue (FP.fcmp (v4_maps (v5_now V) (b * 5 + a)) (mf_L_fast i)) CmpOp.l = 0 from q3)]
    exact acts_115 hI hi ha hb (if_neg q2).symm fun _ => (if_neg q3).symm
theorem acts_0 {t : Nat} {V : CarV} {a b : Nat} {h i : Int32} (hI : CarOK t V) (hi : i ∈ spI) (ha : a < 5) (hb : b < 4) : ∃ V1, (if nI (1 + a) = (5 : Int32) then (if (3 : Int32) ≤ nI b then (mf_L_acts_B86 V h (nI (1 + a)) (nI b) i) else (mf_L_acts_B87 V h (nI (1 + a)) (nI b) i (1 : Int32))) else (mf_L_acts_B86 V h (nI (1 + a)) (nI b) i)) = some (1, V1) ∧ CarOK t V1 := by
  by_cases q : a = 4
  · have e5 : nI (1 + a) = (5 : Int32) := by rw [q]; decide
    rw [if_pos e5]
    by_cases q3 : b < 3
    · have e3 : ¬ (3 : Int32) ≤ nI b := nI_ge (b := 3) q3 (by omega)
      rw [if_neg e3]
      unfold mf_L_acts_B87 mf_L_acts_B114
      rw [if_neg (by decide)]
      exact acts_115 hI hi ha hb (if_pos ⟨q, q3⟩).symm fun p => absurd ⟨q, q3⟩ p
    · have e3 : (3 : Int32) ≤ nI b := nI_le (a := 3) (by omega) (by omega)
      rw [if_pos e3]
      exact acts_86 hI hi ha hb fun p => q3 p.2
  · have e5 : ¬ nI (1 + a) = (5 : Int32) := fun e => by
      have := (nI_eq (a := 1 + a) (b := 5) (by omega) (by omega)).mp e
      omega
    rw [if_neg e5]
    exact acts_86 hI hi ha hb fun p => q p.1
