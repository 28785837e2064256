/-! the maps: what they answer; the reason to change -/
theorem speed_in {m : Nat → UInt32} (hm : FVm m) (x w : Int32) : mf_X3_speed m x w ∈ FV := by
  have z : FP.fconst0 ∈ FV := by decide
  unfold mf_X3_speed
  by_cases h0 : w * (5 : Int32) + x - (1 : Int32) < 0
  · rw [if_pos h0]; exact z
  · rw [if_neg h0]
    by_cases h1 : (20 : Int32) ≤ w * (5 : Int32) + x - (1 : Int32)
    · rw [if_pos h1]; exact z
    · rw [if_neg h1]
      obtain ⟨j, hj, e⟩ := nI_of h0
      rw [e] at h1 ⊢
      rw [nI_clamp hj]
      have h2 : nI j < nI 20 := Int32.not_le.mp h1
      exact hm j ((nI_ltI hj (by omega)).mp h2)
def upV (m : Nat → UInt32) (g : Int32) (p : UInt32) : UInt32 := FP.fadd (mf_X3_speed m g 0) (FP.fmul (FP.fsub (mf_X3_speed m g 1) (mf_X3_speed m g 0)) p)
def dnV (m : Nat → UInt32) (g : Int32) (p : UInt32) : UInt32 := FP.fsub (upV m g p) (mf_X3_speed m g 2)
theorem up_eq {m : Nat → UInt32} (hm : FVm m) (g : Int32) {p : UInt32} (hp : p ∈ FPd) : mf_X3_upFrom m g p = some (upV m g p) := by
  obtain ⟨h1, h2, h3⟩ := up_ok (speed_in hm g 0) (speed_in hm g 1) hp
  unfold mf_X3_upFrom
  simp only [bnd]
  rw [if_pos h1, if_pos h2, if_pos h3]
  rfl
theorem dn_eq {m : Nat → UInt32} (hm : FVm m) (g : Int32) {p : UInt32} (hp : p ∈ FPd) : mf_X3_downTo m g p = some (dnV m g p) := by
  have h := dn_ok (speed_in hm g 0) (speed_in hm g 1) hp (speed_in hm g 2)
  unfold mf_X3_downTo
  rw [up_eq hm g hp, Option.bind_some]
  simp only [bnd]
  rw [if_pos (show FP.fsub (upV m g p) (mf_X3_speed m g 2) &&& 0x7fffffff ≤ 0x7f800000 from h)]
  rfl
abbrev exP (m : Nat → UInt32) (sp : UInt32) (g : Int32) : Prop := ¬ fcl sp (mf_X3_speed m g 3) ≤ 0
theorem ex_eq (m : Nat → UInt32) (sp : UInt32) (g : Int32) : mf_X3_exceeds m sp g = if exP m sp g then 1 else 0 := by
  unfold mf_X3_exceeds
  simp only [bnd]
  by_cases h : fcl sp (mf_X3_speed m g 3) ≤ 0
  · rw [if_neg (show ¬ exP m sp g from fun q => q h)]
    exact if_pos h
  · rw [if_pos (show exP m sp g from h)]
    exact if_neg h
/-- a gear that a kickdown may choose -/
def kdG (m : Nat → UInt32) (sp : UInt32) (g k : Int32) : Prop := k ≠ 0 ∧ 1 ≤ k ∧ g - 2 ≤ k ∧ k < g ∧ ¬ exP m sp k ∧ (k = 1 ∨ k = g - 2 ∨ exP m sp (k - 1))
theorem b11_out (fu : Nat) (S : St) (sp : UInt32) (z : Int32) (h : v4_gear S ≤ z) : mf_X4_kickdownGear_B11 (fu + 1) S sp z = some 0 := by
  rw [mf_X4_kickdownGear_B11, if_pos h]
theorem b11_in (fu : Nat) (S : St) (sp : UInt32) (z : Int32) (h : ¬ v4_gear S ≤ z) (he : ¬ exP (v4_maps S) sp z) : mf_X4_kickdownGear_B11 (fu + 1) S sp z = some z := by
  rw [mf_X4_kickdownGear_B11, if_neg h, ex_eq, if_neg he]
  rfl
theorem b11_go (fu : Nat) (S : St) (sp : UInt32) (z : Int32) (h : ¬ v4_gear S ≤ z) (he : exP (v4_maps S) sp z) : mf_X4_kickdownGear_B11 (fu + 1) S sp z = mf_X4_kickdownGear_B11 fu S sp (z + 1) := by
  rw [mf_X4_kickdownGear_B11, if_neg h, ex_eq, if_pos he]
  show (if (1 : Int32) = 0 then some z else mf_X4_kickdownGear_B11 fu S sp (z + 1)) = _
  exact if_neg (by decide)
theorem kd_1 (S : St) (sp : UInt32) (hg : v4_gear S = 1) : mf_X4_kickdownGear S sp = some 0 := by
  unfold mf_X4_kickdownGear
  rw [hg]
  exact b11_out 5 S sp 1 (by rw [hg]; decide)
theorem kd_2 (S : St) (sp : UInt32) (hg : v4_gear S = 2) : mf_X4_kickdownGear S sp = some 0 ∨ (mf_X4_kickdownGear S sp = some 1 ∧ ¬ exP (v4_maps S) sp 1) := by
  have e : mf_X4_kickdownGear S sp = mf_X4_kickdownGear_B11 6 S sp 1 := by
    unfold mf_X4_kickdownGear
    rw [hg]
    rfl
  rw [e]
  by_cases h : exP (v4_maps S) sp 1
  · left
    rw [b11_go 5 S sp 1 (by rw [hg]; decide) h]
    exact b11_out 4 S sp _ (by rw [hg]; decide)
  · right
    exact ⟨b11_in 5 S sp 1 (by rw [hg]; decide) h, h⟩
theorem kd_n (S : St) (sp : UInt32) (g : Int32) (hg : v4_gear S = g) (h3 : 3 ≤ g) (h5 : g ≤ 5) : mf_X4_kickdownGear S sp = some 0 ∨ (mf_X4_kickdownGear S sp = some (g - 2) ∧ ¬ exP (v4_maps S) sp (g - 2)) ∨ (mf_X4_kickdownGear S sp = some (g - 1) ∧ ¬ exP (v4_maps S) sp (g - 1) ∧ exP (v4_maps S) sp (g - 2)) := by
  have e : mf_X4_kickdownGear S sp = mf_X4_kickdownGear_B11 6 S sp (g - 2) := by
    unfold mf_X4_kickdownGear
    rw [hg, if_neg (by grind)]
    rfl
  rw [e]
  have e1 : g - 2 + 1 = g - 1 := by grind
  have e2 : g - 1 + 1 = g := by grind
  by_cases h : exP (v4_maps S) sp (g - 2)
  · rw [b11_go 5 S sp (g - 2) (by rw [hg]; grind) h, e1]
    by_cases q : exP (v4_maps S) sp (g - 1)
    · left
      rw [b11_go 4 S sp (g - 1) (by rw [hg]; grind) q, e2]
      exact b11_out 3 S sp g (by rw [hg]; exact Int32.le_refl _)
    · right; right
      exact ⟨b11_in 4 S sp (g - 1) (by rw [hg]; grind) q, q, h⟩
  · right; left
    exact ⟨b11_in 5 S sp (g - 2) (by rw [hg]; grind) h, h⟩
theorem kd_eq (S : St) (sp : UInt32) (hg : 1 ≤ v4_gear S ∧ v4_gear S ≤ 5) : ∃ k, mf_X4_kickdownGear S sp = some k ∧ (k = 0 ∨ kdG (v4_maps S) sp (v4_gear S) k) := by
  obtain ⟨g, eg⟩ : ∃ g, v4_gear S = g := ⟨_, rfl⟩
  rw [eg] at hg ⊢
  by_cases h1 : g = 1
  · exact ⟨0, kd_1 S sp (eg.trans h1), Or.inl rfl⟩
  by_cases h2 : g = 2
  · rcases kd_2 S sp (eg.trans h2) with h | ⟨h, q⟩
    · exact ⟨0, h, Or.inl rfl⟩
    · refine ⟨1, h, Or.inr ⟨by decide, by decide, by rw [h2]; decide, by rw [h2]; decide, q, Or.inl rfl⟩⟩
  · have h3 : 3 ≤ g := by grind
    rcases kd_n S sp g eg h3 hg.2 with h | ⟨h, q⟩ | ⟨h, q, q2⟩
    · exact ⟨0, h, Or.inl rfl⟩
    · exact ⟨g - 2, h, Or.inr ⟨by grind, by grind, by grind, by grind, q, Or.inr (Or.inl rfl)⟩⟩
    · refine ⟨g - 1, h, Or.inr ⟨by grind, by grind, by grind, by grind, q, Or.inr (Or.inr ?_)⟩⟩
      rw [show g - 1 - 1 = g - 2 by grind]
      exact q2
/-! what the law asks of a tick -/
def guP (m : Nat → UInt32) (sp : UInt32) (g : Int32) : Prop := ¬ 5 ≤ g ∧ exP m sp g
def upP (m : Nat → UInt32) (sp pe : UInt32) (g : Int32) : Prop := ¬ 5 ≤ g ∧ ¬ fcl sp (upV m g pe) ≤ 0
def dnP (m : Nat → UInt32) (sp pe : UInt32) (g : Int32) : Prop := ¬ g ≤ 1 ∧ ¬ 0 ≤ fcg sp (dnV m (g - 1) pe)
def maP (S : St) : Prop := v4_handMode S = 0 ∧ v4_held S ≤ 0
def dpP (pe : UInt32) : Prop := ¬ fcl pe 1064514355 < 0
def Rea (S : St) (sp pe : UInt32) (r : Int32) : Prop :=
  (r = 4 ∧ guP (v4_maps S) sp (v4_gear S)) ∨
  (r = 2 ∧ ¬ guP (v4_maps S) sp (v4_gear S) ∧ dpP pe ∧ ∃ k, mf_X4_kickdownGear S sp = some k ∧ kdG (v4_maps S) sp (v4_gear S) k) ∨
  (r = 0 ∧ ¬ guP (v4_maps S) sp (v4_gear S) ∧ maP S ∧ upP (v4_maps S) sp pe (v4_gear S)) ∨
  (r = 1 ∧ ¬ guP (v4_maps S) sp (v4_gear S) ∧ maP S ∧ ¬ upP (v4_maps S) sp pe (v4_gear S) ∧ dnP (v4_maps S) sp pe (v4_gear S)) ∨
  (r = -1 ∧ ¬ guP (v4_maps S) sp (v4_gear S) ∧ (maP S → ¬ upP (v4_maps S) sp pe (v4_gear S) ∧ ¬ dnP (v4_maps S) sp pe (v4_gear S)))
theorem deep_eq (pe : UInt32) : (mf_X4_isDeep pe = 0 ∧ ¬ dpP pe) ∨ (mf_X4_isDeep pe = 1 ∧ dpP pe) := by
  unfold mf_X4_isDeep
  by_cases h : fcl pe 1064514355 < 0
  · left
    exact ⟨if_pos h, fun q => q h⟩
  · right
    exact ⟨if_neg h, h⟩
theorem r95 (S : St) (sp : UInt32) {pe : UInt32} (hm : FVm (v4_maps S)) (hp : pe ∈ FPd) : (mf_X4_reasonToChange_B95 S sp pe = some 1 ∧ dnP (v4_maps S) sp pe (v4_gear S)) ∨ (mf_X4_reasonToChange_B95 S sp pe = some (-1) ∧ ¬ dnP (v4_maps S) sp pe (v4_gear S)) := by
  unfold mf_X4_reasonToChange_B95
  rw [dn_eq hm _ hp, Option.bind_some]
  by_cases h1 : v4_gear S ≤ 1
  · right
    exact ⟨if_pos h1, fun q => q.1 h1⟩
  · rw [if_neg h1]
    by_cases h2 : 0 ≤ fcg sp (dnV (v4_maps S) (v4_gear S - 1) pe)
    · right
      exact ⟨if_pos h2, fun q => q.2 h2⟩
    · left
      exact ⟨if_neg h2, h1, h2⟩
theorem r52 (S : St) (sp : UInt32) {pe : UInt32} (hm : FVm (v4_maps S)) (hp : pe ∈ FPd) (hq : ¬ guP (v4_maps S) sp (v4_gear S)) : ∃ r, mf_X4_reasonToChange_B52 S sp pe = some r ∧ Rea S sp pe r := by
  unfold mf_X4_reasonToChange_B52
  rw [up_eq hm _ hp, Option.bind_some]
  by_cases h1 : v4_handMode S = 0
  · rw [if_pos h1]
    by_cases h2 : v4_held S ≤ 0
    · rw [if_pos h2]
      have k95 : ¬ upP (v4_maps S) sp pe (v4_gear S) → ∃ r, mf_X4_reasonToChange_B95 S sp pe = some r ∧ Rea S sp pe r := fun hu => by
        rcases r95 S sp hm hp with ⟨e, d⟩ | ⟨e, d⟩
        · exact ⟨1, e, Or.inr (Or.inr (Or.inr (Or.inl ⟨rfl, hq, ⟨h1, h2⟩, hu, d⟩)))⟩
        · exact ⟨-1, e, Or.inr (Or.inr (Or.inr (Or.inr ⟨rfl, hq, fun _ => ⟨hu, d⟩⟩)))⟩
      by_cases h5 : 5 ≤ v4_gear S
      · rw [if_pos h5]
        exact k95 fun q => q.1 h5
      · rw [if_neg h5]
        by_cases h3 : fcl sp (upV (v4_maps S) (v4_gear S) pe) ≤ 0
        · rw [if_pos (show Op.cmpValue (FP.fcmp sp (upV (v4_maps S) (v4_gear S) pe)) CmpOp.l ≤ 0 from h3)]
          exact k95 fun q => q.2 h3
        · rw [if_neg (show ¬ Op.cmpValue (FP.fcmp sp (upV (v4_maps S) (v4_gear S) pe)) CmpOp.l ≤ 0 from h3)]
          exact ⟨0, rfl, Or.inr (Or.inr (Or.inl ⟨rfl, hq, ⟨h1, h2⟩, h5, h3⟩))⟩
    · rw [if_neg h2]
      exact ⟨-1, rfl, Or.inr (Or.inr (Or.inr (Or.inr ⟨rfl, hq, fun q => absurd q.2 h2⟩)))⟩
  · rw [if_neg h1]
    exact ⟨-1, rfl, Or.inr (Or.inr (Or.inr (Or.inr ⟨rfl, hq, fun q => absurd q.1 h1⟩)))⟩
theorem r25 (S : St) (sp : UInt32) {pe : UInt32} (hm : FVm (v4_maps S)) (hp : pe ∈ FPd) (hg : 1 ≤ v4_gear S ∧ v4_gear S ≤ 5) (hq : ¬ guP (v4_maps S) sp (v4_gear S)) : ∃ r, mf_X4_reasonToChange_B25 S sp pe = some r ∧ Rea S sp pe r := by
  obtain ⟨k, ek, hk⟩ := kd_eq S sp hg
  have k52 := r52 S sp hm hp hq
  unfold mf_X4_reasonToChange_B25
  simp only [bnd]
  rw [ek, Option.bind_some]
  rcases deep_eq pe with ⟨e, d⟩ | ⟨e, d⟩
  · rw [e, if_pos rfl]
    exact k52
  · rw [e, if_neg (by decide)]
    rcases deep_eq (v4_latestPedal S) with ⟨e2, -⟩ | ⟨e2, -⟩
    · rw [e2, if_pos rfl]
      rcases hk with hk | hk
      · rw [if_pos hk]
        exact k52
      · rw [if_neg hk.1]
        exact ⟨2, rfl, Or.inr (Or.inl ⟨rfl, hq, d, k, ek, hk⟩)⟩
    · rw [e2, if_neg (by decide)]
      exact k52
theorem rea_eq (S : St) (sp : UInt32) {pe : UInt32} (hm : FVm (v4_maps S)) (hp : pe ∈ FPd) (hg : 1 ≤ v4_gear S ∧ v4_gear S ≤ 5) : ∃ r, mf_X4_reasonToChange S sp pe = some r ∧ Rea S sp pe r := by
  unfold mf_X4_reasonToChange
  by_cases h5 : 5 ≤ v4_gear S
  · rw [if_pos h5]
    exact r25 S sp hm hp hg fun q => q.1 h5
  · rw [if_neg h5]
    simp only [bnd]
    rw [ex_eq]
    by_cases h : exP (v4_maps S) sp (v4_gear S)
    · rw [if_pos h, if_neg (by decide)]
      exact ⟨4, rfl, Or.inl ⟨rfl, h5, h⟩⟩
    · rw [if_neg h, if_pos rfl]
      exact r25 S sp hm hp hg fun q => h q.2
