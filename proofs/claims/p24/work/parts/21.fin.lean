def okn (n : Nat) : Prop := n % 2147483648 ≤ 2139095040
theorem okn_as (s : Bool) (e t : Nat) (h : e * 8388608 + t ≤ 2139095040) : okn (FP.Core.assemble FP.Core.b32 s e t) := by
  have h1 : FP.Core.assemble FP.Core.b32 s e t = (s.toNat * 256 + e) * 8388608 + t := rfl
  unfold okn
  rw [h1]
  cases s
  · simp only [Bool.toNat_false]; omega
  · simp only [Bool.toNat_true]; omega
theorem okn_fin (s : Bool) (c : Nat) (q : Int) (hc : c < 16777216) (hq : q ≤ 104) : okn (FP.Core.encode FP.Core.b32 (.fin s c q)) := by
  have ht : FP.Core.b32.tails = 8388608 := rfl
  have hm : FP.Core.b32.qmin = -149 := rfl
  unfold FP.Core.encode
  simp only [ht, hm]
  split
  · exact okn_as _ _ _ (by omega)
  · exact okn_as _ _ _ (by omega)
theorem okn_inf (s : Bool) : okn (FP.Core.encode FP.Core.b32 (.inf s)) := by
  unfold FP.Core.encode
  exact okn_as _ _ _ (by decide)
theorem okn_bound (s : Bool) (c : Nat) (q : Int) (hc : c < 16777216) : okn (FP.Core.encode FP.Core.b32 (FP.Core.bound FP.Core.b32 s c q)) := by
  have hM : FP.Core.b32.qmax = 104 := rfl
  unfold FP.Core.bound
  rw [hM]
  split
  · exact okn_fin _ _ _ hc (by assumption)
  · exact okn_inf _
theorem okn_rr (s : Bool) (n d : Nat) (e : Int) : okn (FP.Core.encode FP.Core.b32 (FP.Core.roundRatio FP.Core.b32 s n d e)) := by
  unfold FP.Core.roundRatio
  split
  · exact okn_fin _ _ _ (by decide) (by decide)
  · unfold FP.Core.roundAt FP.Core.settle
    split
    · rename_i h
      exact okn_bound _ _ _ h
    · exact okn_bound _ _ _ (by decide)
theorem nn_of {n : Nat} (h : okn n) : nn (UInt32.ofNat n) = true := by
  unfold nn
  rw [decide_eq_true_eq, UInt32.le_iff_toNat_le, UInt32.toNat_and, UInt32.toNat_ofNat']
  have e1 : (0x7fffffff : UInt32).toNat = 2 ^ 31 - 1 := rfl
  have e2 : (0x7f800000 : UInt32).toNat = 2139095040 := rfl
  rw [e1, e2, Nat.and_two_pow_sub_one_eq_mod]
  unfold okn at h
  omega
def isfin (x : UInt32) : Bool := match FP.Core.decode FP.Core.b32 x.toNat with
  | .fin _ _ _ => true
  | _ => false
theorem isfin_of {x : UInt32} (h : isfin x = true) : ∃ s c q, FP.Core.decode FP.Core.b32 x.toNat = .fin s c q := by
  unfold isfin at h
  split at h
  · exact ⟨_, _, _, by assumption⟩
  · cases h
theorem fsub_nn {x y : UInt32} (hx : isfin x = true) (hy : isfin y = true) : nn (FP.fsub x y) = true := by
  obtain ⟨s, c, q, h1⟩ := isfin_of hx
  obtain ⟨t, d, r, h2⟩ := isfin_of hy
  refine nn_of ?_
  show okn (FP.Core.sub FP.Core.b32 x.toNat y.toNat)
  unfold FP.Core.sub
  rw [h1, h2]
  exact okn_rr _ _ _ _
theorem fp_upf : ∀ lo ∈ FV, ∀ hi ∈ FV, ∀ p ∈ FPd, isfin (FP.fadd lo (FP.fmul (FP.fsub hi lo) p)) = true := by decide +kernel
theorem fp_FVf : ∀ x ∈ FV, isfin x = true := by decide +kernel
theorem up_ok {lo hi p : UInt32} (h1 : lo ∈ FV) (h2 : hi ∈ FV) (h3 : p ∈ FPd) : (FP.fsub hi lo &&& 0x7fffffff ≤ 0x7f800000) ∧ (FP.fmul (FP.fsub hi lo) p &&& 0x7fffffff ≤ 0x7f800000) ∧ (FP.fadd lo (FP.fmul (FP.fsub hi lo) p) &&& 0x7fffffff ≤ 0x7f800000) := by
  obtain ⟨a, b⟩ := fp_up lo h1 hi h2
  obtain ⟨b1, b2⟩ := b p h3
  exact ⟨of_decide_eq_true a, of_decide_eq_true b1, of_decide_eq_true b2⟩
theorem dn_ok {lo hi p d : UInt32} (h1 : lo ∈ FV) (h2 : hi ∈ FV) (h3 : p ∈ FPd) (h4 : d ∈ FV) : FP.fsub (FP.fadd lo (FP.fmul (FP.fsub hi lo) p)) d &&& 0x7fffffff ≤ 0x7f800000 := of_decide_eq_true (fsub_nn (fp_upf lo h1 hi h2 p h3) (fp_FVf d h4))
