/-! the new car -/
theorem FVm_0 : ∀ i, i < 20 → mp0 i ∈ FV := by decide +kernel
theorem now_0 : NowOK (nI 0) St0 := by
  refine ⟨⟨⟨by decide, by decide⟩, Or.inl rfl, ⟨by decide, by decide⟩, ⟨by decide, by decide⟩, ⟨by decide, by decide⟩, ⟨by decide, by decide⟩, ⟨by decide, by decide⟩, Or.inl rfl, FVm_0⟩, ⟨fun i _ => show 0 ≤ (0 : Int32) ∧ (0 : Int32) ≤ nI 0 from ⟨by decide, by decide⟩, by decide, by decide⟩, ⟨⟨by decide, by decide⟩, ⟨by decide, by decide⟩, fun b hb h => ?_, fun b hb h => ?_, fun h => ?_⟩, Or.inr ⟨by decide, by decide⟩⟩
  · exact absurd h (nI_pos (by omega))
  · exact absurd h (nI_pos (by omega))
  · exact absurd h (by decide)
theorem P_start : Inv 0 Car0 := ⟨now_0, Or.inl rfl, ⟨by decide, by decide⟩, fun _ _ => Or.inl rfl⟩
