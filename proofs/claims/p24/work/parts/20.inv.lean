def Inv (T : Nat) (V : CarV) : Prop := sorry
theorem P_start : Inv 0 Car0 := sorry
theorem P_acts (g h : Int32) {T : Nat} {V : CarV} (hI : Inv T V) (hT : T ≤ 12000) : ∃ V1, mf_L_acts V g h = some (1, V1) ∧ Inv (T + 200) V1 := sorry
theorem P_told {T : Nat} {V : CarV} (hI : Inv T V) (hT : T ≤ 12000) : mf_L_told V = some 1 := sorry
theorem P_errors {T : Nat} {V : CarV} (hI : Inv T V) (hT : T ≤ 12000) : ∃ V1, mf_L_errors V = some (1, V1) := sorry
