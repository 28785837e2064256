/-! a tick of a state, in plain words -/
def inc (c : Nat → Int32) (k : Nat) : Nat → Int32 := upd c k (c k + 1)
def goS (S : St) : St := if v4_target S = 0 then S else if v4_done S + 1 < v4_settings S 0 then u4_done S (v4_done S + 1) else u4_target (u4_gear (u4_done S (v4_done S + 1)) (v4_target S)) 0
theorem go_eq (S : St) : mf_X4_goOnWithChange S = goS S := by
  unfold mf_X4_goOnWithChange goS mf_X4_isChanging
  simp only [bnd, set_0]
  by_cases h : v4_target S = 0
  · rw [if_pos h, if_pos h]; exact if_pos rfl
  · rw [if_neg h, if_neg h, if_neg (by decide)]; rfl
def decS (S : St) : St := if v4_held S ≤ 0 then S else u4_held S (v4_held S - 1)
def tkS (S : St) (sp pe : UInt32) : St := mf_X4_countTick (u4_latestPedal (u4_latestSpeed S sp) pe)
theorem b55_a (S : St) (sp pe : UInt32) : mf_X4_passTick_B55 S sp pe (-1) = some (0, tkS S sp pe) := by
  unfold mf_X4_passTick_B55
  simp only [bnd]
  exact if_pos trivial
theorem b55_b (S : St) (sp pe : UInt32) {r : Int32} (h : ¬ r = -1) : mf_X4_passTick_B55 S sp pe r = some (1, tkS S sp pe) := by
  unfold mf_X4_passTick_B55
  simp only [bnd]
  exact if_neg h
def resS (G : St) (sp pe : UInt32) (r : Int32) : Option (Int32 × St) := if r = -1 then some (0, tkS (decS G) sp pe) else Option.bind (mf_X4_gearChosenBy (decS G) r sp) (fun n => Option.bind (mf_X4_begin (decS G) r n) (fun B => some (1, tkS B sp pe)))
theorem b21_eq (G : St) (sp pe : UInt32) (r : Int32) : mf_X4_passTick_B21 G sp pe r = resS G sp pe r := by
  have key : ∀ X : St, mf_X4_passTick_B39 X sp pe r = if r = -1 then some (0, tkS X sp pe) else Option.bind (mf_X4_gearChosenBy X r sp) (fun n => Option.bind (mf_X4_begin X r n) (fun B => some (1, tkS B sp pe))) := by
    intro X
    unfold mf_X4_passTick_B39
    by_cases h : r = -1
    · rw [if_pos h, if_pos h, h, b55_a]
    · rw [if_neg h, if_neg h]
      congr 1
      funext n
      congr 1
      funext B
      exact b55_b B sp pe h
  unfold mf_X4_passTick_B21 resS decS
  simp only [bnd]
  by_cases h : v4_held G ≤ 0
  · rw [if_pos h, if_pos h, key]
  · rw [if_neg h, if_neg h, key]
theorem pass_eq (S : St) (sp pe : UInt32) : mf_X4_passTick S sp pe = if v4_target (goS S) = 0 then Option.bind (mf_X4_reasonToChange (goS S) sp pe) (fun r => resS (goS S) sp pe r) else some (0, tkS (decS (goS S)) sp pe) := by
  unfold mf_X4_passTick
  simp only [bnd, go_eq, b21_eq]
  unfold mf_X4_isChanging
  by_cases h : v4_target (goS S) = 0
  · rw [if_pos h, if_pos h]
    exact if_pos rfl
  · rw [if_neg h, if_neg h, if_neg (by decide)]
    exact if_pos rfl
theorem com_eq (S : St) {k : Nat} (hk : k < 13) : mf_X4_countOneMore S (nI k) = u4_counts S (inc (v4_counts S) k) := by
  have h13 : ¬ (13 : Int32) ≤ nI k := nI_ge (b := 13) hk (by omega)
  unfold mf_X4_countOneMore inc
  simp only [bnd]
  rw [if_neg (nI_pos (by omega)), if_neg h13, nI_clamp (by omega)]
theorem ct_eq (S : St) {g : Nat} (hg : v4_gear S = nI g) (h1 : 1 ≤ g) (h5 : g ≤ 5) : mf_X4_countTick S = if v4_target S = 0 then u4_counts S (inc (inc (v4_counts S) 0) (6 + g)) else u4_counts S (inc (inc (inc (v4_counts S) 0) (6 + g)) 12) := by
  unfold mf_X4_countTick
  have e0 : (0 : Int32) = nI 0 := by decide
  have e12 : (12 : Int32) = nI 12 := by decide
  have c0 : mf_X4_countOneMore S 0 = u4_counts S (inc (v4_counts S) 0) := by
    rw [e0]
    exact com_eq S (by omega)
  simp only [bnd, c0]
  have eg : (7 : Int32) + v4_gear (u4_counts S (inc (v4_counts S) 0)) - 1 = nI (6 + g) := by
    rw [show v4_gear (u4_counts S (inc (v4_counts S) 0)) = nI g from hg, show (7 : Int32) = nI 7 by decide, nI_add, show (1 : Int32) = nI 1 by decide, pk_sub (by omega)]
    congr 1
    omega
  rw [eg, com_eq _ (by omega)]
  unfold mf_X4_isChanging
  have et : v4_target (u4_counts (u4_counts S (inc (v4_counts S) 0)) (inc (v4_counts (u4_counts S (inc (v4_counts S) 0))) (6 + g))) = v4_target S := rfl
  rw [et]
  by_cases h : v4_target S = 0
  · rw [if_pos h, if_pos h]
    exact if_pos rfl
  · rw [if_neg h, if_neg h, if_neg (by decide), e12, com_eq _ (by omega)]
    rfl
theorem sw01 (S : St) (w : Int32) : mf_X4_swings S w = 0 ∨ mf_X4_swings S w = 1 := by
  have k20 : ∀ z y : Int32, mf_X4_swings_B20 S z y = 0 ∨ mf_X4_swings_B20 S z y = 1 := by
    intro z y
    unfold mf_X4_swings_B20
    simp only [bnd]
    split
    · split
      · split
        · exact Or.inl rfl
        · exact Or.inr rfl
      · exact Or.inl rfl
    · exact Or.inl rfl
  have k11 : mf_X4_swings_B11 S w = 0 ∨ mf_X4_swings_B11 S w = 1 := by
    unfold mf_X4_swings_B11
    split <;> exact k20 _ _
  unfold mf_X4_swings
  split
  · exact k11
  · split
    · exact k11
    · exact Or.inl rfl
def begB (S : St) (a w : Nat) (nx h : Int32) : St := u4_counts (u4_done (u4_target (u4_log S (addL (v4_log S) a (v4_counts S 0) (v4_gear S) nx (nI w) h)) nx) 0) (inc (v4_counts S) (1 + w))
def begS (S : St) (a w : Nat) (nx h : Int32) : St := if h = 0 then begB S a w nx h else u4_counts (u4_held (begB S a w nx h) (v4_settings S 3)) (inc (inc (v4_counts S) (1 + w)) 6)
theorem beg_eq (S : St) {a w : Nat} (ha : a < 10) (hn : v2_next (v4_log S) = nI a) (hw : w < 5) (nx : Int32) : mf_X4_begin S (nI w) nx = some (begS S a w nx (mf_X4_swings S (nI w))) := by
  unfold mf_X4_begin
  simp only [bnd]
  have et : mf_X4_tick S = v4_counts S 0 := rfl
  rw [et, add_eq _ ha hn _ _ _ _ _ (sw01 S (nI w)), Option.bind_some]
  have ew : (1 : Int32) + nI w = nI (1 + w) := by rw [show (1 : Int32) = nI 1 by decide, nI_add]
  rw [ew, com_eq _ (by omega)]
  have e6 : (6 : Int32) = nI 6 := by decide
  unfold begS
  by_cases h : mf_X4_swings S (nI w) = 0
  · rw [if_pos h, if_pos h]
    rfl
  · rw [if_neg h, if_neg h, e6, com_eq _ (by omega), set_3]
    rfl
