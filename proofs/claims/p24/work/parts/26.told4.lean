theorem pt_1_2 (V : CarV) {T : Int32} {n lag k : Nat} (hn20 : n < 21) (hgn : lag < n) (hkn : k < n) (hg : v4_gear (v5_now V) = 1) (ht : v4_target (v5_now V) = 2) (hn : v4_settings (v5_now V) 0 = nI n) (hl : v4_settings (v5_now V) 1 = nI lag) (hk : v4_done (v5_now V) = nI k) (hI : NowOK T (v5_now V)) : mf_L_told V = some 1 := by
  obtain ⟨-, hC, hL, hz⟩ := hI
  have hL2 : LogOK (v4_log (v5_now V)) (v4_counts (v5_now V) 0) (if (2 : Int32) = -5 then 1 else 2) := by
    rw [if_neg (by decide)]
    unfold LastG at hL
    rw [ht, if_neg (by decide)] at hL
    exact hL
  have htn : ¬ v4_target (v5_now V) = 0 := by rw [ht]; decide
  obtain ⟨h1, h2, h3, h4, hcl⟩ := fpt_use (fpt_all n hn20 lag hgn k hkn)
  have hn0 : ¬ nI n ≤ 0 := nI_nle (by omega) (by omega)
  have hln : nI lag < nI n := nI_lt hgn (by omega)
  have hop := op_pr (v5_now V) hn hk hn0 h1 h3
  have hk0 : ¬ nI k < 0 := nI_pos (by omega)
  have hk1 : ¬ nI n ≤ nI k := nI_ge hkn (by omega)
  by_cases hc : lag < k
  · have hc1 : nI lag < nI k := nI_lt hc (by omega)
    have hc2 : ¬ nI k ≤ nI lag := nI_ge hc (by omega)
    obtain ⟨h5, h6, h7⟩ := hcl _ (if_pos hc).symm
    have hcp := cl_pra (v5_now V) hn hl hk hln hc2 h2
    rw [tc_1_2a V hg ht hn hl hk hn0 hln hc1 hc2 h1 h2 h3 h4 h5, b48_ch V _ _ _ _ _ _ (by decide) hk0 hk1 (by decide)]
    exact told_tail V _ _ _ hC hL2 hz (force_ch V htn hop hcp) h7
  · have hc1 : ¬ nI lag < nI k := nI_nlt (by omega) (by omega)
    have hc2 : nI k ≤ nI lag := nI_le (by omega) (by omega)
    obtain ⟨h5, h6, h7⟩ := hcl _ (if_neg hc).symm
    have hcp := cl_prb (v5_now V) hl hk hc2
    rw [tc_1_2b V hg ht hn hl hk hn0 hln hc1 hc2 h1 h2 h3 h4 h5, b48_ch V _ _ _ _ _ _ (by decide) hk0 hk1 (by decide)]
    exact told_tail V _ _ _ hC hL2 hz (force_ch V htn hop hcp) h7
theorem pt_2_1 (V : CarV) {T : Int32} {n lag k : Nat} (hn20 : n < 21) (hgn : lag < n) (hkn : k < n) (hg : v4_gear (v5_now V) = 2) (ht : v4_target (v5_now V) = 1) (hn : v4_settings (v5_now V) 0 = nI n) (hl : v4_settings (v5_now V) 1 = nI lag) (hk : v4_done (v5_now V) = nI k) (hI : NowOK T (v5_now V)) : mf_L_told V = some 1 := by
  obtain ⟨-, hC, hL, hz⟩ := hI
  have hL2 : LogOK (v4_log (v5_now V)) (v4_counts (v5_now V) 0) (if (1 : Int32) = -5 then 2 else 1) := by
    rw [if_neg (by decide)]
    unfold LastG at hL
    rw [ht, if_neg (by decide)] at hL
    exact hL
  have htn : ¬ v4_target (v5_now V) = 0 := by rw [ht]; decide
  obtain ⟨h1, h2, h3, h4, hcl⟩ := fpt_use (fpt_all n hn20 lag hgn k hkn)
  have hn0 : ¬ nI n ≤ 0 := nI_nle (by omega) (by omega)
  have hln : nI lag < nI n := nI_lt hgn (by omega)
  have hop := op_pr (v5_now V) hn hk hn0 h1 h3
  have hk0 : ¬ nI k < 0 := nI_pos (by omega)
  have hk1 : ¬ nI n ≤ nI k := nI_ge hkn (by omega)
  by_cases hc : lag < k
  · have hc1 : nI lag < nI k := nI_lt hc (by omega)
    have hc2 : ¬ nI k ≤ nI lag := nI_ge hc (by omega)
    obtain ⟨h5, h6, h7⟩ := hcl _ (if_pos hc).symm
    have hcp := cl_pra (v5_now V) hn hl hk hln hc2 h2
    rw [tc_2_1a V hg ht hn hl hk hn0 hln hc1 hc2 h1 h2 h3 h4 h5, b48_ch V _ _ _ _ _ _ (by decide) hk0 hk1 (by decide)]
    exact told_tail V _ _ _ hC hL2 hz (force_ch V htn hop hcp) h6
  · have hc1 : ¬ nI lag < nI k := nI_nlt (by omega) (by omega)
    have hc2 : nI k ≤ nI lag := nI_le (by omega) (by omega)
    obtain ⟨h5, h6, h7⟩ := hcl _ (if_neg hc).symm
    have hcp := cl_prb (v5_now V) hl hk hc2
    rw [tc_2_1b V hg ht hn hl hk hn0 hln hc1 hc2 h1 h2 h3 h4 h5, b48_ch V _ _ _ _ _ _ (by decide) hk0 hk1 (by decide)]
    exact told_tail V _ _ _ hC hL2 hz (force_ch V htn hop hcp) h6
theorem pt_2_3 (V : CarV) {T : Int32} {n lag k : Nat} (hn20 : n < 21) (hgn : lag < n) (hkn : k < n) (hg : v4_gear (v5_now V) = 2) (ht : v4_target (v5_now V) = 3) (hn : v4_settings (v5_now V) 0 = nI n) (hl : v4_settings (v5_now V) 1 = nI lag) (hk : v4_done (v5_now V) = nI k) (hI : NowOK T (v5_now V)) : mf_L_told V = some 1 := by
  obtain ⟨-, hC, hL, hz⟩ := hI
  have hL2 : LogOK (v4_log (v5_now V)) (v4_counts (v5_now V) 0) (if (3 : Int32) = -5 then 2 else 3) := by
    rw [if_neg (by decide)]
    unfold LastG at hL
    rw [ht, if_neg (by decide)] at hL
    exact hL
  have htn : ¬ v4_target (v5_now V) = 0 := by rw [ht]; decide
  obtain ⟨h1, h2, h3, h4, hcl⟩ := fpt_use (fpt_all n hn20 lag hgn k hkn)
  have hn0 : ¬ nI n ≤ 0 := nI_nle (by omega) (by omega)
  have hln : nI lag < nI n := nI_lt hgn (by omega)
  have hop := op_pr (v5_now V) hn hk hn0 h1 h3
  have hk0 : ¬ nI k < 0 := nI_pos (by omega)
  have hk1 : ¬ nI n ≤ nI k := nI_ge hkn (by omega)
  by_cases hc : lag < k
  · have hc1 : nI lag < nI k := nI_lt hc (by omega)
    have hc2 : ¬ nI k ≤ nI lag := nI_ge hc (by omega)
    obtain ⟨h5, h6, h7⟩ := hcl _ (if_pos hc).symm
    have hcp := cl_pra (v5_now V) hn hl hk hln hc2 h2
    rw [tc_2_3a V hg ht hn hl hk hn0 hln hc1 hc2 h1 h2 h3 h4 h5, b48_ch V _ _ _ _ _ _ (by decide) hk0 hk1 (by decide)]
    exact told_tail V _ _ _ hC hL2 hz (force_ch V htn hop hcp) h7
  · have hc1 : ¬ nI lag < nI k := nI_nlt (by omega) (by omega)
    have hc2 : nI k ≤ nI lag := nI_le (by omega) (by omega)
    obtain ⟨h5, h6, h7⟩ := hcl _ (if_neg hc).symm
    have hcp := cl_prb (v5_now V) hl hk hc2
    rw [tc_2_3b V hg ht hn hl hk hn0 hln hc1 hc2 h1 h2 h3 h4 h5, b48_ch V _ _ _ _ _ _ (by decide) hk0 hk1 (by decide)]
    exact told_tail V _ _ _ hC hL2 hz (force_ch V htn hop hcp) h7
theorem pt_3_2 (V : CarV) {T : Int32} {n lag k : Nat} (hn20 : n < 21) (hgn : lag < n) (hkn : k < n) (hg : v4_gear (v5_now V) = 3) (ht : v4_target (v5_now V) = 2) (hn : v4_settings (v5_now V) 0 = nI n) (hl : v4_settings (v5_now V) 1 = nI lag) (hk : v4_done (v5_now V) = nI k) (hI : NowOK T (v5_now V)) : mf_L_told V = some 1 := by
  obtain ⟨-, hC, hL, hz⟩ := hI
  have hL2 : LogOK (v4_log (v5_now V)) (v4_counts (v5_now V) 0) (if (2 : Int32) = -5 then 3 else 2) := by
    rw [if_neg (by decide)]
    unfold LastG at hL
    rw [ht, if_neg (by decide)] at hL
    exact hL
  have htn : ¬ v4_target (v5_now V) = 0 := by rw [ht]; decide
  obtain ⟨h1, h2, h3, h4, hcl⟩ := fpt_use (fpt_all n hn20 lag hgn k hkn)
  have hn0 : ¬ nI n ≤ 0 := nI_nle (by omega) (by omega)
  have hln : nI lag < nI n := nI_lt hgn (by omega)
  have hop := op_pr (v5_now V) hn hk hn0 h1 h3
  have hk0 : ¬ nI k < 0 := nI_pos (by omega)
  have hk1 : ¬ nI n ≤ nI k := nI_ge hkn (by omega)
  by_cases hc : lag < k
  · have hc1 : nI lag < nI k := nI_lt hc (by omega)
    have hc2 : ¬ nI k ≤ nI lag := nI_ge hc (by omega)
    obtain ⟨h5, h6, h7⟩ := hcl _ (if_pos hc).symm
    have hcp := cl_pra (v5_now V) hn hl hk hln hc2 h2
    rw [tc_3_2a V hg ht hn hl hk hn0 hln hc1 hc2 h1 h2 h3 h4 h5, b48_ch V _ _ _ _ _ _ (by decide) hk0 hk1 (by decide)]
    exact told_tail V _ _ _ hC hL2 hz (force_ch V htn hop hcp) h6
  · have hc1 : ¬ nI lag < nI k := nI_nlt (by omega) (by omega)
    have hc2 : nI k ≤ nI lag := nI_le (by omega) (by omega)
    obtain ⟨h5, h6, h7⟩ := hcl _ (if_neg hc).symm
    have hcp := cl_prb (v5_now V) hl hk hc2
    rw [tc_3_2b V hg ht hn hl hk hn0 hln hc1 hc2 h1 h2 h3 h4 h5, b48_ch V _ _ _ _ _ _ (by decide) hk0 hk1 (by decide)]
    exact told_tail V _ _ _ hC hL2 hz (force_ch V htn hop hcp) h6
theorem pt_3_4 (V : CarV) {T : Int32} {n lag k : Nat} (hn20 : n < 21) (hgn : lag < n) (hkn : k < n) (hg : v4_gear (v5_now V) = 3) (ht : v4_target (v5_now V) = 4) (hn : v4_settings (v5_now V) 0 = nI n) (hl : v4_settings (v5_now V) 1 = nI lag) (hk : v4_done (v5_now V) = nI k) (hI : NowOK T (v5_now V)) : mf_L_told V = some 1 := by
  obtain ⟨-, hC, hL, hz⟩ := hI
  have hL2 : LogOK (v4_log (v5_now V)) (v4_counts (v5_now V) 0) (if (4 : Int32) = -5 then 3 else 4) := by
    rw [if_neg (by decide)]
    unfold LastG at hL
    rw [ht, if_neg (by decide)] at hL
    exact hL
  have htn : ¬ v4_target (v5_now V) = 0 := by rw [ht]; decide
  obtain ⟨h1, h2, h3, h4, hcl⟩ := fpt_use (fpt_all n hn20 lag hgn k hkn)
  have hn0 : ¬ nI n ≤ 0 := nI_nle (by omega) (by omega)
  have hln : nI lag < nI n := nI_lt hgn (by omega)
  have hop := op_pr (v5_now V) hn hk hn0 h1 h3
  have hk0 : ¬ nI k < 0 := nI_pos (by omega)
  have hk1 : ¬ nI n ≤ nI k := nI_ge hkn (by omega)
  by_cases hc : lag < k
  · have hc1 : nI lag < nI k := nI_lt hc (by omega)
    have hc2 : ¬ nI k ≤ nI lag := nI_ge hc (by omega)
    obtain ⟨h5, h6, h7⟩ := hcl _ (if_pos hc).symm
    have hcp := cl_pra (v5_now V) hn hl hk hln hc2 h2
    rw [tc_3_4a V hg ht hn hl hk hn0 hln hc1 hc2 h1 h2 h3 h4 h5, b48_ch V _ _ _ _ _ _ (by decide) hk0 hk1 (by decide)]
    exact told_tail V _ _ _ hC hL2 hz (force_ch V htn hop hcp) h7
  · have hc1 : ¬ nI lag < nI k := nI_nlt (by omega) (by omega)
    have hc2 : nI k ≤ nI lag := nI_le (by omega) (by omega)
    obtain ⟨h5, h6, h7⟩ := hcl _ (if_neg hc).symm
    have hcp := cl_prb (v5_now V) hl hk hc2
    rw [tc_3_4b V hg ht hn hl hk hn0 hln hc1 hc2 h1 h2 h3 h4 h5, b48_ch V _ _ _ _ _ _ (by decide) hk0 hk1 (by decide)]
    exact told_tail V _ _ _ hC hL2 hz (force_ch V htn hop hcp) h7
theorem pt_4_3 (V : CarV) {T : Int32} {n lag k : Nat} (hn20 : n < 21) (hgn : lag < n) (hkn : k < n) (hg : v4_gear (v5_now V) = 4) (ht : v4_target (v5_now V) = 3) (hn : v4_settings (v5_now V) 0 = nI n) (hl : v4_settings (v5_now V) 1 = nI lag) (hk : v4_done (v5_now V) = nI k) (hI : NowOK T (v5_now V)) : mf_L_told V = some 1 := by
  obtain ⟨-, hC, hL, hz⟩ := hI
  have hL2 : LogOK (v4_log (v5_now V)) (v4_counts (v5_now V) 0) (if (3 : Int32) = -5 then 4 else 3) := by
    rw [if_neg (by decide)]
    unfold LastG at hL
    rw [ht, if_neg (by decide)] at hL
    exact hL
  have htn : ¬ v4_target (v5_now V) = 0 := by rw [ht]; decide
  obtain ⟨h1, h2, h3, h4, hcl⟩ := fpt_use (fpt_all n hn20 lag hgn k hkn)
  have hn0 : ¬ nI n ≤ 0 := nI_nle (by omega) (by omega)
  have hln : nI lag < nI n := nI_lt hgn (by omega)
  have hop := op_pr (v5_now V) hn hk hn0 h1 h3
  have hk0 : ¬ nI k < 0 := nI_pos (by omega)
  have hk1 : ¬ nI n ≤ nI k := nI_ge hkn (by omega)
  by_cases hc : lag < k
  · have hc1 : nI lag < nI k := nI_lt hc (by omega)
    have hc2 : ¬ nI k ≤ nI lag := nI_ge hc (by omega)
    obtain ⟨h5, h6, h7⟩ := hcl _ (if_pos hc).symm
    have hcp := cl_pra (v5_now V) hn hl hk hln hc2 h2
    rw [tc_4_3a V hg ht hn hl hk hn0 hln hc1 hc2 h1 h2 h3 h4 h5, b48_ch V _ _ _ _ _ _ (by decide) hk0 hk1 (by decide)]
    exact told_tail V _ _ _ hC hL2 hz (force_ch V htn hop hcp) h6
  · have hc1 : ¬ nI lag < nI k := nI_nlt (by omega) (by omega)
    have hc2 : nI k ≤ nI lag := nI_le (by omega) (by omega)
    obtain ⟨h5, h6, h7⟩ := hcl _ (if_neg hc).symm
    have hcp := cl_prb (v5_now V) hl hk hc2
    rw [tc_4_3b V hg ht hn hl hk hn0 hln hc1 hc2 h1 h2 h3 h4 h5, b48_ch V _ _ _ _ _ _ (by decide) hk0 hk1 (by decide)]
    exact told_tail V _ _ _ hC hL2 hz (force_ch V htn hop hcp) h6
theorem pt_4_5 (V : CarV) {T : Int32} {n lag k : Nat} (hn20 : n < 21) (hgn : lag < n) (hkn : k < n) (hg : v4_gear (v5_now V) = 4) (ht : v4_target (v5_now V) = 5) (hn : v4_settings (v5_now V) 0 = nI n) (hl : v4_settings (v5_now V) 1 = nI lag) (hk : v4_done (v5_now V) = nI k) (hI : NowOK T (v5_now V)) : mf_L_told V = some 1 := by
  obtain ⟨-, hC, hL, hz⟩ := hI
  have hL2 : LogOK (v4_log (v5_now V)) (v4_counts (v5_now V) 0) (if (5 : Int32) = -5 then 4 else 5) := by
    rw [if_neg (by decide)]
    unfold LastG at hL
    rw [ht, if_neg (by decide)] at hL
    exact hL
  have htn : ¬ v4_target (v5_now V) = 0 := by rw [ht]; decide
  obtain ⟨h1, h2, h3, h4, hcl⟩ := fpt_use (fpt_all n hn20 lag hgn k hkn)
  have hn0 : ¬ nI n ≤ 0 := nI_nle (by omega) (by omega)
  have hln : nI lag < nI n := nI_lt hgn (by omega)
  have hop := op_pr (v5_now V) hn hk hn0 h1 h3
  have hk0 : ¬ nI k < 0 := nI_pos (by omega)
  have hk1 : ¬ nI n ≤ nI k := nI_ge hkn (by omega)
  by_cases hc : lag < k
  · have hc1 : nI lag < nI k := nI_lt hc (by omega)
    have hc2 : ¬ nI k ≤ nI lag := nI_ge hc (by omega)
    obtain ⟨h5, h6, h7⟩ := hcl _ (if_pos hc).symm
    have hcp := cl_pra (v5_now V) hn hl hk hln hc2 h2
    rw [tc_4_5a V hg ht hn hl hk hn0 hln hc1 hc2 h1 h2 h3 h4 h5, b48_ch V _ _ _ _ _ _ (by decide) hk0 hk1 (by decide)]
    exact told_tail V _ _ _ hC hL2 hz (force_ch V htn hop hcp) h6
  · have hc1 : ¬ nI lag < nI k := nI_nlt (by omega) (by omega)
    have hc2 : nI k ≤ nI lag := nI_le (by omega) (by omega)
    obtain ⟨h5, h6, h7⟩ := hcl _ (if_neg hc).symm
    have hcp := cl_prb (v5_now V) hl hk hc2
    rw [tc_4_5b V hg ht hn hl hk hn0 hln hc1 hc2 h1 h2 h3 h4 h5, b48_ch V _ _ _ _ _ _ (by decide) hk0 hk1 (by decide)]
    exact told_tail V _ _ _ hC hL2 hz (force_ch V htn hop hcp) h6
theorem pt_5_4 (V : CarV) {T : Int32} {n lag k : Nat} (hn20 : n < 21) (hgn : lag < n) (hkn : k < n) (hg : v4_gear (v5_now V) = 5) (ht : v4_target (v5_now V) = 4) (hn : v4_settings (v5_now V) 0 = nI n) (hl : v4_settings (v5_now V) 1 = nI lag) (hk : v4_done (v5_now V) = nI k) (hI : NowOK T (v5_now V)) : mf_L_told V = some 1 := by
  obtain ⟨-, hC, hL, hz⟩ := hI
  have hL2 : LogOK (v4_log (v5_now V)) (v4_counts (v5_now V) 0) (if (4 : Int32) = -5 then 5 else 4) := by
    rw [if_neg (by decide)]
    unfold LastG at hL
    rw [ht, if_neg (by decide)] at hL
    exact hL
  have htn : ¬ v4_target (v5_now V) = 0 := by rw [ht]; decide
  obtain ⟨h1, h2, h3, h4, hcl⟩ := fpt_use (fpt_all n hn20 lag hgn k hkn)
  have hn0 : ¬ nI n ≤ 0 := nI_nle (by omega) (by omega)
  have hln : nI lag < nI n := nI_lt hgn (by omega)
  have hop := op_pr (v5_now V) hn hk hn0 h1 h3
  have hk0 : ¬ nI k < 0 := nI_pos (by omega)
  have hk1 : ¬ nI n ≤ nI k := nI_ge hkn (by omega)
  by_cases hc : lag < k
  · have hc1 : nI lag < nI k := nI_lt hc (by omega)
    have hc2 : ¬ nI k ≤ nI lag := nI_ge hc (by omega)
    obtain ⟨h5, h6, h7⟩ := hcl _ (if_pos hc).symm
    have hcp := cl_pra (v5_now V) hn hl hk hln hc2 h2
    rw [tc_5_4a V hg ht hn hl hk hn0 hln hc1 hc2 h1 h2 h3 h4 h5, b48_ch V _ _ _ _ _ _ (by decide) hk0 hk1 (by decide)]
    exact told_tail V _ _ _ hC hL2 hz (force_ch V htn hop hcp) h7
  · have hc1 : ¬ nI lag < nI k := nI_nlt (by omega) (by omega)
    have hc2 : nI k ≤ nI lag := nI_le (by omega) (by omega)
    obtain ⟨h5, h6, h7⟩ := hcl _ (if_neg hc).symm
    have hcp := cl_prb (v5_now V) hl hk hc2
    rw [tc_5_4b V hg ht hn hl hk hn0 hln hc1 hc2 h1 h2 h3 h4 h5, b48_ch V _ _ _ _ _ _ (by decide) hk0 hk1 (by decide)]
    exact told_tail V _ _ _ hC hL2 hz (force_ch V htn hop hcp) h7
theorem pt_3_1 (V : CarV) {T : Int32} {n lag k : Nat} (hn20 : n < 21) (hgn : lag < n) (hkn : k < n) (hg : v4_gear (v5_now V) = 3) (ht : v4_target (v5_now V) = 1) (hn : v4_settings (v5_now V) 0 = nI n) (hl : v4_settings (v5_now V) 1 = nI lag) (hk : v4_done (v5_now V) = nI k) (hI : NowOK T (v5_now V)) : mf_L_told V = some 1 := by
  obtain ⟨-, hC, hL, hz⟩ := hI
  have hL2 : LogOK (v4_log (v5_now V)) (v4_counts (v5_now V) 0) (if (1 : Int32) = -5 then 3 else 1) := by
    rw [if_neg (by decide)]
    unfold LastG at hL
    rw [ht, if_neg (by decide)] at hL
    exact hL
  have htn : ¬ v4_target (v5_now V) = 0 := by rw [ht]; decide
  obtain ⟨h1, h2, h3, h4, hcl⟩ := fpt_use (fpt_all n hn20 lag hgn k hkn)
  have hn0 : ¬ nI n ≤ 0 := nI_nle (by omega) (by omega)
  have hln : nI lag < nI n := nI_lt hgn (by omega)
  have hop := op_pr (v5_now V) hn hk hn0 h1 h3
  have hk0 : ¬ nI k < 0 := nI_pos (by omega)
  have hk1 : ¬ nI n ≤ nI k := nI_ge hkn (by omega)
  by_cases hc : lag < k
  · have hc1 : nI lag < nI k := nI_lt hc (by omega)
    have hc2 : ¬ nI k ≤ nI lag := nI_ge hc (by omega)
    obtain ⟨h5, h6, h7⟩ := hcl _ (if_pos hc).symm
    have hcp := cl_pra (v5_now V) hn hl hk hln hc2 h2
    rw [tc_3_1a V hg ht hn hl hk hn0 hln hc1 hc2 h1 h2 h3 h4 h5, b48_ch V _ _ _ _ _ _ (by decide) hk0 hk1 (by decide)]
    exact told_tail V _ _ _ hC hL2 hz (force_ch V htn hop hcp) h6
  · have hc1 : ¬ nI lag < nI k := nI_nlt (by omega) (by omega)
    have hc2 : nI k ≤ nI lag := nI_le (by omega) (by omega)
    obtain ⟨h5, h6, h7⟩ := hcl _ (if_neg hc).symm
    have hcp := cl_prb (v5_now V) hl hk hc2
    rw [tc_3_1b V hg ht hn hl hk hn0 hln hc1 hc2 h1 h2 h3 h4 h5, b48_ch V _ _ _ _ _ _ (by decide) hk0 hk1 (by decide)]
    exact told_tail V _ _ _ hC hL2 hz (force_ch V htn hop hcp) h6
theorem pt_4_2 (V : CarV) {T : Int32} {n lag k : Nat} (hn20 : n < 21) (hgn : lag < n) (hkn : k < n) (hg : v4_gear (v5_now V) = 4) (ht : v4_target (v5_now V) = 2) (hn : v4_settings (v5_now V) 0 = nI n) (hl : v4_settings (v5_now V) 1 = nI lag) (hk : v4_done (v5_now V) = nI k) (hI : NowOK T (v5_now V)) : mf_L_told V = some 1 := by
  obtain ⟨-, hC, hL, hz⟩ := hI
  have hL2 : LogOK (v4_log (v5_now V)) (v4_counts (v5_now V) 0) (if (2 : Int32) = -5 then 4 else 2) := by
    rw [if_neg (by decide)]
    unfold LastG at hL
    rw [ht, if_neg (by decide)] at hL
    exact hL
  have htn : ¬ v4_target (v5_now V) = 0 := by rw [ht]; decide
  obtain ⟨h1, h2, h3, h4, hcl⟩ := fpt_use (fpt_all n hn20 lag hgn k hkn)
  have hn0 : ¬ nI n ≤ 0 := nI_nle (by omega) (by omega)
  have hln : nI lag < nI n := nI_lt hgn (by omega)
  have hop := op_pr (v5_now V) hn hk hn0 h1 h3
  have hk0 : ¬ nI k < 0 := nI_pos (by omega)
  have hk1 : ¬ nI n ≤ nI k := nI_ge hkn (by omega)
  by_cases hc : lag < k
  · have hc1 : nI lag < nI k := nI_lt hc (by omega)
    have hc2 : ¬ nI k ≤ nI lag := nI_ge hc (by omega)
    obtain ⟨h5, h6, h7⟩ := hcl _ (if_pos hc).symm
    have hcp := cl_pra (v5_now V) hn hl hk hln hc2 h2
    rw [tc_4_2a V hg ht hn hl hk hn0 hln hc1 hc2 h1 h2 h3 h4 h5, b48_ch V _ _ _ _ _ _ (by decide) hk0 hk1 (by decide)]
    exact told_tail V _ _ _ hC hL2 hz (force_ch V htn hop hcp) h6
  · have hc1 : ¬ nI lag < nI k := nI_nlt (by omega) (by omega)
    have hc2 : nI k ≤ nI lag := nI_le (by omega) (by omega)
    obtain ⟨h5, h6, h7⟩ := hcl _ (if_neg hc).symm
    have hcp := cl_prb (v5_now V) hl hk hc2
    rw [tc_4_2b V hg ht hn hl hk hn0 hln hc1 hc2 h1 h2 h3 h4 h5, b48_ch V _ _ _ _ _ _ (by decide) hk0 hk1 (by decide)]
    exact told_tail V _ _ _ hC hL2 hz (force_ch V htn hop hcp) h6
theorem pt_5_3 (V : CarV) {T : Int32} {n lag k : Nat} (hn20 : n < 21) (hgn : lag < n) (hkn : k < n) (hg : v4_gear (v5_now V) = 5) (ht : v4_target (v5_now V) = 3) (hn : v4_settings (v5_now V) 0 = nI n) (hl : v4_settings (v5_now V) 1 = nI lag) (hk : v4_done (v5_now V) = nI k) (hI : NowOK T (v5_now V)) : mf_L_told V = some 1 := by
  obtain ⟨-, hC, hL, hz⟩ := hI
  have hL2 : LogOK (v4_log (v5_now V)) (v4_counts (v5_now V) 0) (if (3 : Int32) = -5 then 5 else 3) := by
    rw [if_neg (by decide)]
    unfold LastG at hL
    rw [ht, if_neg (by decide)] at hL
    exact hL
  have htn : ¬ v4_target (v5_now V) = 0 := by rw [ht]; decide
  obtain ⟨h1, h2, h3, h4, hcl⟩ := fpt_use (fpt_all n hn20 lag hgn k hkn)
  have hn0 : ¬ nI n ≤ 0 := nI_nle (by omega) (by omega)
  have hln : nI lag < nI n := nI_lt hgn (by omega)
  have hop := op_pr (v5_now V) hn hk hn0 h1 h3
  have hk0 : ¬ nI k < 0 := nI_pos (by omega)
  have hk1 : ¬ nI n ≤ nI k := nI_ge hkn (by omega)
  by_cases hc : lag < k
  · have hc1 : nI lag < nI k := nI_lt hc (by omega)
    have hc2 : ¬ nI k ≤ nI lag := nI_ge hc (by omega)
    obtain ⟨h5, h6, h7⟩ := hcl _ (if_pos hc).symm
    have hcp := cl_pra (v5_now V) hn hl hk hln hc2 h2
    rw [tc_5_3a V hg ht hn hl hk hn0 hln hc1 hc2 h1 h2 h3 h4 h5, b48_ch V _ _ _ _ _ _ (by decide) hk0 hk1 (by decide)]
    exact told_tail V _ _ _ hC hL2 hz (force_ch V htn hop hcp) h7
  · have hc1 : ¬ nI lag < nI k := nI_nlt (by omega) (by omega)
    have hc2 : nI k ≤ nI lag := nI_le (by omega) (by omega)
    obtain ⟨h5, h6, h7⟩ := hcl _ (if_neg hc).symm
    have hcp := cl_prb (v5_now V) hl hk hc2
    rw [tc_5_3b V hg ht hn hl hk hn0 hln hc1 hc2 h1 h2 h3 h4 h5, b48_ch V _ _ _ _ _ _ (by decide) hk0 hk1 (by decide)]
    exact told_tail V _ _ _ hC hL2 hz (force_ch V htn hop hcp) h7
theorem pt_1 (V : CarV) {T : Int32} (hg : v4_gear (v5_now V) = 1) (ht : v4_target (v5_now V) = 0) (hI : NowOK T (v5_now V)) : mf_L_told V = some 1 := by
  obtain ⟨-, hC, hL, hz⟩ := hI
  have hL2 : LogOK (v4_log (v5_now V)) (v4_counts (v5_now V) 0) (if (-5 : Int32) = -5 then 1 else -5) := by
    rw [if_pos (by decide)]
    unfold LastG at hL
    rw [if_pos ht, hg] at hL
    exact hL
  rw [tc_1 V hg ht rfl rfl, b48_no V _ _ _ _ ht]
  exact told_tail V _ _ _ hC hL2 hz (force_no V ht) fcl_11
theorem pt_2 (V : CarV) {T : Int32} (hg : v4_gear (v5_now V) = 2) (ht : v4_target (v5_now V) = 0) (hI : NowOK T (v5_now V)) : mf_L_told V = some 1 := by
  obtain ⟨-, hC, hL, hz⟩ := hI
  have hL2 : LogOK (v4_log (v5_now V)) (v4_counts (v5_now V) 0) (if (-5 : Int32) = -5 then 2 else -5) := by
    rw [if_pos (by decide)]
    unfold LastG at hL
    rw [if_pos ht, hg] at hL
    exact hL
  rw [tc_2 V hg ht rfl rfl, b48_no V _ _ _ _ ht]
  exact told_tail V _ _ _ hC hL2 hz (force_no V ht) fcl_11
theorem pt_3 (V : CarV) {T : Int32} (hg : v4_gear (v5_now V) = 3) (ht : v4_target (v5_now V) = 0) (hI : NowOK T (v5_now V)) : mf_L_told V = some 1 := by
  obtain ⟨-, hC, hL, hz⟩ := hI
  have hL2 : LogOK (v4_log (v5_now V)) (v4_counts (v5_now V) 0) (if (-5 : Int32) = -5 then 3 else -5) := by
    rw [if_pos (by decide)]
    unfold LastG at hL
    rw [if_pos ht, hg] at hL
    exact hL
  rw [tc_3 V hg ht rfl rfl, b48_no V _ _ _ _ ht]
  exact told_tail V _ _ _ hC hL2 hz (force_no V ht) fcl_11
theorem pt_4 (V : CarV) {T : Int32} (hg : v4_gear (v5_now V) = 4) (ht : v4_target (v5_now V) = 0) (hI : NowOK T (v5_now V)) : mf_L_told V = some 1 := by
  obtain ⟨-, hC, hL, hz⟩ := hI
  have hL2 : LogOK (v4_log (v5_now V)) (v4_counts (v5_now V) 0) (if (-5 : Int32) = -5 then 4 else -5) := by
    rw [if_pos (by decide)]
    unfold LastG at hL
    rw [if_pos ht, hg] at hL
    exact hL
  rw [tc_4 V hg ht rfl rfl, b48_no V _ _ _ _ ht]
  exact told_tail V _ _ _ hC hL2 hz (force_no V ht) fcl_11
theorem pt_5 (V : CarV) {T : Int32} (hg : v4_gear (v5_now V) = 5) (ht : v4_target (v5_now V) = 0) (hI : NowOK T (v5_now V)) : mf_L_told V = some 1 := by
  obtain ⟨-, hC, hL, hz⟩ := hI
  have hL2 : LogOK (v4_log (v5_now V)) (v4_counts (v5_now V) 0) (if (-5 : Int32) = -5 then 5 else -5) := by
    rw [if_pos (by decide)]
    unfold LastG at hL
    rw [if_pos ht, hg] at hL
    exact hL
  rw [tc_5 V hg ht rfl rfl, b48_no V _ _ _ _ ht]
  exact told_tail V _ _ _ hC hL2 hz (force_no V ht) fcl_11
theorem i32_15 {x : Int32} (h : 1 ≤ x ∧ x ≤ 5) : x = 1 ∨ x = 2 ∨ x = 3 ∨ x = 4 ∨ x = 5 := by grind
theorem i32_01 {x m : Int32} (h : x < m) (h2 : m ≤ 20) : x ≤ 20 := by grind
theorem P_told0 {T : Int32} (V : CarV) (hI : NowOK T (v5_now V)) : mf_L_told V = some 1 := by
  have hS := hI.1
  obtain ⟨hg, ht, hn, hl, -⟩ := hS
  rcases ht with ht | ⟨ht, ht1, ht5, hd0, hd1⟩
  · rcases i32_15 hg with g | g | g | g | g
    · exact pt_1 V g ht hI
    · exact pt_2 V g ht hI
    · exact pt_3 V g ht hI
    · exact pt_4 V g ht hI
    · exact pt_5 V g ht hI
  · obtain ⟨n, hn20, en⟩ := i32_nat (N := 20) (m := 20) (by decide) (by decide) (Int32.le_trans (by decide) hn.1) hn.2
    obtain ⟨lag, hl20, el⟩ := i32_nat (N := 20) (m := 20) (by decide) (by decide) hl.1 (i32_01 hl.2 hn.2)
    obtain ⟨k, hk20, ek⟩ := i32_nat (N := 20) (m := 20) (by decide) (by decide) hd0 (i32_01 hd1 hn.2)
    have hgn : lag < n := (nI_ltI (by omega) (by omega)).mp (by rw [← el, ← en]; exact hl.2)
    have hkn : k < n := (nI_ltI (by omega) (by omega)).mp (by rw [← ek, ← en]; exact hd1)
    rcases i32_15 hg with g | g | g | g | g <;> rw [g] at ht <;> rcases ht with ht | ht | ht
    · exact pt_1_2 V (by omega) hgn hkn g (ht.trans (by decide)) en el ek hI
    · rw [ht] at ht1 ht5; exact absurd ht1 (by decide)
    · rw [ht] at ht1 ht5; exact absurd ht1 (by decide)
    · exact pt_2_3 V (by omega) hgn hkn g (ht.trans (by decide)) en el ek hI
    · exact pt_2_1 V (by omega) hgn hkn g (ht.trans (by decide)) en el ek hI
    · rw [ht] at ht1 ht5; exact absurd ht1 (by decide)
    · exact pt_3_4 V (by omega) hgn hkn g (ht.trans (by decide)) en el ek hI
    · exact pt_3_2 V (by omega) hgn hkn g (ht.trans (by decide)) en el ek hI
    · exact pt_3_1 V (by omega) hgn hkn g (ht.trans (by decide)) en el ek hI
    · exact pt_4_5 V (by omega) hgn hkn g (ht.trans (by decide)) en el ek hI
    · exact pt_4_3 V (by omega) hgn hkn g (ht.trans (by decide)) en el ek hI
    · exact pt_4_2 V (by omega) hgn hkn g (ht.trans (by decide)) en el ek hI
    · rw [ht] at ht1 ht5; exact absurd ht5 (by decide)
    · exact pt_5_4 V (by omega) hgn hkn g (ht.trans (by decide)) en el ek hI
    · exact pt_5_3 V (by omega) hgn hkn g (ht.trans (by decide)) en el ek hI
