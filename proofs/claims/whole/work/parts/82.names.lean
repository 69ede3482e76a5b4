/-! P (32): the class's names -/
section
variable {tp : Nat → Nat} {n i : Nat} {σ σ' : jd_Hp} {B : Bch}
set_option maxHeartbeats 1000000 in
theorem x_isSameText (hB : CB tp n σ) {s l s' : Nat} (h : okW tp n s l) (h' : okW tp n s' l) (k9 : σ.2.1 35 9 = nI s) (k10 : σ.2.1 35 10 = nI l) : m_X9_isSameText 35 (nI s') σ = some (if wv tp s' l = wv tp s l then nI 1 else nI 0, σ) := by
  have e1 := wv_eq h' h
  obtain ⟨hW, h6, hY, hn, ht⟩ := hB
  obtain ⟨o1, o2, o3, o4⟩ := h
  have p1 := h'.1
  unfold m_X9_isSameText
  rw [jlp_e l (fun k => nI k) (fun k => decide (¬ tp (s' + k) = tp (s + k))) (fun _ => Sum.inr 0) (Sum.inl ()) (jfu (by omega)) ?_ ?_ ?_]
  · rcases hf : (List.range l).find? (fun k => decide (¬ tp (s' + k) = tp (s + k))) with _ | k
    · rw [List.find?_eq_none] at hf
      have : wv tp s' l = wv tp s l := e1.mpr ⟨rfl, fun k hk => by
        have := hf k (List.mem_range.mpr hk)
        simpa using this⟩
      rw [if_pos this]
      rfl
    · have hk1 := List.find?_some hf
      have hk2 := List.mem_range.mp (List.mem_of_find?_eq_some hf)
      have : ¬ wv tp s' l = wv tp s l := fun h => by
        have := (e1.mp h).2 k hk2
        simp [this] at hk1
      rw [if_neg this]
      rfl
  · rfl
  · intro k hk
    have hk' : ¬ l ≤ k := by omega
    have e6 := hY (s + k) (by omega)
    have e6' := hY (s' + k) (by omega)
    have e8 := b_inj (ht (s' + k)) (ht (s + k))
    by_cases h3 : tp (s' + k) = tp (s + k)
    · simp (disch := omega) only [jb_some, jli, jif, jd_q, jd_K0, jpi_s, jpi_l, jpi_p, jpl_s, jpl_i, jpl_p, if_true, if_false, if_pos, if_neg, not_true_eq_false, not_false_eq_true, ite_true, ite_false, Nat.not_lt_zero, eq_self, Nat.le_refl, Nat.lt_irrefl, Bool.false_eq_true, or0, jo_pi, jo_pl, jia_pi, jia_pl, jo_cpy, jia_cpy, cpy_r, m_X11_grant, m_X11_refuse, m_X13_good, m_X13_refused, reduceCtorEq, nI_add, nI_leI, nI_ltI, nI_eq, pk_mul, abs_nI, max_nI, min_nI, nI_m1, nI_m2, nI_le1, m1_lt, m2_lt, and_nI, or_nI, an_nI, has_nI, bit_nI, bc_nI, bits_nI, lx0, lx1, lx2, lx3, lx4, lx5, lx6, lx7, lx8, lx9, lx10, lx11, lx16, lx20, lx40, lx60, lx90, lx99, lx100, lx200, lx900, lx999, lx9999, hk', k10, k9, e6, e6', e8, h3, not_true, decide_false, jo_35 hW, wr_35_0 hW, ja_34 hW]
    · simp (disch := omega) only [jb_some, jli, jif, jd_q, jd_K0, jpi_s, jpi_l, jpi_p, jpl_s, jpl_i, jpl_p, if_true, if_false, if_pos, if_neg, not_true_eq_false, not_false_eq_true, ite_true, ite_false, Nat.not_lt_zero, eq_self, Nat.le_refl, Nat.lt_irrefl, Bool.false_eq_true, or0, jo_pi, jo_pl, jia_pi, jia_pl, jo_cpy, jia_cpy, cpy_r, m_X11_grant, m_X11_refuse, m_X13_good, m_X13_refused, reduceCtorEq, nI_add, nI_leI, nI_ltI, nI_eq, pk_mul, abs_nI, max_nI, min_nI, nI_m1, nI_m2, nI_le1, m1_lt, m2_lt, and_nI, or_nI, an_nI, has_nI, bit_nI, bc_nI, bits_nI, lx0, lx1, lx2, lx3, lx4, lx5, lx6, lx7, lx8, lx9, lx10, lx11, lx16, lx20, lx40, lx60, lx90, lx99, lx100, lx200, lx900, lx999, lx9999, hk', k10, k9, e6, e6', e8, h3, not_false, decide_true, jo_35 hW, wr_35_0 hW, ja_34 hW]
  · simp (disch := omega) only [jb_some, jli, jif, jd_q, jd_K0, jpi_s, jpi_l, jpi_p, jpl_s, jpl_i, jpl_p, if_true, if_false, if_pos, if_neg, not_true_eq_false, not_false_eq_true, ite_true, ite_false, Nat.not_lt_zero, eq_self, Nat.le_refl, Nat.lt_irrefl, Bool.false_eq_true, or0, jo_pi, jo_pl, jia_pi, jia_pl, jo_cpy, jia_cpy, cpy_r, m_X11_grant, m_X11_refuse, m_X13_good, m_X13_refused, reduceCtorEq, nI_add, nI_leI, nI_ltI, nI_eq, pk_mul, abs_nI, max_nI, min_nI, nI_m1, nI_m2, nI_le1, m1_lt, m2_lt, and_nI, or_nI, an_nI, has_nI, bit_nI, bc_nI, bits_nI, lx0, lx1, lx2, lx3, lx4, lx5, lx6, lx7, lx8, lx9, lx10, lx11, lx16, lx20, lx40, lx60, lx90, lx99, lx100, lx200, lx900, lx999, lx9999, k10, jo_35 hW]
theorem fnd_lt {w k : Nat} (h : fnd B w = some k) : k < B 8 8 ∧ B 9 k = w := by
  have h1 := List.find?_some h
  exact ⟨List.mem_range.mp (List.mem_of_find?_eq_some h), decide_eq_true_iff.mp h1⟩
set_option maxHeartbeats 1000000 in
theorem x_nameIndex (hB : CB tp n σ) (hi : i ≤ n) (hK : CK tp n i σ) (h1 : tK tp n i = 1) (hN : NmX tp n B σ) (h5 : σ.2.1 35 5 = nI (B 8 8)) (hm : B 8 8 ≤ 11) : m_X9_nameIndex 35 σ = some ((fnd B (tW tp n i)).elim (- nI 1) nI, σ) := by
  obtain ⟨hk, -⟩ := tok_W hi h1
  obtain ⟨k8, k9, k10, k7⟩ := hK
  have hs := fun s' h' => x_isSameText (s' := s') hB hk h' k9 k10
  obtain ⟨hW, h6, hY, hn, ht⟩ := hB
  obtain ⟨ps, pl, hN⟩ := hN
  unfold m_X9_nameIndex fnd tW
  generalize tS tp n i = s at *
  generalize tE tp n i - s = l at *
  have l8 := hk.2.2.1
  rw [jlp_e (B 8 8) (fun k => nI k) (fun k => decide (B 9 k = wv tp s l)) (fun k => Sum.inr (nI k)) (Sum.inl ()) (jfu (by omega)) ?_ ?_ ?_]
  · rcases (List.range (B 8 8)).find? (fun k => decide (B 9 k = wv tp s l)) with _ | k <;> rfl
  · rfl
  · intro k hk2
    have hk' : ¬ B 8 8 ≤ k := by omega
    obtain ⟨q1, q2, q3, q4, q5, q6⟩ := hN k hk2
    have l9 := q5.2.2.1
    by_cases h3 : pl k = l
    · rw [h3] at q2 q5 q6
      have e7 := hs (ps k) q5
      rw [q6] at e7
      by_cases h4 : B 9 k = wv tp s l
      · rw [if_pos h4] at e7
        simp (disch := omega) only [jb_some, jli, jif, jd_q, jd_K0, jpi_s, jpi_l, jpi_p, jpl_s, jpl_i, jpl_p, if_true, if_false, if_pos, if_neg, not_true_eq_false, not_false_eq_true, ite_true, ite_false, Nat.not_lt_zero, eq_self, Nat.le_refl, Nat.lt_irrefl, Bool.false_eq_true, or0, jo_pi, jo_pl, jia_pi, jia_pl, jo_cpy, jia_cpy, cpy_r, m_X11_grant, m_X11_refuse, m_X13_good, m_X13_refused, reduceCtorEq, nI_add, nI_leI, nI_ltI, nI_eq, pk_mul, abs_nI, max_nI, min_nI, nI_m1, nI_m2, nI_le1, m1_lt, m2_lt, and_nI, or_nI, an_nI, has_nI, bit_nI, bc_nI, bits_nI, lx0, lx1, lx2, lx3, lx4, lx5, lx6, lx7, lx8, lx9, lx10, lx11, lx16, lx20, lx40, lx60, lx90, lx99, lx100, lx200, lx900, lx999, lx9999, hk', h5, k10, q1, q2, e7, h4, decide_true, jo_35 hW, wr_35_1 hW, wr_35_2 hW, ja_36 hW, ja_37 hW]
      · rw [if_neg h4] at e7
        simp (disch := omega) only [jb_some, jli, jif, jd_q, jd_K0, jpi_s, jpi_l, jpi_p, jpl_s, jpl_i, jpl_p, if_true, if_false, if_pos, if_neg, not_true_eq_false, not_false_eq_true, ite_true, ite_false, Nat.not_lt_zero, eq_self, Nat.le_refl, Nat.lt_irrefl, Bool.false_eq_true, or0, jo_pi, jo_pl, jia_pi, jia_pl, jo_cpy, jia_cpy, cpy_r, m_X11_grant, m_X11_refuse, m_X13_good, m_X13_refused, reduceCtorEq, nI_add, nI_leI, nI_ltI, nI_eq, pk_mul, abs_nI, max_nI, min_nI, nI_m1, nI_m2, nI_le1, m1_lt, m2_lt, and_nI, or_nI, an_nI, has_nI, bit_nI, bc_nI, bits_nI, lx0, lx1, lx2, lx3, lx4, lx5, lx6, lx7, lx8, lx9, lx10, lx11, lx16, lx20, lx40, lx60, lx90, lx99, lx100, lx200, lx900, lx999, lx9999, hk', h5, k10, q1, q2, e7, h4, decide_false, jo_35 hW, wr_35_1 hW, wr_35_2 hW, ja_36 hW, ja_37 hW]
    · have h4 : ¬ B 9 k = wv tp s l := fun h => by
        rw [← q6] at h
        exact h3 ((wv_eq q5 hk).mp h).1
      simp (disch := omega) only [jb_some, jli, jif, jd_q, jd_K0, jpi_s, jpi_l, jpi_p, jpl_s, jpl_i, jpl_p, if_true, if_false, if_pos, if_neg, not_true_eq_false, not_false_eq_true, ite_true, ite_false, Nat.not_lt_zero, eq_self, Nat.le_refl, Nat.lt_irrefl, Bool.false_eq_true, or0, jo_pi, jo_pl, jia_pi, jia_pl, jo_cpy, jia_cpy, cpy_r, m_X11_grant, m_X11_refuse, m_X13_good, m_X13_refused, reduceCtorEq, nI_add, nI_leI, nI_ltI, nI_eq, pk_mul, abs_nI, max_nI, min_nI, nI_m1, nI_m2, nI_le1, m1_lt, m2_lt, and_nI, or_nI, an_nI, has_nI, bit_nI, bc_nI, bits_nI, lx0, lx1, lx2, lx3, lx4, lx5, lx6, lx7, lx8, lx9, lx10, lx11, lx16, lx20, lx40, lx60, lx90, lx99, lx100, lx200, lx900, lx999, lx9999, hk', h5, k10, q1, q2, h3, h4, decide_false, jo_35 hW, wr_35_1 hW, wr_35_2 hW, ja_36 hW, ja_37 hW]
  · simp (disch := omega) only [jb_some, jli, jif, jd_q, jd_K0, jpi_s, jpi_l, jpi_p, jpl_s, jpl_i, jpl_p, if_true, if_false, if_pos, if_neg, not_true_eq_false, not_false_eq_true, ite_true, ite_false, Nat.not_lt_zero, eq_self, Nat.le_refl, Nat.lt_irrefl, Bool.false_eq_true, or0, jo_pi, jo_pl, jia_pi, jia_pl, jo_cpy, jia_cpy, cpy_r, m_X11_grant, m_X11_refuse, m_X13_good, m_X13_refused, reduceCtorEq, nI_add, nI_leI, nI_ltI, nI_eq, pk_mul, abs_nI, max_nI, min_nI, nI_m1, nI_m2, nI_le1, m1_lt, m2_lt, and_nI, or_nI, an_nI, has_nI, bit_nI, bc_nI, bits_nI, lx0, lx1, lx2, lx3, lx4, lx5, lx6, lx7, lx8, lx9, lx10, lx11, lx16, lx20, lx40, lx60, lx90, lx99, lx100, lx200, lx900, lx999, lx9999, h5, jo_35 hW]
def DW (a k : Nat) : Prop := DLr a k ∨ a = 35 ∧ k = 5 ∨ 36 ≤ a ∧ a ≤ 39
theorem addN_8 (B : Bch) (w so q : Nat) : addN B w so q 8 8 = B 8 8 + 1 := upB_e _ _ _ _
theorem addN_k (B : Bch) (w so q : Nat) {k : Nat} (h : k < B 8 8) : addN B w so q 9 k = B 9 k ∧ addN B w so q 10 k = B 10 k ∧ addN B w so q 11 k = B 11 k := by
  unfold addN
  refine ⟨?_, ?_, ?_⟩
  · rw [upB_n _ _ (by omega), upB_n _ _ (by omega), upB_n _ _ (by omega), upB_n _ _ (by omega)]
  · rw [upB_n _ _ (by omega), upB_n _ _ (by omega), upB_n _ _ (by omega), upB_n _ _ (by omega)]
  · rw [upB_n _ _ (by omega), upB_n _ _ (by omega), upB_n _ _ (by omega), upB_n _ _ (by omega)]
theorem addN_m (B : Bch) (w so q : Nat) : addN B w so q 9 (B 8 8) = w ∧ addN B w so q 10 (B 8 8) = so ∧ addN B w so q 11 (B 8 8) = q := by
  unfold addN
  refine ⟨?_, ?_, ?_⟩
  · rw [upB_n _ _ (by omega), upB_n _ _ (by omega), upB_n _ _ (by omega), upB_e]
  · rw [upB_n _ _ (by omega), upB_n _ _ (by omega), upB_e]
  · rw [upB_n _ _ (by omega), upB_e]
theorem isNm_t (h : isNm tp n i = true) : tK tp n i = 1 ∧ isLW tp n i = false := by
  unfold isNm at h
  rw [Bool.and_eq_true, decide_eq_true_iff] at h
  refine ⟨h.1, ?_⟩
  have h2 := h.2
  rcases hl : isLW tp n i with _ | _
  · rfl
  · rw [hl] at h2
    exact absurd h2 (by decide)
theorem isNm_f (h : isNm tp n i = false) : ¬ tK tp n i = 1 ∨ tK tp n i = 1 ∧ isLW tp n i = true := by
  by_cases h1 : tK tp n i = 1
  · refine Or.inr ⟨h1, ?_⟩
    unfold isNm at h
    rw [decide_eq_true h1] at h
    rcases hl : isLW tp n i with _ | _
    · rw [hl] at h
      exact absurd h (by decide)
    · rfl
  · exact Or.inl h1
theorem e_new_ok {w j : Nat} (h : i ≤ n) (e : e_new tp n B i = .inr (w, j)) : w = tW tp n i ∧ j = tE tp n i ∧ tK tp n i = 1 ∧ fnd B w = none ∧ i < j ∧ j ≤ n := by
  unfold e_new at e
  split at e
  · rename_i h1
    obtain ⟨h2, h3⟩ := isNm_t h1
    split at e
    · exact absurd e (by simp)
    · rename_i h4
      injection e with e
      injection e with e1 e2
      subst e1
      subst e2
      exact ⟨rfl, rfl, h2, h4, (tok_W h h2).2, (tE_le (tp := tp) h).2⟩
  · exact absurd e (by simp)
theorem e_told_ok {so q j : Nat} (h : i ≤ n) (e : e_told tp n B so i = .inr (q, j)) : (∃ k, k < B 8 8 ∧ B 10 k = so ∧ q = B 11 k) ∧ i < j ∧ j ≤ n := by
  unfold e_told at e
  split at e
  · rename_i h1
    obtain ⟨h2, h3⟩ := isNm_t h1
    split at e
    · exact absurd e (by simp)
    · rename_i k h4
      split at e
      · rename_i h5
        injection e with e
        injection e with e1 e2
        subst e1
        subst e2
        exact ⟨⟨k, (fnd_lt h4).1, h5, rfl⟩, (tok_W h h2).2, (tE_le (tp := tp) h).2⟩
      · exact absurd e (by simp)
  · exact absurd e (by simp)
set_option maxHeartbeats 2000000 in
theorem x_newName (hB : CB tp n σ) (h7 : σ.2.1 35 7 = nI i) (hi : i ≤ n) (hN : NmX tp n B σ) (h5 : σ.2.1 35 5 = nI (B 8 8)) (hm : B 8 8 < 11) {so q : Nat} (hso : so ≤ 1) (hbo : vp_nar .boolean (nI (1 - so)) = nI (1 - so)) : RX (e_new tp n B i) (m_X9_newName 35 (nI (1 - so)) (nI q) σ) σ DW (fun x σ' => σ'.2.1 35 7 = nI x.2 ∧ σ'.2.1 35 5 = nI (B 8 8 + 1) ∧ NmX tp n (addN B x.1 so q) σ') := by
  obtain ⟨σ1, a1, hK1, F1, hB1⟩ := x_adv hB h7 hi
  have F1' : Fr DW L0 σ σ1 := Fr_mono F1 (fun a k h => Or.inl (DVL h)) fun _ h => h
  have hN1 := NmX_fr hN F1 fun a k h1 h2 => by unfold DV; omega
  have h51 : σ1.2.1 35 5 = nI (B 8 8) := (F1.2.2.1 35 5 (by unfold DV; omega)).trans h5
  have e2 := x_isLineWord hB1 hi hK1
  have e3 := fun f => x_fail (f := f) hK1.2.1
  have k8 := hK1.1
  have k4 := tK_le (tp := tp) (n := n) (i := i)
  unfold m_X9_newName e_new
  rcases h1 : isNm tp n i with _ | _
  · rcases isNm_f h1 with h2 | ⟨h2, h3⟩
    · simp (disch := omega) only [jb_some, jli, jif, jd_q, jd_K0, jpi_s, jpi_l, jpi_p, jpl_s, jpl_i, jpl_p, if_true, if_false, if_pos, if_neg, not_true_eq_false, not_false_eq_true, ite_true, ite_false, Nat.not_lt_zero, eq_self, Nat.le_refl, Nat.lt_irrefl, Bool.false_eq_true, or0, jo_pi, jo_pl, jia_pi, jia_pl, jo_cpy, jia_cpy, cpy_r, m_X11_grant, m_X11_refuse, m_X13_good, m_X13_refused, reduceCtorEq, nI_add, nI_leI, nI_ltI, nI_eq, pk_mul, abs_nI, max_nI, min_nI, nI_m1, nI_m2, nI_le1, m1_lt, m2_lt, or_nI, an_nI, has_nI, bit_nI, bc_nI, bits_nI, lx0, lx1, lx2, lx3, lx4, lx5, lx6, lx7, lx8, lx9, lx10, lx11, lx16, lx20, lx40, lx60, lx90, lx99, lx100, lx200, lx900, lx999, lx9999, n_01, a1, k8, h2, e3]
      exact RX_f F1' (by unfold DW DLr; omega) (by unfold DW DLr; omega)
    · rw [h3] at e2
      simp (disch := omega) only [jb_some, jli, jif, jd_q, jd_K0, jpi_s, jpi_l, jpi_p, jpl_s, jpl_i, jpl_p, if_true, if_false, if_pos, if_neg, not_true_eq_false, not_false_eq_true, ite_true, ite_false, Nat.not_lt_zero, eq_self, Nat.le_refl, Nat.lt_irrefl, Bool.false_eq_true, or0, jo_pi, jo_pl, jia_pi, jia_pl, jo_cpy, jia_cpy, cpy_r, m_X11_grant, m_X11_refuse, m_X13_good, m_X13_refused, reduceCtorEq, nI_add, nI_leI, nI_ltI, nI_eq, pk_mul, abs_nI, max_nI, min_nI, nI_m1, nI_m2, nI_le1, m1_lt, m2_lt, or_nI, an_nI, has_nI, bit_nI, bc_nI, bits_nI, lx0, lx1, lx2, lx3, lx4, lx5, lx6, lx7, lx8, lx9, lx10, lx11, lx16, lx20, lx40, lx60, lx90, lx99, lx100, lx200, lx900, lx999, lx9999, n_01, a1, k8, h2, e2, e3]
      exact RX_f F1' (by unfold DW DLr; omega) (by unfold DW DLr; omega)
  · obtain ⟨h2, h3⟩ := isNm_t h1
    rw [h3] at e2
    have e4 := x_nameIndex hB1 hi hK1 h2 hN1 h51 (by omega)
    rcases h4 : fnd B (tW tp n i) with _ | k
    · rw [h4] at e4
      obtain ⟨hW1, -⟩ := hB1
      have k9 := hK1.2.1
      have k10 := hK1.2.2.1
      obtain ⟨τ7, d7⟩ : ∃ τ, τ = jd_pi σ1 36 (B 8 8) (nI (tS tp n i)) := ⟨_, rfl⟩
      obtain ⟨τ9, d9⟩ : ∃ τ, τ = jd_pi τ7 37 (B 8 8) (nI (tE tp n i - tS tp n i)) := ⟨_, rfl⟩
      obtain ⟨τ11, d11⟩ : ∃ τ, τ = jd_pi τ9 38 (B 8 8) (nI q) := ⟨_, rfl⟩
      obtain ⟨τ13, d13⟩ : ∃ τ, τ = jd_pi τ11 39 (B 8 8) (nI (1 - so)) := ⟨_, rfl⟩
      have c7 : τ7.2.1 35 5 = nI (B 8 8) ∧ τ7.2.1 35 10 = nI (tE tp n i - tS tp n i) := by
        rw [d7]
        exact ⟨(pi_ne _ _ (by omega)).trans h51, (pi_ne _ _ (by omega)).trans k10⟩
      have c9 : τ9.2.1 35 5 = nI (B 8 8) := by
        rw [d9]
        exact (pi_ne _ _ (by omega)).trans c7.1
      have c11 : τ11.2.1 35 5 = nI (B 8 8) := by
        rw [d11]
        exact (pi_ne _ _ (by omega)).trans c9
      have c13 : τ13.2.1 35 5 = nI (B 8 8) := by
        rw [d13]
        exact (pi_ne _ _ (by omega)).trans c11
      have F7 : Fr DW L0 σ τ7 := by
        rw [d7]
        exact Fr_pi F1' (by unfold DW; omega)
      have F9 : Fr DW L0 σ τ9 := by
        rw [d9]
        exact Fr_pi F7 (by unfold DW; omega)
      have F11 : Fr DW L0 σ τ11 := by
        rw [d11]
        exact Fr_pi F9 (by unfold DW; omega)
      have F13 : Fr DW L0 σ τ13 := by
        rw [d13]
        exact Fr_pi F11 (by unfold DW; omega)
      have g : ∀ a k, ¬ (36 ≤ a ∧ a ≤ 39 ∧ k = B 8 8) → τ13.2.1 a k = σ1.2.1 a k := fun a k h => by
        rw [d13, pi_ne _ _ (by omega), d11, pi_ne _ _ (by omega), d9, pi_ne _ _ (by omega), d7, pi_ne _ _ (by omega)]
      have r36 : τ13.2.1 36 (B 8 8) = nI (tS tp n i) := by
        rw [d13, pi_ne _ _ (by omega), d11, pi_ne _ _ (by omega), d9, pi_ne _ _ (by omega), d7, pi_eq]
      have r37 : τ13.2.1 37 (B 8 8) = nI (tE tp n i - tS tp n i) := by
        rw [d13, pi_ne _ _ (by omega), d11, pi_ne _ _ (by omega), d9, pi_eq]
      have r38 : τ13.2.1 38 (B 8 8) = nI q := by
        rw [d13, pi_ne _ _ (by omega), d11, pi_eq]
      have r39 : τ13.2.1 39 (B 8 8) = nI (1 - so) := by
        rw [d13, pi_eq]
      simp (disch := omega) only [jb_some, jli, jif, jd_q, jd_K0, jpi_s, jpi_l, jpi_p, jpl_s, jpl_i, jpl_p, if_true, if_false, if_pos, if_neg, not_true_eq_false, not_false_eq_true, ite_true, ite_false, Nat.not_lt_zero, eq_self, Nat.le_refl, Nat.lt_irrefl, Bool.false_eq_true, or0, jo_pi, jo_pl, jia_pi, jia_pl, jo_cpy, jia_cpy, cpy_r, m_X11_grant, m_X11_refuse, m_X13_good, m_X13_refused, reduceCtorEq, nI_add, nI_leI, nI_ltI, nI_eq, pk_mul, abs_nI, max_nI, min_nI, nI_m1, nI_m2, nI_le1, m1_lt, m2_lt, or_nI, an_nI, has_nI, bit_nI, bc_nI, bits_nI, lx0, lx1, lx2, lx3, lx4, lx5, lx6, lx7, lx8, lx9, lx10, lx11, lx16, lx20, lx40, lx60, lx90, lx99, lx100, lx200, lx900, lx999, lx9999, n_01, a1, k8, h2, e2, e4, Option.elim, h51, k9, k10, hbo, wr_35_1 hW1, ja_36 hW1]
      rw [← d7]
      simp (disch := omega) only [jb_some, jli, jif, jd_q, jd_K0, jpi_s, jpi_l, jpi_p, jpl_s, jpl_i, jpl_p, if_true, if_false, if_pos, if_neg, not_true_eq_false, not_false_eq_true, ite_true, ite_false, Nat.not_lt_zero, eq_self, Nat.le_refl, Nat.lt_irrefl, Bool.false_eq_true, or0, jo_pi, jo_pl, jia_pi, jia_pl, jo_cpy, jia_cpy, cpy_r, m_X11_grant, m_X11_refuse, m_X13_good, m_X13_refused, reduceCtorEq, nI_add, nI_leI, nI_ltI, nI_eq, pk_mul, abs_nI, max_nI, min_nI, nI_m1, nI_m2, nI_le1, m1_lt, m2_lt, and_nI, or_nI, an_nI, has_nI, bit_nI, bc_nI, bits_nI, lx0, lx1, lx2, lx3, lx4, lx5, lx6, lx7, lx8, lx9, lx10, lx11, lx16, lx20, lx40, lx60, lx90, lx99, lx100, lx200, lx900, lx999, lx9999, c7, wr_35_2 hW1, ja_37 hW1]
      rw [← d9]
      simp (disch := omega) only [jb_some, jli, jif, jd_q, jd_K0, jpi_s, jpi_l, jpi_p, jpl_s, jpl_i, jpl_p, if_true, if_false, if_pos, if_neg, not_true_eq_false, not_false_eq_true, ite_true, ite_false, Nat.not_lt_zero, eq_self, Nat.le_refl, Nat.lt_irrefl, Bool.false_eq_true, or0, jo_pi, jo_pl, jia_pi, jia_pl, jo_cpy, jia_cpy, cpy_r, m_X11_grant, m_X11_refuse, m_X13_good, m_X13_refused, reduceCtorEq, nI_add, nI_leI, nI_ltI, nI_eq, pk_mul, abs_nI, max_nI, min_nI, nI_m1, nI_m2, nI_le1, m1_lt, m2_lt, and_nI, or_nI, an_nI, has_nI, bit_nI, bc_nI, bits_nI, lx0, lx1, lx2, lx3, lx4, lx5, lx6, lx7, lx8, lx9, lx10, lx11, lx16, lx20, lx40, lx60, lx90, lx99, lx100, lx200, lx900, lx999, lx9999, c9, wr_35_3 hW1, ja_38 hW1]
      rw [← d11]
      simp (disch := omega) only [jb_some, jli, jif, jd_q, jd_K0, jpi_s, jpi_l, jpi_p, jpl_s, jpl_i, jpl_p, if_true, if_false, if_pos, if_neg, not_true_eq_false, not_false_eq_true, ite_true, ite_false, Nat.not_lt_zero, eq_self, Nat.le_refl, Nat.lt_irrefl, Bool.false_eq_true, or0, jo_pi, jo_pl, jia_pi, jia_pl, jo_cpy, jia_cpy, cpy_r, m_X11_grant, m_X11_refuse, m_X13_good, m_X13_refused, reduceCtorEq, nI_add, nI_leI, nI_ltI, nI_eq, pk_mul, abs_nI, max_nI, min_nI, nI_m1, nI_m2, nI_le1, m1_lt, m2_lt, and_nI, or_nI, an_nI, has_nI, bit_nI, bc_nI, bits_nI, lx0, lx1, lx2, lx3, lx4, lx5, lx6, lx7, lx8, lx9, lx10, lx11, lx16, lx20, lx40, lx60, lx90, lx99, lx100, lx200, lx900, lx999, lx9999, c11, hbo, wr_35_4 hW1, ja_39 hW1]
      rw [← d13]
      simp (disch := omega) only [jb_some, jli, jif, jd_q, jd_K0, jpi_s, jpi_l, jpi_p, jpl_s, jpl_i, jpl_p, if_true, if_false, if_pos, if_neg, not_true_eq_false, not_false_eq_true, ite_true, ite_false, Nat.not_lt_zero, eq_self, Nat.le_refl, Nat.lt_irrefl, Bool.false_eq_true, or0, jo_pi, jo_pl, jia_pi, jia_pl, jo_cpy, jia_cpy, cpy_r, m_X11_grant, m_X11_refuse, m_X13_good, m_X13_refused, reduceCtorEq, nI_add, nI_leI, nI_ltI, nI_eq, pk_mul, abs_nI, max_nI, min_nI, nI_m1, nI_m2, nI_le1, m1_lt, m2_lt, and_nI, or_nI, an_nI, has_nI, bit_nI, bc_nI, bits_nI, lx0, lx1, lx2, lx3, lx4, lx5, lx6, lx7, lx8, lx9, lx10, lx11, lx16, lx20, lx40, lx60, lx90, lx99, lx100, lx200, lx900, lx999, lx9999, c13]
      refine ⟨_, rfl, Fr_pi F13 (by unfold DW; omega), FrK_pi (FrK_tr (FrK_fr F1 (by unfold DV; omega) (by unfold DV; omega)) ⟨g _ _ (by omega), g _ _ (by omega)⟩) (by omega), ?_, pi_eq _ _ _ _, ?_⟩
      · rw [pi_ne _ _ (by omega), g _ _ (by omega)]
        exact hK1.2.2.2
      · obtain ⟨ps, pl, hN1⟩ := hN1
        refine ⟨fun k => if k = B 8 8 then tS tp n i else ps k, fun k => if k = B 8 8 then tE tp n i - tS tp n i else pl k, fun k hk => ?_⟩
        rw [addN_8] at hk
        by_cases hkm : k = B 8 8
        · subst hkm
          obtain ⟨m1, m2, m3⟩ := addN_m B (tW tp n i) so q
          show _ ∧ _ ∧ _ = nI (addN B (tW tp n i) so q 11 _) ∧ _ = nI (1 - addN B (tW tp n i) so q 10 _) ∧ _ ∧ _ = addN B (tW tp n i) so q 9 _
          rw [m1, m2, m3]
          dsimp only
          rw [if_pos rfl, if_pos rfl, pi_ne _ _ (by omega), pi_ne _ _ (by omega), pi_ne _ _ (by omega), pi_ne _ _ (by omega)]
          exact ⟨r36, r37, r38, r39, (tok_W hi h2).1, rfl⟩
        · obtain ⟨m1, m2, m3⟩ := addN_k B (tW tp n i) so q (k := k) (by omega)
          show _ ∧ _ ∧ _ = nI (addN B (tW tp n i) so q 11 _) ∧ _ = nI (1 - addN B (tW tp n i) so q 10 _) ∧ _ ∧ _ = addN B (tW tp n i) so q 9 _
          rw [m1, m2, m3]
          dsimp only
          rw [if_neg hkm, if_neg hkm, pi_ne _ _ (by omega), pi_ne _ _ (by omega), pi_ne _ _ (by omega), pi_ne _ _ (by omega), g _ _ (by omega), g _ _ (by omega), g _ _ (by omega), g _ _ (by omega)]
          exact hN1 k (by omega)
    · rw [h4] at e4
      have hk := (fnd_lt h4).1
      simp (disch := omega) only [jb_some, jli, jif, jd_q, jd_K0, jpi_s, jpi_l, jpi_p, jpl_s, jpl_i, jpl_p, if_true, if_false, if_pos, if_neg, not_true_eq_false, not_false_eq_true, ite_true, ite_false, Nat.not_lt_zero, eq_self, Nat.le_refl, Nat.lt_irrefl, Bool.false_eq_true, or0, jo_pi, jo_pl, jia_pi, jia_pl, jo_cpy, jia_cpy, cpy_r, m_X11_grant, m_X11_refuse, m_X13_good, m_X13_refused, reduceCtorEq, nI_add, nI_leI, nI_ltI, nI_eq, pk_mul, abs_nI, max_nI, min_nI, nI_m1, nI_m2, nI_le1, m1_lt, m2_lt, or_nI, an_nI, has_nI, bit_nI, bc_nI, bits_nI, lx0, lx1, lx2, lx3, lx4, lx5, lx6, lx7, lx8, lx9, lx10, lx11, lx16, lx20, lx40, lx60, lx90, lx99, lx100, lx200, lx900, lx999, lx9999, n_01, a1, k8, h2, e2, e4, Option.elim, e3]
      exact RX_f F1' (by unfold DW DLr; omega) (by unfold DW DLr; omega)
set_option maxHeartbeats 2000000 in
theorem x_toldName (hB : CB tp n σ) (h7 : σ.2.1 35 7 = nI i) (hi : i ≤ n) (hN : NmX tp n B σ) (h5 : σ.2.1 35 5 = nI (B 8 8)) (hm : B 8 8 ≤ 11) {so : Nat} (hso : so ≤ 1) (h10 : ∀ k, B 10 k ≤ 1) : RX (e_told tp n B so i) (m_X9_toldName 35 (nI (1 - so)) σ) σ DLr (fun x σ' => σ'.2.1 35 7 = nI x.2 ∧ σ'.2.1 35 12 = nI x.1 ∧ σ'.2.1 35 9 = nI (tS tp n i)) := by
  obtain ⟨σ1, a1, hK1, F1, hB1⟩ := x_adv hB h7 hi
  have F1' : Fr DLr L0 σ σ1 := Fr_mono F1 (fun a k h => DVL h) fun _ h => h
  have hN1 := NmX_fr hN F1 fun a k h1 h2 => by unfold DV; omega
  have h51 : σ1.2.1 35 5 = nI (B 8 8) := (F1.2.2.1 35 5 (by unfold DV; omega)).trans h5
  have e2 := x_isLineWord hB1 hi hK1
  have e3 := fun f => x_fail (f := f) hK1.2.1
  have k8 := hK1.1
  have k4 := tK_le (tp := tp) (n := n) (i := i)
  unfold m_X9_toldName e_told
  rcases h1 : isNm tp n i with _ | _
  · rcases isNm_f h1 with h2 | ⟨h2, h3⟩
    · simp (disch := omega) only [jb_some, jli, jif, jd_q, jd_K0, jpi_s, jpi_l, jpi_p, jpl_s, jpl_i, jpl_p, if_true, if_false, if_pos, if_neg, not_true_eq_false, not_false_eq_true, ite_true, ite_false, Nat.not_lt_zero, eq_self, Nat.le_refl, Nat.lt_irrefl, Bool.false_eq_true, or0, jo_pi, jo_pl, jia_pi, jia_pl, jo_cpy, jia_cpy, cpy_r, m_X11_grant, m_X11_refuse, m_X13_good, m_X13_refused, reduceCtorEq, nI_add, nI_leI, nI_ltI, nI_eq, pk_mul, abs_nI, max_nI, min_nI, nI_m1, nI_m2, nI_le1, m1_lt, m2_lt, or_nI, an_nI, has_nI, bit_nI, bc_nI, bits_nI, lx0, lx1, lx2, lx3, lx4, lx5, lx6, lx7, lx8, lx9, lx10, lx11, lx16, lx20, lx40, lx60, lx90, lx99, lx100, lx200, lx900, lx999, lx9999, n_01, a1, k8, h2, e3]
      exact RX_f F1' (by unfold DLr; omega) (by unfold DLr; omega)
    · rw [h3] at e2
      simp (disch := omega) only [jb_some, jli, jif, jd_q, jd_K0, jpi_s, jpi_l, jpi_p, jpl_s, jpl_i, jpl_p, if_true, if_false, if_pos, if_neg, not_true_eq_false, not_false_eq_true, ite_true, ite_false, Nat.not_lt_zero, eq_self, Nat.le_refl, Nat.lt_irrefl, Bool.false_eq_true, or0, jo_pi, jo_pl, jia_pi, jia_pl, jo_cpy, jia_cpy, cpy_r, m_X11_grant, m_X11_refuse, m_X13_good, m_X13_refused, reduceCtorEq, nI_add, nI_leI, nI_ltI, nI_eq, pk_mul, abs_nI, max_nI, min_nI, nI_m1, nI_m2, nI_le1, m1_lt, m2_lt, or_nI, an_nI, has_nI, bit_nI, bc_nI, bits_nI, lx0, lx1, lx2, lx3, lx4, lx5, lx6, lx7, lx8, lx9, lx10, lx11, lx16, lx20, lx40, lx60, lx90, lx99, lx100, lx200, lx900, lx999, lx9999, n_01, a1, k8, h2, e2, e3]
      exact RX_f F1' (by unfold DLr; omega) (by unfold DLr; omega)
  · obtain ⟨h2, h3⟩ := isNm_t h1
    rw [h3] at e2
    have e4 := x_nameIndex hB1 hi hK1 h2 hN1 h51 hm
    rcases h4 : fnd B (tW tp n i) with _ | k
    · rw [h4] at e4
      simp (disch := omega) only [jb_some, jli, jif, jd_q, jd_K0, jpi_s, jpi_l, jpi_p, jpl_s, jpl_i, jpl_p, if_true, if_false, if_pos, if_neg, not_true_eq_false, not_false_eq_true, ite_true, ite_false, Nat.not_lt_zero, eq_self, Nat.le_refl, Nat.lt_irrefl, Bool.false_eq_true, or0, jo_pi, jo_pl, jia_pi, jia_pl, jo_cpy, jia_cpy, cpy_r, m_X11_grant, m_X11_refuse, m_X13_good, m_X13_refused, reduceCtorEq, nI_add, nI_leI, nI_ltI, nI_eq, pk_mul, abs_nI, max_nI, min_nI, nI_m1, nI_m2, nI_le1, m1_lt, m2_lt, or_nI, an_nI, has_nI, bit_nI, bc_nI, bits_nI, lx0, lx1, lx2, lx3, lx4, lx5, lx6, lx7, lx8, lx9, lx10, lx11, lx16, lx20, lx40, lx60, lx90, lx99, lx100, lx200, lx900, lx999, lx9999, n_01, a1, k8, h2, e2, e4, Option.elim, e3]
      exact RX_f F1' (by unfold DLr; omega) (by unfold DLr; omega)
    · rw [h4] at e4
      have hk := (fnd_lt h4).1
      obtain ⟨hW1, -⟩ := hB1
      obtain ⟨ps, pl, hN1⟩ := hN1
      obtain ⟨q1, q2, q3, q4, q5, q6⟩ := hN1 k hk
      have b10 := h10 k
      by_cases h6 : B 10 k = so
      · have h6' : 1 - B 10 k = 1 - so := by omega
        simp (disch := omega) only [jb_some, jli, jif, jd_q, jd_K0, jpi_s, jpi_l, jpi_p, jpl_s, jpl_i, jpl_p, if_true, if_false, if_pos, if_neg, not_true_eq_false, not_false_eq_true, ite_true, ite_false, Nat.not_lt_zero, eq_self, Nat.le_refl, Nat.lt_irrefl, Bool.false_eq_true, or0, jo_pi, jo_pl, jia_pi, jia_pl, jo_cpy, jia_cpy, cpy_r, m_X11_grant, m_X11_refuse, m_X13_good, m_X13_refused, reduceCtorEq, nI_add, nI_leI, nI_ltI, nI_eq, pk_mul, abs_nI, max_nI, min_nI, nI_m1, nI_m2, nI_le1, m1_lt, m2_lt, or_nI, an_nI, has_nI, bit_nI, bc_nI, bits_nI, lx0, lx1, lx2, lx3, lx4, lx5, lx6, lx7, lx8, lx9, lx10, lx11, lx16, lx20, lx40, lx60, lx90, lx99, lx100, lx200, lx900, lx999, lx9999, n_01, a1, k8, h2, e2, e4, Option.elim, q3, q4, h6, h6', wr_35_4 hW1, ja_39 hW1, wr_35_3 hW1, ja_38 hW1]
        exact ⟨_, rfl, Fr_pi F1' (by unfold DLr; omega), FrK_pi (FrK_fr F1 (by unfold DV; omega) (by unfold DV; omega)) (by omega), (pi_ne _ _ (by omega)).trans hK1.2.2.2, pi_eq _ _ _ _, (pi_ne _ _ (by omega)).trans hK1.2.1⟩
      · have h6' : ¬ 1 - B 10 k = 1 - so := by omega
        simp (disch := omega) only [jb_some, jli, jif, jd_q, jd_K0, jpi_s, jpi_l, jpi_p, jpl_s, jpl_i, jpl_p, if_true, if_false, if_pos, if_neg, not_true_eq_false, not_false_eq_true, ite_true, ite_false, Nat.not_lt_zero, eq_self, Nat.le_refl, Nat.lt_irrefl, Bool.false_eq_true, or0, jo_pi, jo_pl, jia_pi, jia_pl, jo_cpy, jia_cpy, cpy_r, m_X11_grant, m_X11_refuse, m_X13_good, m_X13_refused, reduceCtorEq, nI_add, nI_leI, nI_ltI, nI_eq, pk_mul, abs_nI, max_nI, min_nI, nI_m1, nI_m2, nI_le1, m1_lt, m2_lt, or_nI, an_nI, has_nI, bit_nI, bc_nI, bits_nI, lx0, lx1, lx2, lx3, lx4, lx5, lx6, lx7, lx8, lx9, lx10, lx11, lx16, lx20, lx40, lx60, lx90, lx99, lx100, lx200, lx900, lx999, lx9999, n_01, a1, k8, h2, e2, e4, Option.elim, q3, q4, h6, h6', e3, wr_35_4 hW1, ja_39 hW1, wr_35_3 hW1, ja_38 hW1]
        exact RX_f F1' (by unfold DLr; omega) (by unfold DLr; omega)
end
