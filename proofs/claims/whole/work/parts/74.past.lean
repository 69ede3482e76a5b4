/-! P (24): how all was: scenes kept -/
theorem lx15 : (15 : Int32) = nI 15 := rfl
def isSc (σ : jd_Hp) (t : Nat) : Prop := σ.1[t]? = some (4, 4) ∧ σ.1[t + 1]? = some (20, 6) ∧ σ.2.2.2 t 0 = some (t + 1)
def scp (σ : jd_Hp) (t s : Nat) : jd_Hp := jd_pi (jd_pi (jd_pi (cpy σ (t + 1) (σ.2.1 (s + 1)) 6) t 1 (σ.2.1 s 1)) t 2 (σ.2.1 s 2)) t 3 (σ.2.1 s 3)
theorem x_copy {σ : jd_Hp} {t s : Nat} (ht : isSc σ t) (hs : isSc σ s) (h1 : ¬ s = t) (h2 : ¬ s = t + 1) : m_X4_copy t (some s) σ = some ((), scp σ t s) := by
  obtain ⟨t1, t2, t3⟩ := ht
  obtain ⟨s1, s2, s3⟩ := hs
  unfold m_X4_copy
  rw [jlp_h 6 (fun i => nI i) (fun i => cpy σ (t + 1) (σ.2.1 (s + 1)) i) () (cpy σ (t + 1) (σ.2.1 (s + 1)) 6) (jfu (by omega)) ?_ ?_ ?_ ?_]
  · have c : ∀ k, (cpy σ (t + 1) (σ.2.1 (s + 1)) 6).2.1 s k = σ.2.1 s k := fun k => by rw [cpy_i, if_neg (by omega)]
    simp only [jb_some, jo_cpy, jo_pi, jli, jo_of s1, jo_of t1]
    unfold scp
    rw [pi_ne _ _ (by omega), pi_ne _ _ (by omega), pi_ne _ _ (by omega), c, c, c]
  · rfl
  · exact (cpy_0 _ _ _).symm
  · intro i hi
    have h6 : ¬ 6 ≤ i := by omega
    simp (disch := omega) only [jb_some, jli, jif, jd_q, jd_K0, jpi_s, jpi_l, jpi_p, jpl_s, jpl_i, jpl_p, if_true, if_false, if_pos, if_neg, not_true_eq_false, not_false_eq_true, ite_true, ite_false, Nat.not_lt_zero, eq_self, Nat.le_refl, Nat.lt_irrefl, Bool.false_eq_true, or0, jo_pi, jo_pl, jia_pi, jia_pl, jo_cpy, jia_cpy, cpy_r, m_X11_grant, m_X11_refuse, m_X13_good, m_X13_refused, reduceCtorEq, nI_add, nI_leI, nI_ltI, nI_eq, pk_mul, abs_nI, max_nI, min_nI, nI_m1, nI_m2, nI_le1, m1_lt, m2_lt, and_nI, or_nI, an_nI, has_nI, bit_nI, bc_nI, bits_nI, lx0, lx1, lx2, lx3, lx4, lx5, lx6, lx7, lx8, lx9, lx10, lx11, lx16, lx20, lx40, lx60, lx90, lx99, lx100, lx200, lx900, lx999, lx9999, h6, jo_cpy, jia_cpy, cpy_r, t3, s3, jo_of t1, jo_of s1, jia_of t2 hi (by decide), jia_of s2 hi (by decide)]
    rw [← cpy_s, cpy_i, if_neg (by omega)]
  · simp (disch := omega) only [jb_some, jli, jif, jd_q, jd_K0, jpi_s, jpi_l, jpi_p, jpl_s, jpl_i, jpl_p, if_true, if_false, if_pos, if_neg, not_true_eq_false, not_false_eq_true, ite_true, ite_false, Nat.not_lt_zero, eq_self, Nat.le_refl, Nat.lt_irrefl, Bool.false_eq_true, or0, jo_pi, jo_pl, jia_pi, jia_pl, jo_cpy, jia_cpy, cpy_r, m_X11_grant, m_X11_refuse, m_X13_good, m_X13_refused, reduceCtorEq, nI_add, nI_leI, nI_ltI, nI_eq, pk_mul, abs_nI, max_nI, min_nI, nI_m1, nI_m2, nI_le1, m1_lt, m2_lt, and_nI, or_nI, an_nI, has_nI, bit_nI, bc_nI, bits_nI, lx0, lx1, lx2, lx3, lx4, lx5, lx6, lx7, lx8, lx9, lx10, lx11, lx16, lx20, lx40, lx60, lx90, lx99, lx100, lx200, lx900, lx999, lx9999]
theorem scp_i (σ : jd_Hp) (t s a k : Nat) : (scp σ t s).2.1 a k = if a = t then (if k = 1 ∨ k = 2 ∨ k = 3 then σ.2.1 s k else σ.2.1 a k) else if a = t + 1 ∧ k < 6 then σ.2.1 (s + 1) k else σ.2.1 a k := by
  unfold scp
  simp only [jpi_r, cpy_i]
  by_cases h : a = t
  · have h' : ¬ (a = t + 1 ∧ k < 6) := by omega
    simp only [if_pos h, if_neg h']
    by_cases k3 : k = 3
    · subst k3
      simp
    · by_cases k2 : k = 2
      · subst k2
        simp
      · by_cases k1 : k = 1
        · subst k1
          simp
        · simp [k1, k2, k3]
  · simp only [if_neg h]
theorem scp_fr (σ : jd_Hp) (t s : Nat) : Fr (fun a _ => a = t ∨ a = t + 1) L0 σ (scp σ t s) := ⟨rfl, rfl, fun a k h => by
  rw [scp_i, if_neg (fun c => h (Or.inl c)), if_neg (fun c => h (Or.inr c.1))], fun _ _ _ => rfl⟩
def ScX (n : Nat) (N : Nw) (t : Nat) (σ : jd_Hp) : Prop := (∀ p, p < n → σ.2.1 (t + 1) p = nI (N p)) ∧ σ.2.1 t 1 = nI (N 6) ∧ σ.2.1 t 2 = nI (N 7) ∧ σ.2.1 t 3 = nI (N 8)
theorem ScX_of {n t : Nat} {N : Nw} {σ σ' : jd_Hp} (h : ScX n N t σ) (e : ∀ a k, a = t ∨ a = t + 1 → σ'.2.1 a k = σ.2.1 a k) : ScX n N t σ' := ⟨fun p hp => (e _ _ (Or.inr rfl)).trans (h.1 p hp), (e _ _ (Or.inl rfl)).trans h.2.1, (e _ _ (Or.inl rfl)).trans h.2.2.1, (e _ _ (Or.inl rfl)).trans h.2.2.2⟩
theorem ScX_fr {n t : Nat} {N : Nw} {σ σ' : jd_Hp} {D : Nat → Nat → Prop} {L : Nat → Prop} (h : ScX n N t σ) (f : Fr D L σ σ') (e : ∀ a k, a = t ∨ a = t + 1 → ¬ D a k) : ScX n N t σ' := ScX_of h fun a k ha => f.2.2.1 a k (e a k ha)
theorem ScX_cp {n t s : Nat} {N : Nw} {σ : jd_Hp} (hn : n ≤ 6) (h : ScX n N s σ) : ScX n N t (scp σ t s) := by
  refine ⟨fun p hp => ?_, ?_, ?_, ?_⟩
  · rw [scp_i, if_neg (by omega), if_pos ⟨rfl, by omega⟩]
    exact h.1 p hp
  · rw [scp_i, if_pos rfl, if_pos (by omega)]
    exact h.2.1
  · rw [scp_i, if_pos rfl, if_pos (by omega)]
    exact h.2.2.1
  · rw [scp_i, if_pos rfl, if_pos (by omega)]
    exact h.2.2.2
theorem fin_sc : ∀ i, i < 16 → wS[59 + 2 * i]? = some (4, 4) ∧ wS[59 + 2 * i + 1]? = some (20, 6) ∧ (59 + 2 * i, 0, 59 + 2 * i + 1) ∈ wR ∧ (57, i, 59 + 2 * i) ∈ wR := by decide +kernel
theorem fin_sd : ∀ i, i < 3 → wS[91 + 2 * i]? = some (4, 4) ∧ wS[91 + 2 * i + 1]? = some (20, 6) ∧ (91 + 2 * i, 0, 91 + 2 * i + 1) ∈ wR ∧ (58, i, 91 + 2 * i) ∈ wR := by decide +kernel
section
variable {σ : jd_Hp}
theorem w_sc0 (hW : Wd σ) : isSc σ 41 := ⟨wd hW 41 rfl, wd hW 42 rfl, wr_41_0 hW⟩
theorem w_sc1 (hW : Wd σ) {i : Nat} (hi : i < 16) : isSc σ (59 + 2 * i) ∧ σ.2.2.2 57 i = some (59 + 2 * i) := by
  obtain ⟨h1, h2, h3, h4⟩ := fin_sc i hi
  exact ⟨⟨wd hW _ h1, wd hW _ h2, hW.2 _ h3⟩, hW.2 _ h4⟩
theorem w_sc2 (hW : Wd σ) {i : Nat} (hi : i < 3) : isSc σ (91 + 2 * i) ∧ σ.2.2.2 58 i = some (91 + 2 * i) := by
  obtain ⟨h1, h2, h3, h4⟩ := fin_sd i hi
  exact ⟨⟨wd hW _ h1, wd hW _ h2, hW.2 _ h3⟩, hW.2 _ h4⟩
end
def hc (N : Nw) (H : Nat → Nw) : Nat → Nw
  | 0 => N
  | k + 1 => H k
/-- the class's past: na acts (H 0 the latest), ni images -/
def PX (n na : Nat) (H : Nat → Nw) (ni : Nat) (I : Nat → Nw) (σ : jd_Hp) : Prop := ∃ nw, nw < 16 ∧ σ.2.1 56 2 = nI nw ∧ σ.2.1 56 3 = nI na ∧ σ.2.1 56 4 = nI ni ∧ (∀ k, k < na → ScX n (H k) (59 + 2 * ((nw + 16 - k) % 16)) σ) ∧ ∀ i, i < ni → ScX n (I i) (91 + 2 * i) σ
def DP (a _ : Nat) : Prop := a = 56 ∨ 59 ≤ a ∧ a ≤ 96
def DK (a _ : Nat) : Prop := a = 56 ∨ 59 ≤ a ∧ a ≤ 96 ∨ a = 41 ∨ a = 42
section
variable {σ σ' : jd_Hp} {n na ni : Nat} {H I : Nat → Nw} {N : Nw} {D : Nat → Nat → Prop} {L : Nat → Prop}
theorem PX_fr (h : PX n na H ni I σ) (f : Fr D L σ σ') (e : ∀ a k, DP a k → ¬ D a k) (ha : na ≤ 16) (hi : ni ≤ 3) : PX n na H ni I σ' := by
  obtain ⟨nw, w1, w2, w3, w4, w5, w6⟩ := h
  have g : ∀ k, σ'.2.1 56 k = σ.2.1 56 k := fun k => f.2.2.1 56 k (e 56 k (Or.inl rfl))
  refine ⟨nw, w1, (g 2).trans w2, (g 3).trans w3, (g 4).trans w4, fun k hk => ScX_fr (w5 k hk) f fun a j h => e a j ?_, fun i hi => ScX_fr (w6 i hi) f fun a j h => e a j ?_⟩
  · unfold DP
    omega
  · unfold DP
    omega
set_option maxHeartbeats 1000000 in
theorem x_keep (hW : Wd σ) (hP : PX n na H ni I σ) (hN : ScX n N 41 σ) (hn : n ≤ 6) (ha : na ≤ 16) (hi : ni ≤ 3) : ∃ σ', m_X2_keep 56 (some 41) σ = some ((), σ') ∧ PX n (min (na + 1) 16) (hc N H) ni I σ' ∧ Fr DP L0 σ σ' := by
  obtain ⟨nw, w1, w2, w3, w4, w5, w6⟩ := hP
  obtain ⟨v, hv2⟩ : ∃ v, v = (nw + 1) % 16 := ⟨_, rfl⟩
  have hv : v < 16 := by omega
  obtain ⟨q1, q2⟩ := w_sc1 hW hv
  have e0 : (jd_if (16 ≤ (σ.2.1 56 2) + 1) (some ((0 : Int32), σ)) (some ((σ.2.1 56 2) + 1, σ))) = some (nI v, σ) := by
    rw [w2]
    by_cases h : 16 ≤ nw + 1
    · have : v = 0 := by omega
      simp (disch := omega) only [jb_some, jli, jif, jd_q, jd_K0, jpi_s, jpi_l, jpi_p, jpl_s, jpl_i, jpl_p, if_true, if_false, if_pos, if_neg, not_true_eq_false, not_false_eq_true, ite_true, ite_false, Nat.not_lt_zero, eq_self, Nat.le_refl, Nat.lt_irrefl, Bool.false_eq_true, or0, jo_pi, jo_pl, jia_pi, jia_pl, jo_cpy, jia_cpy, cpy_r, m_X11_grant, m_X11_refuse, m_X13_good, m_X13_refused, reduceCtorEq, nI_add, nI_leI, nI_ltI, nI_eq, pk_mul, abs_nI, max_nI, min_nI, nI_m1, nI_m2, nI_le1, m1_lt, m2_lt, and_nI, or_nI, an_nI, has_nI, bit_nI, bc_nI, bits_nI, lx0, lx1, lx2, lx3, lx4, lx5, lx6, lx7, lx8, lx9, lx10, lx11, lx16, lx20, lx40, lx60, lx90, lx99, lx100, lx200, lx900, lx999, lx9999, h, this]
    · have : v = nw + 1 := by omega
      simp (disch := omega) only [jb_some, jli, jif, jd_q, jd_K0, jpi_s, jpi_l, jpi_p, jpl_s, jpl_i, jpl_p, if_true, if_false, if_pos, if_neg, not_true_eq_false, not_false_eq_true, ite_true, ite_false, Nat.not_lt_zero, eq_self, Nat.le_refl, Nat.lt_irrefl, Bool.false_eq_true, or0, jo_pi, jo_pl, jia_pi, jia_pl, jo_cpy, jia_cpy, cpy_r, m_X11_grant, m_X11_refuse, m_X13_good, m_X13_refused, reduceCtorEq, nI_add, nI_leI, nI_ltI, nI_eq, pk_mul, abs_nI, max_nI, min_nI, nI_m1, nI_m2, nI_le1, m1_lt, m2_lt, and_nI, or_nI, an_nI, has_nI, bit_nI, bc_nI, bits_nI, lx0, lx1, lx2, lx3, lx4, lx5, lx6, lx7, lx8, lx9, lx10, lx11, lx16, lx20, lx40, lx60, lx90, lx99, lx100, lx200, lx900, lx999, lx9999, h, this]
  have q0 : isSc (jd_pi σ 56 2 (nI v)) 41 := w_sc0 hW
  have q1' : isSc (jd_pi σ 56 2 (nI v)) (59 + 2 * v) := q1
  have ec := x_copy q1' q0 (by omega) (by omega)
  have e3 : (scp (jd_pi σ 56 2 (nI v)) (59 + 2 * v) 41).2.1 56 3 = nI na := by
    rw [scp_i, if_neg (by omega), if_neg (by omega), pi_ne _ _ (by omega)]
    exact w3
  have F1 : Fr DP L0 σ (scp (jd_pi σ 56 2 (nI v)) (59 + 2 * v) 41) := Fr_tr (Fr_pi (Fr_refl σ) (Or.inl rfl)) (Fr_mono (scp_fr _ _ _) (fun a k h => by unfold DP; omega) fun _ h => h)
  refine ⟨jd_pi (scp (jd_pi σ 56 2 (nI v)) (59 + 2 * v) 41) 56 3 (nI (min (na + 1) 16)), ?_, ⟨v, hv, ?_, pi_eq _ _ _ _, ?_, fun k hk => ?_, fun i hi' => ?_⟩, Fr_pi F1 (Or.inl rfl)⟩
  · unfold m_X2_keep
    rw [e0, jb_some, jo_56 hW, jli, jia_pi, jpi_p, wr_56_0 hW, pi_eq, jia_of (wd hW 57 rfl) hv (by decide), q2, jo_pi, jo_of q1.1, ec, jb_some, jli, e3, lx1, nI_add, lx16, min_nI (by omega) (by omega)]
  · rw [pi_ne _ _ (by omega), scp_i, if_neg (by omega), if_neg (by omega), pi_eq]
  · rw [pi_ne _ _ (by omega), scp_i, if_neg (by omega), if_neg (by omega), pi_ne _ _ (by omega)]
    exact w4
  · rcases k with _ | k
    · have : (v + 16 - 0) % 16 = v := by omega
      rw [this]
      have h0 : ScX n N 41 (jd_pi σ 56 2 (nI v)) := ScX_of hN fun a k ha => pi_ne _ _ (by omega)
      exact ScX_of (ScX_cp hn h0) fun a k ha => pi_ne _ _ (by omega)
    · have h1 : (v + 16 - (k + 1)) % 16 = (nw + 16 - k) % 16 := by omega
      have h2 : ¬ (nw + 16 - k) % 16 = v := by omega
      rw [h1]
      refine ScX_of (w5 k (by omega)) fun a j h => ?_
      rw [pi_ne _ _ (by omega), scp_i, if_neg (by omega), if_neg (by omega), pi_ne _ _ (by omega)]
  · refine ScX_of (w6 i hi') fun a j h => ?_
    rw [pi_ne _ _ (by omega), scp_i, if_neg (by omega), if_neg (by omega), pi_ne _ _ (by omega)]
set_option maxHeartbeats 1000000 in
theorem x_takeBack (hW : Wd σ) (hP : PX n na H ni I σ) (hn : n ≤ 6) (h0 : 0 < na) (ha : na ≤ 16) (hi : ni ≤ 3) : ∃ σ', m_X2_takeBack 56 (some 41) σ = some (1, σ') ∧ PX n (na - 1) (fun k => H (k + 1)) ni I σ' ∧ ScX n (H 0) 41 σ' ∧ Fr DK L0 σ σ' := by
  obtain ⟨nw, w1, w2, w3, w4, w5, w6⟩ := hP
  obtain ⟨v, hv2⟩ : ∃ v, v = (nw + 15) % 16 := ⟨_, rfl⟩
  have hv : v < 16 := by omega
  obtain ⟨q1, q2⟩ := w_sc1 hW w1
  have ec := x_copy (w_sc0 hW) q1 (by omega) (by omega)
  have g : ∀ a k, ¬ a = 41 → ¬ a = 42 → (scp σ 41 (59 + 2 * nw)).2.1 a k = σ.2.1 a k := fun a k h1 h2 => by
    rw [scp_i, if_neg h1, if_neg (by omega)]
  have hW3 : Wd (scp σ 41 (59 + 2 * nw)) := Fr_Wd (scp_fr _ _ _) hW
  have c2 : (scp σ 41 (59 + 2 * nw)).2.1 56 2 = nI nw := by rw [g _ _ (by omega) (by omega), w2]
  have c3 : (scp σ 41 (59 + 2 * nw)).2.1 56 3 = nI na := by rw [g _ _ (by omega) (by omega), w3]
  have F1 : Fr DK L0 σ (scp σ 41 (59 + 2 * nw)) := Fr_mono (scp_fr _ _ _) (fun a k h => by unfold DK; omega) fun _ h => h
  have hs : ScX n (H 0) (59 + 2 * nw) σ := by
    have := w5 0 h0
    rwa [show (nw + 16 - 0) % 16 = nw by omega] at this
  have hN := ScX_cp (t := 41) hn hs
  have e0 : (jd_if (((scp σ 41 (59 + 2 * nw)).2.1 56 2) ≤ 0) (some ((15 : Int32), (scp σ 41 (59 + 2 * nw)))) (some (((scp σ 41 (59 + 2 * nw)).2.1 56 2) - 1, (scp σ 41 (59 + 2 * nw))))) = some (nI v, (scp σ 41 (59 + 2 * nw))) := by
    rw [c2]
    by_cases h : nw ≤ 0
    · have : v = 15 := by omega
      simp (disch := omega) only [jb_some, jli, jif, jd_q, jd_K0, jpi_s, jpi_l, jpi_p, jpl_s, jpl_i, jpl_p, if_true, if_false, if_pos, if_neg, not_true_eq_false, not_false_eq_true, ite_true, ite_false, Nat.not_lt_zero, eq_self, Nat.le_refl, Nat.lt_irrefl, Bool.false_eq_true, or0, jo_pi, jo_pl, jia_pi, jia_pl, jo_cpy, jia_cpy, cpy_r, m_X11_grant, m_X11_refuse, m_X13_good, m_X13_refused, reduceCtorEq, nI_add, nI_leI, nI_ltI, nI_eq, pk_mul, abs_nI, max_nI, min_nI, nI_m1, nI_m2, nI_le1, m1_lt, m2_lt, and_nI, or_nI, an_nI, has_nI, bit_nI, bc_nI, bits_nI, lx0, lx1, lx2, lx3, lx4, lx5, lx6, lx7, lx8, lx9, lx10, lx11, lx16, lx20, lx40, lx60, lx90, lx99, lx100, lx200, lx900, lx999, lx9999, h, this, lx15]
    · obtain ⟨u, rfl⟩ : ∃ u, nw = u + 1 := ⟨nw - 1, by omega⟩
      have : v = u := by omega
      simp (disch := omega) only [jb_some, jli, jif, jd_q, jd_K0, jpi_s, jpi_l, jpi_p, jpl_s, jpl_i, jpl_p, if_true, if_false, if_pos, if_neg, not_true_eq_false, not_false_eq_true, ite_true, ite_false, Nat.not_lt_zero, eq_self, Nat.le_refl, Nat.lt_irrefl, Bool.false_eq_true, or0, jo_pi, jo_pl, jia_pi, jia_pl, jo_cpy, jia_cpy, cpy_r, m_X11_grant, m_X11_refuse, m_X13_good, m_X13_refused, reduceCtorEq, nI_add, nI_leI, nI_ltI, nI_eq, pk_mul, abs_nI, max_nI, min_nI, nI_m1, nI_m2, nI_le1, m1_lt, m2_lt, and_nI, or_nI, an_nI, has_nI, bit_nI, bc_nI, bits_nI, lx0, lx1, lx2, lx3, lx4, lx5, lx6, lx7, lx8, lx9, lx10, lx11, lx16, lx20, lx40, lx60, lx90, lx99, lx100, lx200, lx900, lx999, lx9999, h, this, nI_s1]
  generalize scp σ 41 (59 + 2 * nw) = τ at *
  refine ⟨jd_pi (jd_pi τ 56 2 (nI v)) 56 3 (nI (na - 1)), ?_, ⟨v, hv, ?_, pi_eq _ _ _ _, ?_, fun k hk => ?_, fun i hi' => ?_⟩, ScX_of hN fun a k h => ?_, Fr_pi (Fr_pi F1 (Or.inl rfl)) (Or.inl rfl)⟩
  · have h1 : 0 < na := h0
    unfold m_X2_takeBack
    rw [w3, lx0, jif, if_pos ((nI_ltI (by omega) (by omega)).mpr h0), wr_56_0 hW, w2, jia_of (wd hW 57 rfl) w1 (by decide), jo_41 hW, q2, ec, jb_some, ← lx0, e0, jb_some, jo_56 hW3, jli, jli, pi_ne _ _ (by omega), c3, lx1, nI_sub (by omega)]
  · rw [pi_ne _ _ (by omega), pi_eq]
  · rw [pi_ne _ _ (by omega), pi_ne _ _ (by omega), g _ _ (by omega) (by omega)]
    exact w4
  · have h1 : (v + 16 - k) % 16 = (nw + 16 - (k + 1)) % 16 := by omega
    rw [h1]
    refine ScX_of (w5 (k + 1) (by omega)) fun a j h => ?_
    rw [pi_ne _ _ (by omega), pi_ne _ _ (by omega), g _ _ (by omega) (by omega)]
  · refine ScX_of (w6 i hi') fun a j h => ?_
    rw [pi_ne _ _ (by omega), pi_ne _ _ (by omega), g _ _ (by omega) (by omega)]
  · rw [pi_ne _ _ (by omega), pi_ne _ _ (by omega)]
theorem x_takeBack0 (hP : PX n 0 H ni I σ) : m_X2_takeBack 56 (some 41) σ = some (0, σ) := by
  obtain ⟨nw, w1, w2, w3, w4, w5, w6⟩ := hP
  unfold m_X2_takeBack
  rw [w3]
  rfl
def imA (I : Nat → Nw) (i : Nat) (N : Nw) : Nat → Nw := fun k => if k = i then N else I k
set_option maxHeartbeats 1000000 in
theorem x_keepImage (hW : Wd σ) (hP : PX n na H ni I σ) (hN : ScX n N 41 σ) (hn : n ≤ 6) (ha : na ≤ 16) (hi : ni < 3) : ∃ σ', m_X2_keepImage 56 (some 41) σ = some (nI ni, σ') ∧ PX n na H (ni + 1) (imA I ni N) σ' ∧ Fr DP L0 σ σ' := by
  obtain ⟨nw, w1, w2, w3, w4, w5, w6⟩ := hP
  obtain ⟨q1, q2⟩ := w_sc2 hW hi
  have ec := x_copy q1 (w_sc0 hW) (by omega) (by omega)
  have g : ∀ a k, ¬ a = 91 + 2 * ni → ¬ a = 91 + 2 * ni + 1 → (scp σ (91 + 2 * ni) 41).2.1 a k = σ.2.1 a k := fun a k h1 h2 => by
    rw [scp_i, if_neg h1, if_neg (by omega)]
  have c4 : (scp σ (91 + 2 * ni) 41).2.1 56 4 = nI ni := by rw [g _ _ (by omega) (by omega), w4]
  have F1 : Fr DP L0 σ (scp σ (91 + 2 * ni) 41) := Fr_mono (scp_fr _ _ _) (fun a k h => by unfold DP; omega) fun _ h => h
  have hN' := ScX_cp (t := 91 + 2 * ni) hn hN
  generalize scp σ (91 + 2 * ni) 41 = τ at *
  refine ⟨jd_pi τ 56 4 (nI (ni + 1)), ?_, ⟨nw, w1, ?_, ?_, pi_eq _ _ _ _, fun k hk => ?_, fun i hi' => ?_⟩, Fr_pi F1 (Or.inl rfl)⟩
  · unfold m_X2_keepImage
    rw [w4, lx3, jif, if_pos ((nI_ltI (by omega) (by omega)).mpr hi), wr_56_1 hW, jia_of (wd hW 58 rfl) hi (by decide), q2, jo_of q1.1, ec, jb_some, c4, jli, lx1, nI_add, pi_eq, nI_s1]
  · rw [pi_ne _ _ (by omega), g _ _ (by omega) (by omega)]
    exact w2
  · rw [pi_ne _ _ (by omega), g _ _ (by omega) (by omega)]
    exact w3
  · refine ScX_of (w5 k hk) fun a j h => ?_
    rw [pi_ne _ _ (by omega), g _ _ (by omega) (by omega)]
  · unfold imA
    by_cases h : i = ni
    · subst h
      rw [if_pos rfl]
      exact ScX_of hN' fun a j h => pi_ne _ _ (by omega)
    · rw [if_neg h]
      refine ScX_of (w6 i (by omega)) fun a j h => ?_
      rw [pi_ne _ _ (by omega), g _ _ (by omega) (by omega)]
set_option maxHeartbeats 1000000 in
theorem x_bringBack (hW : Wd σ) (hP : PX n na H ni I σ) (hn : n ≤ 6) (ha : na ≤ 16) (hi : ni ≤ 3) {j : Nat} (hj : j < ni) : ∃ σ', m_X2_bringBack 56 (nI j) (some 41) σ = some (1, σ') ∧ PX n 0 H ni I σ' ∧ ScX n (I j) 41 σ' ∧ Fr DK L0 σ σ' := by
  obtain ⟨nw, w1, w2, w3, w4, w5, w6⟩ := hP
  obtain ⟨q1, q2⟩ := w_sc2 hW (show j < 3 by omega)
  have ec := x_copy (w_sc0 hW) q1 (by omega) (by omega)
  have g : ∀ a k, ¬ a = 41 → ¬ a = 42 → (scp σ 41 (91 + 2 * j)).2.1 a k = σ.2.1 a k := fun a k h1 h2 => by
    rw [scp_i, if_neg h1, if_neg (by omega)]
  have F1 : Fr DK L0 σ (scp σ 41 (91 + 2 * j)) := Fr_mono (scp_fr _ _ _) (fun a k h => by unfold DK; omega) fun _ h => h
  have hN := ScX_cp (t := 41) hn (w6 j hj)
  generalize scp σ 41 (91 + 2 * j) = τ at *
  refine ⟨jd_pi τ 56 3 (nI 0), ?_, ⟨nw, w1, ?_, pi_eq _ _ _ _, ?_, fun k hk => absurd hk (Nat.not_lt_zero k), fun i hi' => ?_⟩, ScX_of hN fun a k h => pi_ne _ _ (by omega), Fr_pi F1 (Or.inl rfl)⟩
  · unfold m_X2_bringBack
    rw [jif, if_neg (nI_pos (by omega)), w4, jif, if_pos ((nI_ltI (by omega) (by omega)).mpr hj), wr_56_1 hW, jia_of (wd hW 58 rfl) (show j < 3 by omega) (by decide), jo_41 hW, q2, ec, jb_some, jli, lx0]
  · rw [pi_ne _ _ (by omega), g _ _ (by omega) (by omega)]
    exact w2
  · rw [pi_ne _ _ (by omega), g _ _ (by omega) (by omega)]
    exact w4
  · refine ScX_of (w6 i hi') fun a k h => ?_
    rw [pi_ne _ _ (by omega), g _ _ (by omega) (by omega)]
theorem x_bringBack0 (hP : PX n na H ni I σ) (hi : ni ≤ 3) {p : Int32} (hp : ixN p ni = none) : m_X2_bringBack 56 p (some 41) σ = some (0, σ) := by
  obtain ⟨nw, w1, w2, w3, w4, w5, w6⟩ := hP
  unfold m_X2_bringBack
  rw [w4]
  rcases ixN_none (by omega) hp with h1 | ⟨h1, h2⟩
  · rw [jif, if_pos (show p < 0 from h1)]
  · rw [jif, if_neg (show ¬ p < 0 from h1), jif, if_neg (Int32.not_lt.mpr h2)]
end
