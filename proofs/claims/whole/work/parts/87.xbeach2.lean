/-! P (37): the class's beach, all of it -/
def nw0 (B : Bch) : Nw := fun k => if k < 6 then B 1 k else if k = 6 then B 8 5 else 0
def z_beach (z : Zt) (x : Int32) : Int32 × Zt := match ixN x (z.2.2.2.1.1 + 1) with
  | none => (- nI 1, sTr z 2)
  | some n => match e_all z.2.2.2.1.2 n (n + 1) B0 0 with
    | .inl f => (- nI 1, (z.1, z.2.1, z.2.2.1, (0, z.2.2.2.1.2), f.1, nI f.2, 4))
    | .inr B => (nI (B 8 3), (some (B, nw0 B), (0, z.2.1.2), (0, z.2.2.1.2), (0, z.2.2.2.1.2), 0, - nI 1, 0))
section
variable {tp : Nat → Nat} {n i j T : Nat} {σ σ' σ1 : jd_Hp} {B B' : Bch} {N : Nw}
theorem nw0_ok (hb : bOk B) : nOk B (nw0 B) := by
  refine ⟨fun p hp => ?_, ?_, ?_, ?_⟩
  · show (if p < 6 then B 1 p else _) ≤ 99
    rw [if_pos hp]
    exact (hb.2.2.2.2.2.2.2.2.2.2 p).2.1
  · exact hb.2.2.2.2.2.2.2.1
  · exact Nat.two_pow_pos _
  · exact Nat.zero_le _
theorem CT_r (h : CTr B T σ) (h0 : ¬ B 8 0 = 0) (h3 : B 8 3 ≤ 6) : CT B T σ := by
  obtain ⟨c1, c2, c3, c4, c5⟩ := h
  refine ⟨fun i hi => ?_, fun k p hk hp => ?_, c5⟩
  · by_cases h : i < 3
    · exact c1 h0 i h
    · exact c2 i (by omega) hi
  · by_cases h : k < 4
    · exact c3 k p h hp
    · exact c4 k p (by omega) hk (by omega)
def X118 (σ σ' : jd_Hp) : Prop := σ'.1 = σ.1 ∧ ∀ a k, 118 ≤ a → σ'.2.1 a k = σ.2.1 a k ∧ σ'.2.2.1 a k = σ.2.2.1 a k ∧ σ'.2.2.2 a k = σ.2.2.2 a k
theorem X118_tr {σ2 : jd_Hp} (h : X118 σ σ1) (g : X118 σ1 σ2) : X118 σ σ2 := ⟨g.1.trans h.1, fun a k ha => ⟨(g.2 a k ha).1.trans (h.2 a k ha).1, (g.2 a k ha).2.1.trans (h.2 a k ha).2.1, (g.2 a k ha).2.2.trans (h.2 a k ha).2.2⟩⟩
theorem X118_fr {D : Nat → Nat → Prop} {L : Nat → Prop} (f : Fr D L σ σ1) (h : ∀ a k, D a k → a < 118) (h' : ∀ a, L a → a < 118) : X118 σ σ1 := ⟨f.1, fun a k ha => ⟨f.2.2.1 a k fun c => by have := h a k c; omega, f.2.2.2 a k fun c => by have := h' a c; omega, by rw [f.2.1]⟩⟩
theorem X118_pr {a k : Nat} (v : Option Nat) (ha : a < 118) : X118 σ (jd_pr σ a k v) := ⟨rfl, fun b j hb => ⟨rfl, rfl, by
  show (if b = a then (if j = k then v else σ.2.2.2 b j) else σ.2.2.2 b j) = _
  rw [if_neg (by omega)]⟩⟩
theorem X118_GX (h : X118 σ σ1) : GX σ σ1 := ⟨Gr_same h.1, fun a k ha _ _ => h.2 a k ha⟩
theorem fin_wR2 : ∀ q ∈ wR, ¬ (q.1 = 40 ∧ q.2.1 = 5) ∧ ¬ (q.1 = 32 ∧ q.2.1 = 9) ∧ ¬ (q.1 = 118 ∧ (q.2.1 = 3 ∨ q.2.1 = 4)) := by decide +kernel
theorem pr_r (σ : jd_Hp) (a k : Nat) (v : Option Nat) (b j : Nat) : (jd_pr σ a k v).2.2.2 b j = if b = a then (if j = k then v else σ.2.2.2 b j) else σ.2.2.2 b j := rfl
theorem pr_eq (σ : jd_Hp) (a k : Nat) (v : Option Nat) : (jd_pr σ a k v).2.2.2 a k = v := by rw [pr_r, if_pos rfl, if_pos rfl]
theorem pr_ne (σ : jd_Hp) {a k b j : Nat} (v : Option Nat) (h : ¬ (b = a ∧ j = k)) : (jd_pr σ a k v).2.2.2 b j = σ.2.2.2 b j := by
  rw [pr_r]
  by_cases h1 : b = a
  · rw [if_pos h1, if_neg fun h2 => h ⟨h1, h2⟩]
  · rw [if_neg h1]
theorem Wd_pr {a k : Nat} (v : Option Nat) (hW : Wd σ) (h : ∀ q ∈ wR, ¬ (q.1 = a ∧ q.2.1 = k)) : Wd (jd_pr σ a k v) := ⟨hW.1, fun q hq => by
  rw [pr_ne _ _ (h q hq)]
  exact hW.2 q hq⟩
set_option maxHeartbeats 2000000 in
theorem x_weightIf (hW : Wd σ) (hT : T = 47 ∨ T = 109) (hC : CT B T σ) (hb : bOk B) {s : Nat} (hs : s < B 8 3) : m_X7_weightIfSinking (some T) (nI s) σ = some (lN (wt B s), σ) := by
  have b2 := hb.2.1
  have b7 := hb.2.2.2.2.2.2.1
  have bp := hb.2.2.2.2.2.2.2.2.2.2
  have e100 : nI 100 - nI (B 8 2) = nI (100 - B 8 2) := nI_sub b7
  unfold m_X7_weightIfSinking
  rw [jlp_p (B 8 3) (fun i => ((lN (prN (wtF B s) i), nI i) : Int64 × Int32)) (lN (wt B s)) (jfu (by omega)) ?_ ?_ ?_]
  · rfl
  · rfl
  · intro i hi
    have e5 := (bp i).2.2.2.2.2.1
    have h3 : ¬ B 8 3 ≤ i := by omega
    have ep : prN (wtF B s) (i + 1) = prN (wtF B s) i * wtF B s i := rfl
    by_cases h0 : B 5 i = 0
    · have ew : wtF B s i = 1 := by simp [wtF, h0]
      rw [ep, ew, Nat.mul_one]
      simp (disch := omega) only [jb_some, jli, jif, jd_q, jd_K0, jpi_s, jpi_l, jpi_p, jpl_s, jpl_i, jpl_p, if_true, if_false, if_pos, if_neg, not_true_eq_false, not_false_eq_true, ite_true, ite_false, Nat.not_lt_zero, eq_self, Nat.le_refl, Nat.lt_irrefl, Bool.false_eq_true, or0, jo_pi, jo_pl, jia_pi, jia_pl, jo_cpy, jia_cpy, cpy_r, m_X11_grant, m_X11_refuse, m_X13_good, m_X13_refused, reduceCtorEq, nI_add, nI_leI, nI_ltI, nI_eq, pk_mul, abs_nI, max_nI, min_nI, nI_m1, nI_m2, nI_le1, m1_lt, m2_lt, and_nI, or_nI, an_nI, has_nI, bit_nI, bc_nI, bits_nI, lx0, lx1, lx2, lx3, lx4, lx5, lx6, lx7, lx8, lx9, lx10, lx11, lx16, lx20, lx40, lx60, lx90, lx99, lx100, lx200, lx900, lx999, lx9999, lN_add, lN_mul, nI_l, cl_le, cl_gt, cl_eq, pk_lEQ, pk_lDiv, ly0, ly1, ly2, ly100, h0, h3, joT hW hT, wrT5 hW hT, jaT6 hW hT, ct_s3 hC, ct_s2 hC, ct_a5 hC]
    · by_cases h2 : B 5 i = 2
      · by_cases h1 : i = s
        · subst h1
          have ew : wtF B i i = B 8 2 := by simp [wtF, h2]
          rw [ep, ew]
          simp (disch := omega) only [jb_some, jli, jif, jd_q, jd_K0, jpi_s, jpi_l, jpi_p, jpl_s, jpl_i, jpl_p, if_true, if_false, if_pos, if_neg, not_true_eq_false, not_false_eq_true, ite_true, ite_false, Nat.not_lt_zero, eq_self, Nat.le_refl, Nat.lt_irrefl, Bool.false_eq_true, or0, jo_pi, jo_pl, jia_pi, jia_pl, jo_cpy, jia_cpy, cpy_r, m_X11_grant, m_X11_refuse, m_X13_good, m_X13_refused, reduceCtorEq, nI_add, nI_leI, nI_ltI, nI_eq, pk_mul, abs_nI, max_nI, min_nI, nI_m1, nI_m2, nI_le1, m1_lt, m2_lt, and_nI, or_nI, an_nI, has_nI, bit_nI, bc_nI, bits_nI, lx0, lx1, lx2, lx3, lx4, lx5, lx6, lx7, lx8, lx9, lx10, lx11, lx16, lx20, lx40, lx60, lx90, lx99, lx100, lx200, lx900, lx999, lx9999, lN_add, lN_mul, nI_l, cl_le, cl_gt, cl_eq, pk_lEQ, pk_lDiv, ly0, ly1, ly2, ly100, h2, h3, joT hW hT, wrT5 hW hT, jaT6 hW hT, ct_s3 hC, ct_s2 hC, ct_a5 hC]
        · have ew : wtF B s i = 100 - B 8 2 := by simp [wtF, h2, h1]
          rw [ep, ew]
          simp (disch := omega) only [jb_some, jli, jif, jd_q, jd_K0, jpi_s, jpi_l, jpi_p, jpl_s, jpl_i, jpl_p, if_true, if_false, if_pos, if_neg, not_true_eq_false, not_false_eq_true, ite_true, ite_false, Nat.not_lt_zero, eq_self, Nat.le_refl, Nat.lt_irrefl, Bool.false_eq_true, or0, jo_pi, jo_pl, jia_pi, jia_pl, jo_cpy, jia_cpy, cpy_r, m_X11_grant, m_X11_refuse, m_X13_good, m_X13_refused, reduceCtorEq, nI_add, nI_leI, nI_ltI, nI_eq, pk_mul, abs_nI, max_nI, min_nI, nI_m1, nI_m2, nI_le1, m1_lt, m2_lt, and_nI, or_nI, an_nI, has_nI, bit_nI, bc_nI, bits_nI, lx0, lx1, lx2, lx3, lx4, lx5, lx6, lx7, lx8, lx9, lx10, lx11, lx16, lx20, lx40, lx60, lx90, lx99, lx100, lx200, lx900, lx999, lx9999, lN_add, lN_mul, nI_l, cl_le, cl_gt, cl_eq, pk_lEQ, pk_lDiv, ly0, ly1, ly2, ly100, h2, h3, h1, e100, joT hW hT, wrT5 hW hT, jaT6 hW hT, ct_s3 hC, ct_s2 hC, ct_a5 hC]
      · have h2' : B 5 i = 1 := by omega
        by_cases h1 : i = s
        · subst h1
          have ew : wtF B i i = 100 - B 8 2 := by simp [wtF, h0, h2]
          rw [ep, ew]
          simp (disch := omega) only [jb_some, jli, jif, jd_q, jd_K0, jpi_s, jpi_l, jpi_p, jpl_s, jpl_i, jpl_p, if_true, if_false, if_pos, if_neg, not_true_eq_false, not_false_eq_true, ite_true, ite_false, Nat.not_lt_zero, eq_self, Nat.le_refl, Nat.lt_irrefl, Bool.false_eq_true, or0, jo_pi, jo_pl, jia_pi, jia_pl, jo_cpy, jia_cpy, cpy_r, m_X11_grant, m_X11_refuse, m_X13_good, m_X13_refused, reduceCtorEq, nI_add, nI_leI, nI_ltI, nI_eq, pk_mul, abs_nI, max_nI, min_nI, nI_m1, nI_m2, nI_le1, m1_lt, m2_lt, and_nI, or_nI, an_nI, has_nI, bit_nI, bc_nI, bits_nI, lx0, lx1, lx2, lx3, lx4, lx5, lx6, lx7, lx8, lx9, lx10, lx11, lx16, lx20, lx40, lx60, lx90, lx99, lx100, lx200, lx900, lx999, lx9999, lN_add, lN_mul, nI_l, cl_le, cl_gt, cl_eq, pk_lEQ, pk_lDiv, ly0, ly1, ly2, ly100, h2', h3, e100, joT hW hT, wrT5 hW hT, jaT6 hW hT, ct_s3 hC, ct_s2 hC, ct_a5 hC]
        · have ew : wtF B s i = B 8 2 := by simp [wtF, h0, h2, h1]
          rw [ep, ew]
          simp (disch := omega) only [jb_some, jli, jif, jd_q, jd_K0, jpi_s, jpi_l, jpi_p, jpl_s, jpl_i, jpl_p, if_true, if_false, if_pos, if_neg, not_true_eq_false, not_false_eq_true, ite_true, ite_false, Nat.not_lt_zero, eq_self, Nat.le_refl, Nat.lt_irrefl, Bool.false_eq_true, or0, jo_pi, jo_pl, jia_pi, jia_pl, jo_cpy, jia_cpy, cpy_r, m_X11_grant, m_X11_refuse, m_X13_good, m_X13_refused, reduceCtorEq, nI_add, nI_leI, nI_ltI, nI_eq, pk_mul, abs_nI, max_nI, min_nI, nI_m1, nI_m2, nI_le1, m1_lt, m2_lt, and_nI, or_nI, an_nI, has_nI, bit_nI, bc_nI, bits_nI, lx0, lx1, lx2, lx3, lx4, lx5, lx6, lx7, lx8, lx9, lx10, lx11, lx16, lx20, lx40, lx60, lx90, lx99, lx100, lx200, lx900, lx999, lx9999, lN_add, lN_mul, nI_l, cl_le, cl_gt, cl_eq, pk_lEQ, pk_lDiv, ly0, ly1, ly2, ly100, h2', h3, h1, joT hW hT, wrT5 hW hT, jaT6 hW hT, ct_s3 hC, ct_s2 hC, ct_a5 hC]
  · simp (disch := omega) only [jb_some, jli, jif, jd_q, jd_K0, jpi_s, jpi_l, jpi_p, jpl_s, jpl_i, jpl_p, if_true, if_false, if_pos, if_neg, not_true_eq_false, not_false_eq_true, ite_true, ite_false, Nat.not_lt_zero, eq_self, Nat.le_refl, Nat.lt_irrefl, Bool.false_eq_true, or0, jo_pi, jo_pl, jia_pi, jia_pl, jo_cpy, jia_cpy, cpy_r, m_X11_grant, m_X11_refuse, m_X13_good, m_X13_refused, reduceCtorEq, nI_add, nI_leI, nI_ltI, nI_eq, pk_mul, abs_nI, max_nI, min_nI, nI_m1, nI_m2, nI_le1, m1_lt, m2_lt, and_nI, or_nI, an_nI, has_nI, bit_nI, bc_nI, bits_nI, lx0, lx1, lx2, lx3, lx4, lx5, lx6, lx7, lx8, lx9, lx10, lx11, lx16, lx20, lx40, lx60, lx90, lx99, lx100, lx200, lx900, lx999, lx9999, lN_add, lN_mul, nI_l, cl_le, cl_gt, cl_eq, pk_lEQ, pk_lDiv, ly0, ly1, ly2, ly100, joT hW hT, ct_s3 hC]
    rfl
def DG (a k : Nat) : Prop := a = 104 ∧ k = 1
def LG (a : Nat) : Prop := a = 104 ∨ a = 105
set_option maxHeartbeats 2000000 in
theorem x_weigh (hW : Wd σ) (hT : T = 47 ∨ T = 109) (hC : CT B T σ) (hb : bOk B) : ∃ σ', m_X7_weigh 104 (some T) σ = some ((), σ') ∧ Fr DG LG σ σ' ∧ SG B σ' := by
  have b2 := hb.2.1
  unfold m_X7_weigh
  rw [joT hW hT, ct_s3 hC, jli, jli]
  have F0 : Fr DG LG σ (jd_pl (jd_pi σ 104 1 (nI (B 8 3))) 104 2 0) := Fr_pl (Fr_pi (Fr_refl σ) ⟨rfl, rfl⟩) (Or.inl rfl)
  have one := jlp_inv (body := fun (s4 : Int32) σ4 =>
jd_o σ4 (7, 3) (some 104) fun a6 =>
jd_if ((σ4.2.1 a6 1) ≤ s4) (
some ((Sum.inr ()), σ4)) (
jd_b (m_X7_weightIfSinking (some T) s4 σ4) fun r7 σ7 =>
jd_ia σ7 23 (σ4.2.2.2 a6 0) s4 fun a8 j8 =>
jd_li (jd_pl σ7 a8 j8 r7) fun τ9 =>
jd_ia τ9 23 (τ9.2.2.2 a6 0) s4 fun a10 j10 =>
jd_li (jd_pl τ9 a6 2 ((τ9.2.2.1 a6 2) + (τ9.2.2.1 a10 j10))) fun τ11 =>
some (Sum.inl (s4 + 1), τ11))) (B 8 3) (fun i s σ' => s = nI i ∧ Fr DG LG σ σ' ∧ σ'.2.1 104 1 = nI (B 8 3) ∧ (∀ p, p < i → σ'.2.2.1 105 p = lN (wt B p)) ∧ σ'.2.2.1 104 2 = lN (smN (wt B) i))
    (fun _ σ' => Fr DG LG σ σ' ∧ SG B σ') ?_ ?_ jd_fu (jfu (by omega)) 0 (jd_pl (jd_pi σ 104 1 (nI (B 8 3))) 104 2 0) ⟨rfl, F0, (by rw [jpl_i]; exact pi_eq _ _ _ _), fun p hp => absurd hp (Nat.not_lt_zero p), pl_eq _ _ _ _⟩
  · obtain ⟨t, σ1, h1, hF1, hs⟩ := one
    rw [h1, jb_some]
    exact ⟨σ1, rfl, hF1, hs⟩
  · rintro i s σ' hi ⟨rfl, hF, h1, h5, h2⟩
    have hW' := Fr_Wd hF hW
    have h3 : ¬ B 8 3 ≤ i := by omega
    have hC' : CT B T σ' := CT_of hC fun a k k1 k2 => hF.2.2.1 a k (by unfold DG; omega)
    have e1 := x_weightIf hW' hT hC' hb hi
    have e2 : (jd_pl σ' 105 i (lN (wt B i))).2.2.1 104 2 = lN (smN (wt B) i) := (pl_ne _ _ (by omega)).trans h2
    have e3 : (jd_pl σ' 105 i (lN (wt B i))).2.2.1 105 i = lN (wt B i) := pl_eq _ _ _ _
    refine ⟨nI (i + 1), jd_pl (jd_pl σ' 105 i (lN (wt B i))) 104 2 (lN (smN (wt B) (i + 1))), ?_, rfl, Fr_pl (Fr_pl hF (Or.inr rfl)) (Or.inl rfl), h1, fun p hp => ?_, pl_eq _ _ _ _⟩
    · simp (disch := omega) only [jb_some, jli, jif, jd_q, jd_K0, jpi_s, jpi_l, jpi_p, jpl_s, jpl_i, jpl_p, if_true, if_false, if_pos, if_neg, not_true_eq_false, not_false_eq_true, ite_true, ite_false, Nat.not_lt_zero, eq_self, Nat.le_refl, Nat.lt_irrefl, Bool.false_eq_true, or0, jo_pi, jo_pl, jia_pi, jia_pl, jo_cpy, jia_cpy, cpy_r, m_X11_grant, m_X11_refuse, m_X13_good, m_X13_refused, reduceCtorEq, nI_add, nI_leI, nI_ltI, nI_eq, pk_mul, abs_nI, max_nI, min_nI, nI_m1, nI_m2, nI_le1, m1_lt, m2_lt, and_nI, or_nI, an_nI, has_nI, bit_nI, bc_nI, bits_nI, lx0, lx1, lx2, lx3, lx4, lx5, lx6, lx7, lx8, lx9, lx10, lx11, lx16, lx20, lx40, lx60, lx90, lx99, lx100, lx200, lx900, lx999, lx9999, lN_add, lN_mul, nI_l, cl_le, cl_gt, cl_eq, pk_lEQ, pk_lDiv, ly0, ly1, ly2, ly100, h1, h3, e1, e2, e3, jo_104 hW', wr_104_0 hW', jl_105 hW']
      rfl
    · rw [pl_ne _ _ (by omega)]
      by_cases hp2 : p = i
      · rw [hp2, e3]
      · rw [pl_ne _ _ (by omega)]
        exact h5 p (by omega)
  · rintro s σ' ⟨rfl, hF, h1, h5, h2⟩
    have hW' := Fr_Wd hF hW
    refine ⟨(), σ', ?_, hF, h5, h1, h2⟩
    simp (disch := omega) only [jb_some, jli, jif, jd_q, jd_K0, jpi_s, jpi_l, jpi_p, jpl_s, jpl_i, jpl_p, if_true, if_false, if_pos, if_neg, not_true_eq_false, not_false_eq_true, ite_true, ite_false, Nat.not_lt_zero, eq_self, Nat.le_refl, Nat.lt_irrefl, Bool.false_eq_true, or0, jo_pi, jo_pl, jia_pi, jia_pl, jo_cpy, jia_cpy, cpy_r, m_X11_grant, m_X11_refuse, m_X13_good, m_X13_refused, reduceCtorEq, nI_add, nI_leI, nI_ltI, nI_eq, pk_mul, abs_nI, max_nI, min_nI, nI_m1, nI_m2, nI_le1, m1_lt, m2_lt, and_nI, or_nI, an_nI, has_nI, bit_nI, bc_nI, bits_nI, lx0, lx1, lx2, lx3, lx4, lx5, lx6, lx7, lx8, lx9, lx10, lx11, lx16, lx20, lx40, lx60, lx90, lx99, lx100, lx200, lx900, lx999, lx9999, lN_add, lN_mul, nI_l, cl_le, cl_gt, cl_eq, pk_lEQ, pk_lDiv, ly0, ly1, ly2, ly100, h1, jo_104 hW']
theorem CX_of (h : CX B N T σ) (hW : Wd σ') (hS : σ'.2.2.2 40 5 = some T) (e : ∀ a k, 40 ≤ a ∧ a ≤ 45 ∨ T ≤ a ∧ a ≤ T + 8 → σ'.2.1 a k = σ.2.1 a k) : CX B N T σ' := by
  obtain ⟨⟨-, hT, -, hC, hN⟩, d1, d2, d3, d4, d5⟩ := h
  exact ⟨⟨hW, hT, hS, CT_of hC fun a k h1 h2 => e a k (by omega), CN_of hN fun a k h1 => e a k (by omega)⟩, fun p hp => (e _ _ (by omega)).trans (d1 p hp), fun p hp => (e _ _ (by omega)).trans (d2 p hp), fun p hp => (e _ _ (by omega)).trans (d3 p hp), (e _ _ (by omega)).trans d4, (e _ _ (by omega)).trans d5⟩
set_option maxHeartbeats 2000000 in
/-- a new beach is begun -/
theorem x_begin (hW : Wd σ) (hT : T = 47 ∨ T = 109) (hC : CT B T σ) (hb : bOk B) : ∃ σ', m_X6_begin 40 (some T) σ = some ((), σ') ∧ CX B (nw0 B) T σ' ∧ X118 σ σ' ∧ (∀ a k, ¬ (40 ≤ a ∧ a ≤ 45) → σ'.2.1 a k = σ.2.1 a k) ∧ (∀ a k, ¬ (a = 40 ∧ k = 5) → σ'.2.2.2 a k = σ.2.2.2 a k) := by
  have b2 := hb.2.1
  have hW1 : Wd (jd_pr σ 40 5 (some T)) := Wd_pr _ hW fun q hq => (fin_wR2 q hq).1
  have r1 : (jd_pr σ 40 5 (some T)).2.2.2 40 5 = some T := pr_eq _ _ _ _
  have r2 : ∀ a k, ¬ (a = 40 ∧ k = 5) → (jd_pr σ 40 5 (some T)).2.2.2 a k = σ.2.2.2 a k := fun a k h => pr_ne _ _ h
  have i1 : (jd_pr σ 40 5 (some T)).2.1 = σ.2.1 := rfl
  have x1 : X118 σ (jd_pr σ 40 5 (some T)) := X118_pr _ (by decide)
  have hC1 : CT B T (jd_pr σ 40 5 (some T)) := hC
  unfold m_X6_begin
  rw [jli]
  generalize jd_pr σ 40 5 (some T) = τ at *
  have eb : m_X4_begin 41 (some T) τ = some ((), jd_pi (jd_pi (jd_pi (cpy τ 42 (τ.2.1 (T + 2)) 6) 41 1 (nI (B 8 5))) 41 2 (nI 0)) 41 3 (nI 0)) := by
    unfold m_X4_begin
    rw [jlp_h 6 (fun i => nI i) (fun i => cpy τ 42 (τ.2.1 (T + 2)) i) () (cpy τ 42 (τ.2.1 (T + 2)) 6) (jfu (by omega)) ?_ ?_ ?_ ?_]
    · have c : (cpy τ 42 (τ.2.1 (T + 2)) 6).2.1 T 13 = nI (B 8 5) := by
        rw [cpy_i, if_neg (by omega)]
        exact ct_s5 hC1
      rw [jb_some, jo_cpy, joT hW1 hT, jo_cpy, jo_41 hW1, jli, jli, jli, c]
      rfl
    · rfl
    · exact (cpy_0 _ _ _).symm
    · intro i hi
      have h6 : ¬ 6 ≤ i := by omega
      simp (disch := omega) only [jb_some, jli, jif, jd_q, jd_K0, jpi_s, jpi_l, jpi_p, jpl_s, jpl_i, jpl_p, if_true, if_false, if_pos, if_neg, not_true_eq_false, not_false_eq_true, ite_true, ite_false, Nat.not_lt_zero, eq_self, Nat.le_refl, Nat.lt_irrefl, Bool.false_eq_true, or0, jo_pi, jo_pl, jia_pi, jia_pl, jo_cpy, jia_cpy, cpy_r, m_X11_grant, m_X11_refuse, m_X13_good, m_X13_refused, reduceCtorEq, nI_add, nI_leI, nI_ltI, nI_eq, pk_mul, abs_nI, max_nI, min_nI, nI_m1, nI_m2, nI_le1, m1_lt, m2_lt, and_nI, or_nI, an_nI, has_nI, bit_nI, bc_nI, bits_nI, lx0, lx1, lx2, lx3, lx4, lx5, lx6, lx7, lx8, lx9, lx10, lx11, lx16, lx20, lx40, lx60, lx90, lx99, lx100, lx200, lx900, lx999, lx9999, h6, jo_cpy, jia_cpy, cpy_r, jo_41 hW1, joT hW1 hT, wrT1 hW1 hT, jaT2 hW1 hT, wr_41_0 hW1, ja_42 hW1]
      rw [← cpy_s, cpy_i, if_neg (by omega)]
    · simp (disch := omega) only [jb_some, jli, jif, jd_q, jd_K0, jpi_s, jpi_l, jpi_p, jpl_s, jpl_i, jpl_p, if_true, if_false, if_pos, if_neg, not_true_eq_false, not_false_eq_true, ite_true, ite_false, Nat.not_lt_zero, eq_self, Nat.le_refl, Nat.lt_irrefl, Bool.false_eq_true, or0, jo_pi, jo_pl, jia_pi, jia_pl, jo_cpy, jia_cpy, cpy_r, m_X11_grant, m_X11_refuse, m_X13_good, m_X13_refused, reduceCtorEq, nI_add, nI_leI, nI_ltI, nI_eq, pk_mul, abs_nI, max_nI, min_nI, nI_m1, nI_m2, nI_le1, m1_lt, m2_lt, and_nI, or_nI, an_nI, has_nI, bit_nI, bc_nI, bits_nI, lx0, lx1, lx2, lx3, lx4, lx5, lx6, lx7, lx8, lx9, lx10, lx11, lx16, lx20, lx40, lx60, lx90, lx99, lx100, lx200, lx900, lx999, lx9999]
  have F1 : Fr (fun a _ => a = 41 ∨ a = 42) L0 τ (jd_pi (jd_pi (jd_pi (cpy τ 42 (τ.2.1 (T + 2)) 6) 41 1 (nI (B 8 5))) 41 2 (nI 0)) 41 3 (nI 0)) := Fr_pi (Fr_pi (Fr_pi (Fr_mono (D' := fun a _ => a = 41 ∨ a = 42) (cpy_fr _ _ _ _) (fun a k h => Or.inr h) fun _ h => h) (Or.inl rfl)) (Or.inl rfl)) (Or.inl rfl)
  have hN : CN B (nw0 B) (jd_pi (jd_pi (jd_pi (cpy τ 42 (τ.2.1 (T + 2)) 6) 41 1 (nI (B 8 5))) 41 2 (nI 0)) 41 3 (nI 0)) := by
    refine ⟨fun p hp => ?_, ?_, ?_, pi_eq _ _ _ _⟩
    · rw [pi_ne _ _ (by omega), pi_ne _ _ (by omega), pi_ne _ _ (by omega), cpy_i, if_pos ⟨rfl, by omega⟩]
      show _ = nI (if p < 6 then B 1 p else _)
      rw [if_pos (by omega)]
      exact ct_a1 hC1 hp
    · rw [pi_ne _ _ (by omega), pi_ne _ _ (by omega), pi_eq]
      rfl
    · rw [pi_ne _ _ (by omega), pi_eq]
      rfl
  rw [wr_40_0 hW1, jo_41 hW1, eb, jb_some]
  generalize jd_pi (jd_pi (jd_pi (cpy τ 42 (τ.2.1 (T + 2)) 6) 41 1 (nI (B 8 5))) 41 2 (nI 0)) 41 3 (nI 0) = τ2 at *
  have hA : CA B (nw0 B) T τ2 := ⟨Fr_Wd F1 hW1, hT, by rw [F1.2.1]; exact r1, CT_of hC1 fun a k k1 k2 => F1.2.2.1 a k (by omega), hN⟩
  obtain ⟨σ2, e2, F2, hD2⟩ := x_settle hA hb (nw0_ok hb)
  rw [e2, jb_some]
  refine ⟨σ2, rfl, ⟨CA_fr hA F2, hD2⟩, X118_tr x1 (X118_tr (X118_fr F1 (fun a k h => by omega) fun a h => absurd h id) (X118_fr F2 (fun a k h => by unfold DS at h; omega) fun a h => absurd h id)), fun a k h => ?_, fun a k h => ?_⟩
  · rw [F2.2.2.1 a k (by unfold DS; omega), F1.2.2.1 a k (by omega), i1]
  · rw [F2.2.1, F1.2.1]
    exact r2 a k h
end
