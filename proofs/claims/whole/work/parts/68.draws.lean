/-! P (18): afternoons -/
theorem lx74 : (74 : Int32) = nI 74 := rfl
theorem lx75 : (75 : Int32) = nI 75 := rfl
theorem lx65537 : (65537 : Int32) = nI 65537 := rfl
theorem lx65536 : (65536 : Int32) = nI 65536 := rfl
theorem ly74 : (74 : Int64) = lN 74 := rfl
theorem ly75 : (75 : Int64) = lN 75 := rfl
theorem ly65537 : (65537 : Int64) = lN 65537 := rfl
def sd (B : Bch) (N : Nw) (s : Nat) : Nat → Nat
  | 0 => s
  | p + 1 => if skC B N p then (75 * sd B N s p + 74) % 65537 else sd B N s p
def hit (B : Bch) (N : Nw) (s p : Nat) : Bool := skC B N p && decide (sd B N s (p + 1) % 100 < B 3 p)
def sds (B : Bch) (N : Nw) (s : Nat) : Nat → Nat
  | 0 => s
  | k + 1 => sd B N (sds B N s k) (B 8 3)
def lc (B : Bch) (N : Nw) (s j k : Nat) : Nat := cnt (fun t => hit B N (sds B N s t) j && rsk B N j) k
def wor (B : Bch) (N : Nw) (s : Nat) : Nat → Nat
  | 0 => 0
  | k + 1 => max (wor B N s k) (cnt (hit B N (sds B N s k)) (B 8 3))
section
variable {B : Bch} {N : Nw} {T b : Nat} {σ : jd_Hp}
theorem sd_lt {s : Nat} (hs : s < 65537) : ∀ p, sd B N s p < 65537
  | 0 => hs
  | p + 1 => by
    have := sd_lt hs p
    show (if skC B N p then (75 * sd B N s p + 74) % 65537 else sd B N s p) < 65537
    split
    · exact Nat.mod_lt _ (by decide)
    · exact this
theorem sds_lt {s : Nat} (hs : s < 65537) : ∀ k, sds B N s k < 65537
  | 0 => hs
  | k + 1 => sd_lt (sds_lt hs k) _
theorem wor_le {s : Nat} : ∀ k, wor B N s k ≤ B 8 3
  | 0 => Nat.zero_le _
  | k + 1 => by
    have h1 := wor_le (s := s) k
    have h2 := cnt_le (hit B N (sds B N s k)) (B 8 3)
    show max _ _ ≤ _
    omega
set_option maxHeartbeats 2000000 in
theorem x_drawAfternoon (h : CX B N T σ) (hb : bOk B) {s : Nat} (hs : s < 65537) (h1 : σ.2.1 106 1 = nI s) : ∃ σ', m_X1_drawAfternoon 106 (some 40) σ = some (nI (bN (hit B N s) (B 8 3)), σ') ∧ Fr DQ LQ σ σ' ∧ σ'.2.1 106 1 = nI (sd B N s (B 8 3)) := by
  have hh := h
  have hbb := hb
  have b2 := hb.2.1
  unfold m_X1_drawAfternoon
  have one := jlp_inv (body := fun (s1 : Int32 × Int32) σ1 =>
jd_o σ1 (6, 8) (some 40) fun a3 =>
jd_o σ1 (10, 16) (σ1.2.2.2 a3 5) fun a4 =>
jd_if ((σ1.2.1 a4 11) ≤ s1.2) (
some ((Sum.inr s1.1), σ1)) (
jd_b (m_X6_sinks a3 s1.2 σ1) fun r5 σ5 =>
jd_if (r5 = 0) (
some (Sum.inl (s1.1, (s1.2 + 1)), σ5)) (
jd_o σ5 (1, 2) (some 106) fun a6 =>
jd_li (jd_pi σ5 a6 1 (((75 * (σ5.2.1 a6 1)) + 74) - ((75 * (σ5.2.1 a6 1)) + 74) / 65537 * 65537)) fun τ7 =>
jd_o τ7 (10, 16) (τ7.2.2.2 a3 5) fun a8 =>
jd_ia τ7 20 (τ7.2.2.2 a8 3) s1.2 fun a9 j9 =>
jd_if ((τ7.2.1 a9 j9) ≤ ((τ7.2.1 a6 1) - (τ7.2.1 a6 1) / 100 * 100)) (
some (Sum.inl (s1.1, (s1.2 + 1)), τ7)) (
jd_li (s1.1 ||| (1 <<< (s1.2 &&& 31))) fun x10 =>
some (Sum.inl (x10, (s1.2 + 1)), τ7))))) (B 8 3) (fun i st σ' => st = (nI (bN (hit B N s) i), nI i) ∧ Fr DQ LQ σ σ' ∧ σ'.2.1 106 1 = nI (sd B N s i)) (fun t σ' => t = nI (bN (hit B N s) (B 8 3)) ∧ Fr DQ LQ σ σ' ∧ σ'.2.1 106 1 = nI (sd B N s (B 8 3))) ?_ ?_ jd_fu (jfu (by omega)) (0, 0) σ ⟨rfl, Fr_refl σ, h1⟩
  · obtain ⟨_, σ', e1, rfl, F, e2⟩ := one
    rw [e1, jb_some]
    exact ⟨σ', rfl, F, e2⟩
  · rintro i st σ' hi ⟨rfl, hF, hsd⟩
    have hX' := CX_fr hh hF
    have s1 := sd_lt (B := B) (N := N) hs i
    rcases hk : sink B N i with _ | t
    · have e1 := x_sk0 hX' hbb hi hk
      have sk : skC B N i = false := by simp [skC, hk]
      have e2 : sd B N s (i + 1) = sd B N s i := by simp [sd, sk]
      obtain ⟨hW, hT, hS, hC, hN⟩ := hX'.1
      refine ⟨(nI (bN (hit B N s) (i + 1)), nI (i + 1)), σ', ?_, rfl, hF, by rw [e2]; exact hsd⟩
      rw [bN_f (by simp [hit, sk])]
      simp (disch := omega) only [jb_some, jli, jif, jd_q, jd_K0, jpi_s, jpi_l, jpi_p, jpl_s, jpl_i, jpl_p, if_true, if_false, if_pos, if_neg, not_true_eq_false, not_false_eq_true, ite_true, ite_false, Nat.not_lt_zero, eq_self, Nat.le_refl, Nat.lt_irrefl, Bool.false_eq_true, or0, jo_pi, jo_pl, jia_pi, jia_pl, jo_cpy, jia_cpy, cpy_r, m_X11_grant, m_X11_refuse, m_X13_good, m_X13_refused, reduceCtorEq, nI_add, nI_leI, nI_ltI, nI_eq, pk_mul, abs_nI, max_nI, min_nI, nI_m1, nI_m2, nI_le1, m1_lt, m2_lt, and_nI, or_nI, an_nI, has_nI, bit_nI, bc_nI, bits_nI, lx0, lx1, lx2, lx3, lx4, lx5, lx6, lx7, lx8, lx9, lx10, lx11, lx16, lx20, lx40, lx60, lx90, lx99, lx100, lx200, lx900, lx999, lx9999, jo_32 hW, jo_33 hW, jo_35 hW, jo_40 hW, jo_41 hW, jo_56 hW, jo_97 hW, jo_100 hW, jo_104 hW, jo_106 hW, jo_108 hW, ja_34 hW, ja_36 hW, ja_37 hW, ja_38 hW, ja_39 hW, ja_42 hW, ja_43 hW, ja_44 hW, ja_45 hW, ja_46 hW, ja_98 hW, ja_99 hW, ja_101 hW, ja_102 hW, ja_103 hW, wr_32_0 hW, wr_32_1 hW, wr_32_2 hW, wr_32_3 hW, wr_32_4 hW, wr_32_5 hW, wr_32_6 hW, wr_32_7 hW, wr_32_8 hW, wr_33_0 hW, wr_35_0 hW, wr_35_1 hW, wr_35_2 hW, wr_35_3 hW, wr_35_4 hW, wr_40_0 hW, wr_40_1 hW, wr_40_2 hW, wr_40_3 hW, wr_40_4 hW, wr_41_0 hW, wr_56_0 hW, wr_56_1 hW, wr_97_0 hW, wr_97_1 hW, wr_100_0 hW, wr_100_1 hW, wr_100_2 hW, wr_104_0 hW, wr_106_0 hW, joT hW hT, jaT1 hW hT, jaT2 hW hT, jaT3 hW hT, jaT4 hW hT, jaT5 hW hT, jaT6 hW hT, jaT7 hW hT, jaT8 hW hT, wrT0 hW hT, wrT1 hW hT, wrT2 hW hT, wrT3 hW hT, wrT4 hW hT, wrT5 hW hT, wrT6 hW hT, wrT7 hW hT, hS, ct_a0 hC, ct_a1 hC, ct_a2 hC, ct_a3 hC, ct_a4 hC, ct_a5 hC, ct_a6 hC, ct_a7 hC, ct_s0 hC, ct_s1 hC, ct_s2 hC, ct_s3 hC, ct_s4 hC, ct_s5 hC, ct_s6 hC, ct_s7 hC, cn_p hN, cn_m hN, cn_l hN, cn_t hN, e1]
    · have e1 := x_sk1 hX' hbb hi hk
      have sk : skC B N i = true := by simp [skC, hk]
      have e2 : sd B N s (i + 1) = (75 * sd B N s i + 74) % 65537 := by simp [sd, sk]
      have r1 := pk_rem (a := 75 * sd B N s i + 74) (d := 65537) (by omega) (by decide) (by decide)
      rw [← e2] at r1
      have s2 := sd_lt (B := B) (N := N) hs (i + 1)
      have r2 := pk_rem (a := sd B N s (i + 1)) (d := 100) (by omega) (by decide) (by decide)
      have r3 := Nat.mod_lt (sd B N s (i + 1)) (show 100 > 0 by decide)
      have F9 : Fr DQ LQ σ (jd_pi σ' 106 1 (nI (sd B N s (i + 1)))) := Fr_pi hF (Or.inr (Or.inr (Or.inr rfl)))
      have h9 := CX_fr hh F9
      have k9 := pi_eq σ' 106 1 (nI (sd B N s (i + 1)))
      have e3 := ((hbb.2.2.2.2.2.2.2.2.2.2) i).2.2.2.1
      refine ⟨(nI (bN (hit B N s) (i + 1)), nI (i + 1)), jd_pi σ' 106 1 (nI (sd B N s (i + 1))), ?_, rfl, F9, k9⟩
      have h7 : ∀ v, (jd_pi σ' 106 1 v).2.1 (T + 4) i = nI (B 3 i) := fun v => by
        rw [pi_ne _ _ (by have := hX'.1.2.1; omega)]
        exact ct_a3 hX'.1.2.2.2.1 hi
      obtain ⟨hW, hT, hS, hC, hN⟩ := hX'.1
      by_cases hc : B 3 i ≤ sd B N s (i + 1) % 100
      · rw [bN_f (by simp [hit, sk]; omega)]
        simp (disch := omega) only [jb_some, jli, jif, jd_q, jd_K0, jpi_s, jpi_l, jpi_p, jpl_s, jpl_i, jpl_p, if_true, if_false, if_pos, if_neg, not_true_eq_false, not_false_eq_true, ite_true, ite_false, Nat.not_lt_zero, eq_self, Nat.le_refl, Nat.lt_irrefl, Bool.false_eq_true, or0, jo_pi, jo_pl, jia_pi, jia_pl, jo_cpy, jia_cpy, cpy_r, m_X11_grant, m_X11_refuse, m_X13_good, m_X13_refused, reduceCtorEq, nI_add, nI_leI, nI_ltI, nI_eq, pk_mul, abs_nI, max_nI, min_nI, nI_m1, nI_m2, nI_le1, m1_lt, m2_lt, and_nI, or_nI, an_nI, has_nI, bit_nI, bc_nI, bits_nI, lx0, lx1, lx2, lx3, lx4, lx5, lx6, lx7, lx8, lx9, lx10, lx11, lx16, lx20, lx40, lx60, lx90, lx99, lx100, lx200, lx900, lx999, lx9999, jo_32 hW, jo_33 hW, jo_35 hW, jo_40 hW, jo_41 hW, jo_56 hW, jo_97 hW, jo_100 hW, jo_104 hW, jo_106 hW, jo_108 hW, ja_34 hW, ja_36 hW, ja_37 hW, ja_38 hW, ja_39 hW, ja_42 hW, ja_43 hW, ja_44 hW, ja_45 hW, ja_46 hW, ja_98 hW, ja_99 hW, ja_101 hW, ja_102 hW, ja_103 hW, wr_32_0 hW, wr_32_1 hW, wr_32_2 hW, wr_32_3 hW, wr_32_4 hW, wr_32_5 hW, wr_32_6 hW, wr_32_7 hW, wr_32_8 hW, wr_33_0 hW, wr_35_0 hW, wr_35_1 hW, wr_35_2 hW, wr_35_3 hW, wr_35_4 hW, wr_40_0 hW, wr_40_1 hW, wr_40_2 hW, wr_40_3 hW, wr_40_4 hW, wr_41_0 hW, wr_56_0 hW, wr_56_1 hW, wr_97_0 hW, wr_97_1 hW, wr_100_0 hW, wr_100_1 hW, wr_100_2 hW, wr_104_0 hW, wr_106_0 hW, joT hW hT, jaT1 hW hT, jaT2 hW hT, jaT3 hW hT, jaT4 hW hT, jaT5 hW hT, jaT6 hW hT, jaT7 hW hT, jaT8 hW hT, wrT0 hW hT, wrT1 hW hT, wrT2 hW hT, wrT3 hW hT, wrT4 hW hT, wrT5 hW hT, wrT6 hW hT, wrT7 hW hT, hS, ct_a0 hC, ct_a1 hC, ct_a2 hC, ct_a3 hC, ct_a4 hC, ct_a5 hC, ct_a6 hC, ct_a7 hC, ct_s0 hC, ct_s1 hC, ct_s2 hC, ct_s3 hC, ct_s4 hC, ct_s5 hC, ct_s6 hC, ct_s7 hC, cn_p hN, cn_m hN, cn_l hN, cn_t hN, e1, hsd, lx74, lx75, lx65537, r1, k9, r2, h7, hc]
      · rw [bN_t (by simp [hit, sk]; omega)]
        simp (disch := omega) only [jb_some, jli, jif, jd_q, jd_K0, jpi_s, jpi_l, jpi_p, jpl_s, jpl_i, jpl_p, if_true, if_false, if_pos, if_neg, not_true_eq_false, not_false_eq_true, ite_true, ite_false, Nat.not_lt_zero, eq_self, Nat.le_refl, Nat.lt_irrefl, Bool.false_eq_true, or0, jo_pi, jo_pl, jia_pi, jia_pl, jo_cpy, jia_cpy, cpy_r, m_X11_grant, m_X11_refuse, m_X13_good, m_X13_refused, reduceCtorEq, nI_add, nI_leI, nI_ltI, nI_eq, pk_mul, abs_nI, max_nI, min_nI, nI_m1, nI_m2, nI_le1, m1_lt, m2_lt, and_nI, or_nI, an_nI, has_nI, bit_nI, bc_nI, bits_nI, lx0, lx1, lx2, lx3, lx4, lx5, lx6, lx7, lx8, lx9, lx10, lx11, lx16, lx20, lx40, lx60, lx90, lx99, lx100, lx200, lx900, lx999, lx9999, jo_32 hW, jo_33 hW, jo_35 hW, jo_40 hW, jo_41 hW, jo_56 hW, jo_97 hW, jo_100 hW, jo_104 hW, jo_106 hW, jo_108 hW, ja_34 hW, ja_36 hW, ja_37 hW, ja_38 hW, ja_39 hW, ja_42 hW, ja_43 hW, ja_44 hW, ja_45 hW, ja_46 hW, ja_98 hW, ja_99 hW, ja_101 hW, ja_102 hW, ja_103 hW, wr_32_0 hW, wr_32_1 hW, wr_32_2 hW, wr_32_3 hW, wr_32_4 hW, wr_32_5 hW, wr_32_6 hW, wr_32_7 hW, wr_32_8 hW, wr_33_0 hW, wr_35_0 hW, wr_35_1 hW, wr_35_2 hW, wr_35_3 hW, wr_35_4 hW, wr_40_0 hW, wr_40_1 hW, wr_40_2 hW, wr_40_3 hW, wr_40_4 hW, wr_41_0 hW, wr_56_0 hW, wr_56_1 hW, wr_97_0 hW, wr_97_1 hW, wr_100_0 hW, wr_100_1 hW, wr_100_2 hW, wr_104_0 hW, wr_106_0 hW, joT hW hT, jaT1 hW hT, jaT2 hW hT, jaT3 hW hT, jaT4 hW hT, jaT5 hW hT, jaT6 hW hT, jaT7 hW hT, jaT8 hW hT, wrT0 hW hT, wrT1 hW hT, wrT2 hW hT, wrT3 hW hT, wrT4 hW hT, wrT5 hW hT, wrT6 hW hT, wrT7 hW hT, hS, ct_a0 hC, ct_a1 hC, ct_a2 hC, ct_a3 hC, ct_a4 hC, ct_a5 hC, ct_a6 hC, ct_a7 hC, ct_s0 hC, ct_s1 hC, ct_s2 hC, ct_s3 hC, ct_s4 hC, ct_s5 hC, ct_s6 hC, ct_s7 hC, cn_p hN, cn_m hN, cn_l hN, cn_t hN, e1, hsd, lx74, lx75, lx65537, r1, k9, r2, h7, hc, bN_or]
  · rintro st σ' ⟨rfl, hF, hsd⟩
    obtain ⟨hW, hT, hS, hC, hN⟩ := (CX_fr hh hF).1
    refine ⟨_, σ', ?_, rfl, hF, hsd⟩
    simp (disch := omega) only [jb_some, jli, jif, jd_q, jd_K0, jpi_s, jpi_l, jpi_p, jpl_s, jpl_i, jpl_p, if_true, if_false, if_pos, if_neg, not_true_eq_false, not_false_eq_true, ite_true, ite_false, Nat.not_lt_zero, eq_self, Nat.le_refl, Nat.lt_irrefl, Bool.false_eq_true, or0, jo_pi, jo_pl, jia_pi, jia_pl, jo_cpy, jia_cpy, cpy_r, m_X11_grant, m_X11_refuse, m_X13_good, m_X13_refused, reduceCtorEq, nI_add, nI_leI, nI_ltI, nI_eq, pk_mul, abs_nI, max_nI, min_nI, nI_m1, nI_m2, nI_le1, m1_lt, m2_lt, and_nI, or_nI, an_nI, has_nI, bit_nI, bc_nI, bits_nI, lx0, lx1, lx2, lx3, lx4, lx5, lx6, lx7, lx8, lx9, lx10, lx11, lx16, lx20, lx40, lx60, lx90, lx99, lx100, lx200, lx900, lx999, lx9999, jo_32 hW, jo_33 hW, jo_35 hW, jo_40 hW, jo_41 hW, jo_56 hW, jo_97 hW, jo_100 hW, jo_104 hW, jo_106 hW, jo_108 hW, ja_34 hW, ja_36 hW, ja_37 hW, ja_38 hW, ja_39 hW, ja_42 hW, ja_43 hW, ja_44 hW, ja_45 hW, ja_46 hW, ja_98 hW, ja_99 hW, ja_101 hW, ja_102 hW, ja_103 hW, wr_32_0 hW, wr_32_1 hW, wr_32_2 hW, wr_32_3 hW, wr_32_4 hW, wr_32_5 hW, wr_32_6 hW, wr_32_7 hW, wr_32_8 hW, wr_33_0 hW, wr_35_0 hW, wr_35_1 hW, wr_35_2 hW, wr_35_3 hW, wr_35_4 hW, wr_40_0 hW, wr_40_1 hW, wr_40_2 hW, wr_40_3 hW, wr_40_4 hW, wr_41_0 hW, wr_56_0 hW, wr_56_1 hW, wr_97_0 hW, wr_97_1 hW, wr_100_0 hW, wr_100_1 hW, wr_100_2 hW, wr_104_0 hW, wr_106_0 hW, joT hW hT, jaT1 hW hT, jaT2 hW hT, jaT3 hW hT, jaT4 hW hT, jaT5 hW hT, jaT6 hW hT, jaT7 hW hT, jaT8 hW hT, wrT0 hW hT, wrT1 hW hT, wrT2 hW hT, wrT3 hW hT, wrT4 hW hT, wrT5 hW hT, wrT6 hW hT, wrT7 hW hT, hS, ct_a0 hC, ct_a1 hC, ct_a2 hC, ct_a3 hC, ct_a4 hC, ct_a5 hC, ct_a6 hC, ct_a7 hC, ct_s0 hC, ct_s1 hC, ct_s2 hC, ct_s3 hC, ct_s4 hC, ct_s5 hC, ct_s6 hC, ct_s7 hC, cn_p hN, cn_m hN, cn_l hN, cn_t hN]
set_option maxHeartbeats 2000000 in
theorem x_timesLost (h : CX B N T σ) (hb : bOk B) {s j n : Nat} (hs : s < 65537) (hj : j < B 8 3) (hn : n ≤ 90) : ∃ σ', m_X1_timesLost 106 (some 40) (nI j) (nI s) (nI n) σ = some (nI (lc B N s j n), σ') ∧ Fr DQ LQ σ σ' := by
  have hbb := hb
  have b2 := hb.2.1
  unfold m_X1_timesLost
  have F0 : Fr DQ LQ σ (jd_pi σ 106 1 (nI s)) := Fr_pi (Fr_refl σ) (Or.inr (Or.inr (Or.inr rfl)))
  have one := jlp_inv (body := fun (s2 : Int32 × Int32) σ2 =>
jd_if (nI n ≤ s2.2) (
some ((Sum.inr s2.1), σ2)) (
jd_o σ2 (1, 2) (some 106) fun a4 =>
jd_b (m_X1_drawAfternoon a4 (some 40) σ2) fun r5 σ5 =>
jd_b (m_X11_has r5 (nI j) σ5) fun r6 σ6 =>
jd_if (r6 = 0) (
some (Sum.inl (s2.1, (s2.2 + 1)), σ6)) (
jd_b (m_X1_isAtRisk (some 40) (nI j) σ6) fun r7 σ7 =>
jd_if (r7 = 0) (
some (Sum.inl (s2.1, (s2.2 + 1)), σ7)) (
some (Sum.inl ((s2.1 + 1), (s2.2 + 1)), σ7))))) n (fun k st σ' => st = (nI (lc B N s j k), nI k) ∧ Fr DQ LQ σ σ' ∧ σ'.2.1 106 1 = nI (sds B N s k)) (fun t σ' => t = nI (lc B N s j n) ∧ Fr DQ LQ σ σ') ?_ ?_ jd_fu (jfu (by omega)) (0, 0) (jd_pi σ 106 1 (nI s)) ⟨rfl, F0, pi_eq _ _ _ _⟩
  · obtain ⟨_, σ', e1, rfl, F⟩ := one
    rw [jli, e1, jb_some]
    exact ⟨σ', rfl, F⟩
  · rintro k st σ' hk ⟨rfl, hF, hsd⟩
    have hW := (CX_fr h hF).1.1
    obtain ⟨σ5, e1, F5, e2⟩ := x_drawAfternoon (CX_fr h hF) hbb (sds_lt hs k) hsd
    have hX5 := CX_fr h (Fr_tr hF F5)
    have e3 := x_isAtRisk hX5 hbb hj
    have e4 := bN_64 (hit B N (sds B N s k)) b2
    have e5 := bN_test' (hit B N (sds B N s k)) b2 hj
    have nk : ¬ n ≤ k := by omega
    refine ⟨(nI (lc B N s j (k + 1)), nI (k + 1)), σ5, ?_, rfl, Fr_tr hF F5, e2⟩
    unfold lc
    rcases h1 : hit B N (sds B N s k) j with _ | _
    · rw [cnt_f (by simp [h1])]
      simp (disch := omega) only [jb_some, jli, jif, jd_q, jd_K0, jpi_s, jpi_l, jpi_p, jpl_s, jpl_i, jpl_p, if_true, if_false, if_pos, if_neg, not_true_eq_false, not_false_eq_true, ite_true, ite_false, Nat.not_lt_zero, eq_self, Nat.le_refl, Nat.lt_irrefl, Bool.false_eq_true, or0, jo_pi, jo_pl, jia_pi, jia_pl, jo_cpy, jia_cpy, cpy_r, m_X11_grant, m_X11_refuse, m_X13_good, m_X13_refused, reduceCtorEq, nI_add, nI_leI, nI_ltI, nI_eq, pk_mul, abs_nI, max_nI, min_nI, nI_m1, nI_m2, nI_le1, m1_lt, m2_lt, and_nI, or_nI, an_nI, has_nI, bit_nI, bc_nI, bits_nI, lx0, lx1, lx2, lx3, lx4, lx5, lx6, lx7, lx8, lx9, lx10, lx11, lx16, lx20, lx40, lx60, lx90, lx99, lx100, lx200, lx900, lx999, lx9999, jo_32 hW, jo_33 hW, jo_35 hW, jo_40 hW, jo_41 hW, jo_56 hW, jo_97 hW, jo_100 hW, jo_104 hW, jo_106 hW, jo_108 hW, ja_34 hW, ja_36 hW, ja_37 hW, ja_38 hW, ja_39 hW, ja_42 hW, ja_43 hW, ja_44 hW, ja_45 hW, ja_46 hW, ja_98 hW, ja_99 hW, ja_101 hW, ja_102 hW, ja_103 hW, wr_32_0 hW, wr_32_1 hW, wr_32_2 hW, wr_32_3 hW, wr_32_4 hW, wr_32_5 hW, wr_32_6 hW, wr_32_7 hW, wr_32_8 hW, wr_33_0 hW, wr_35_0 hW, wr_35_1 hW, wr_35_2 hW, wr_35_3 hW, wr_35_4 hW, wr_40_0 hW, wr_40_1 hW, wr_40_2 hW, wr_40_3 hW, wr_40_4 hW, wr_41_0 hW, wr_56_0 hW, wr_56_1 hW, wr_97_0 hW, wr_97_1 hW, wr_100_0 hW, wr_100_1 hW, wr_100_2 hW, wr_104_0 hW, wr_106_0 hW, nk, e1, e5, h1]
    · rcases h2 : rsk B N j with _ | _
      · rw [cnt_f (by simp [h2])]
        simp (disch := omega) only [jb_some, jli, jif, jd_q, jd_K0, jpi_s, jpi_l, jpi_p, jpl_s, jpl_i, jpl_p, if_true, if_false, if_pos, if_neg, not_true_eq_false, not_false_eq_true, ite_true, ite_false, Nat.not_lt_zero, eq_self, Nat.le_refl, Nat.lt_irrefl, Bool.false_eq_true, or0, jo_pi, jo_pl, jia_pi, jia_pl, jo_cpy, jia_cpy, cpy_r, m_X11_grant, m_X11_refuse, m_X13_good, m_X13_refused, reduceCtorEq, nI_add, nI_leI, nI_ltI, nI_eq, pk_mul, abs_nI, max_nI, min_nI, nI_m1, nI_m2, nI_le1, m1_lt, m2_lt, and_nI, or_nI, an_nI, has_nI, bit_nI, bc_nI, bits_nI, lx0, lx1, lx2, lx3, lx4, lx5, lx6, lx7, lx8, lx9, lx10, lx11, lx16, lx20, lx40, lx60, lx90, lx99, lx100, lx200, lx900, lx999, lx9999, jo_32 hW, jo_33 hW, jo_35 hW, jo_40 hW, jo_41 hW, jo_56 hW, jo_97 hW, jo_100 hW, jo_104 hW, jo_106 hW, jo_108 hW, ja_34 hW, ja_36 hW, ja_37 hW, ja_38 hW, ja_39 hW, ja_42 hW, ja_43 hW, ja_44 hW, ja_45 hW, ja_46 hW, ja_98 hW, ja_99 hW, ja_101 hW, ja_102 hW, ja_103 hW, wr_32_0 hW, wr_32_1 hW, wr_32_2 hW, wr_32_3 hW, wr_32_4 hW, wr_32_5 hW, wr_32_6 hW, wr_32_7 hW, wr_32_8 hW, wr_33_0 hW, wr_35_0 hW, wr_35_1 hW, wr_35_2 hW, wr_35_3 hW, wr_35_4 hW, wr_40_0 hW, wr_40_1 hW, wr_40_2 hW, wr_40_3 hW, wr_40_4 hW, wr_41_0 hW, wr_56_0 hW, wr_56_1 hW, wr_97_0 hW, wr_97_1 hW, wr_100_0 hW, wr_100_1 hW, wr_100_2 hW, wr_104_0 hW, wr_106_0 hW, nk, e1, e3, e5, h1, h2]
      · rw [cnt_t (by simp [h1, h2])]
        simp (disch := omega) only [jb_some, jli, jif, jd_q, jd_K0, jpi_s, jpi_l, jpi_p, jpl_s, jpl_i, jpl_p, if_true, if_false, if_pos, if_neg, not_true_eq_false, not_false_eq_true, ite_true, ite_false, Nat.not_lt_zero, eq_self, Nat.le_refl, Nat.lt_irrefl, Bool.false_eq_true, or0, jo_pi, jo_pl, jia_pi, jia_pl, jo_cpy, jia_cpy, cpy_r, m_X11_grant, m_X11_refuse, m_X13_good, m_X13_refused, reduceCtorEq, nI_add, nI_leI, nI_ltI, nI_eq, pk_mul, abs_nI, max_nI, min_nI, nI_m1, nI_m2, nI_le1, m1_lt, m2_lt, and_nI, or_nI, an_nI, has_nI, bit_nI, bc_nI, bits_nI, lx0, lx1, lx2, lx3, lx4, lx5, lx6, lx7, lx8, lx9, lx10, lx11, lx16, lx20, lx40, lx60, lx90, lx99, lx100, lx200, lx900, lx999, lx9999, jo_32 hW, jo_33 hW, jo_35 hW, jo_40 hW, jo_41 hW, jo_56 hW, jo_97 hW, jo_100 hW, jo_104 hW, jo_106 hW, jo_108 hW, ja_34 hW, ja_36 hW, ja_37 hW, ja_38 hW, ja_39 hW, ja_42 hW, ja_43 hW, ja_44 hW, ja_45 hW, ja_46 hW, ja_98 hW, ja_99 hW, ja_101 hW, ja_102 hW, ja_103 hW, wr_32_0 hW, wr_32_1 hW, wr_32_2 hW, wr_32_3 hW, wr_32_4 hW, wr_32_5 hW, wr_32_6 hW, wr_32_7 hW, wr_32_8 hW, wr_33_0 hW, wr_35_0 hW, wr_35_1 hW, wr_35_2 hW, wr_35_3 hW, wr_35_4 hW, wr_40_0 hW, wr_40_1 hW, wr_40_2 hW, wr_40_3 hW, wr_40_4 hW, wr_41_0 hW, wr_56_0 hW, wr_56_1 hW, wr_97_0 hW, wr_97_1 hW, wr_100_0 hW, wr_100_1 hW, wr_100_2 hW, wr_104_0 hW, wr_106_0 hW, nk, e1, e3, e5, h1, h2]
  · rintro st σ' ⟨rfl, hF, hsd⟩
    refine ⟨_, σ', ?_, rfl, hF⟩
    simp (disch := omega) only [jb_some, jli, jif, jd_q, jd_K0, jpi_s, jpi_l, jpi_p, jpl_s, jpl_i, jpl_p, if_true, if_false, if_pos, if_neg, not_true_eq_false, not_false_eq_true, ite_true, ite_false, Nat.not_lt_zero, eq_self, Nat.le_refl, Nat.lt_irrefl, Bool.false_eq_true, or0, jo_pi, jo_pl, jia_pi, jia_pl, jo_cpy, jia_cpy, cpy_r, m_X11_grant, m_X11_refuse, m_X13_good, m_X13_refused, reduceCtorEq, nI_add, nI_leI, nI_ltI, nI_eq, pk_mul, abs_nI, max_nI, min_nI, nI_m1, nI_m2, nI_le1, m1_lt, m2_lt, and_nI, or_nI, an_nI, has_nI, bit_nI, bc_nI, bits_nI, lx0, lx1, lx2, lx3, lx4, lx5, lx6, lx7, lx8, lx9, lx10, lx11, lx16, lx20, lx40, lx60, lx90, lx99, lx100, lx200, lx900, lx999, lx9999]
set_option maxHeartbeats 2000000 in
theorem x_mostAtOnce (h : CX B N T σ) (hb : bOk B) {s n : Nat} (hs : s < 65537) (hn : n ≤ 90) : ∃ σ', m_X1_mostAtOnce 106 (some 40) (nI s) (nI n) σ = some (nI (wor B N s n), σ') ∧ Fr DQ LQ σ σ' := by
  have hbb := hb
  have b2 := hb.2.1
  unfold m_X1_mostAtOnce
  have F0 : Fr DQ LQ σ (jd_pi σ 106 1 (nI s)) := Fr_pi (Fr_refl σ) (Or.inr (Or.inr (Or.inr rfl)))
  have one := jlp_inv (body := fun (s2 : Int32 × Int32) σ2 =>
jd_if (nI n ≤ s2.2) (
some ((Sum.inr s2.1), σ2)) (
jd_o σ2 (1, 2) (some 106) fun a4 =>
jd_b (m_X1_drawAfternoon a4 (some 40) σ2) fun r5 σ5 =>
jd_b (m_J6_bitCount_0f7a4 r5 σ5) fun r6 σ6 =>
jd_li (jd_max s2.1 r6) fun x7 =>
some (Sum.inl (x7, (s2.2 + 1)), σ6))) n (fun k st σ' => st = (nI (wor B N s k), nI k) ∧ Fr DQ LQ σ σ' ∧ σ'.2.1 106 1 = nI (sds B N s k)) (fun t σ' => t = nI (wor B N s n) ∧ Fr DQ LQ σ σ') ?_ ?_ jd_fu (jfu (by omega)) (0, 0) (jd_pi σ 106 1 (nI s)) ⟨rfl, F0, pi_eq _ _ _ _⟩
  · obtain ⟨_, σ', e1, rfl, F⟩ := one
    rw [jli, e1, jb_some]
    exact ⟨σ', rfl, F⟩
  · rintro k st σ' hk ⟨rfl, hF, hsd⟩
    have hW := (CX_fr h hF).1.1
    obtain ⟨σ5, e1, F5, e2⟩ := x_drawAfternoon (CX_fr h hF) hbb (sds_lt hs k) hsd
    have e4 := bN_64 (hit B N (sds B N s k)) b2
    have e5 := pc_bN (hit B N (sds B N s k)) b2
    have nk : ¬ n ≤ k := by omega
    have w1 := wor_le (B := B) (N := N) (s := s) k
    have w2 := cnt_le (hit B N (sds B N s k)) (B 8 3)
    refine ⟨(nI (wor B N s (k + 1)), nI (k + 1)), σ5, ?_, rfl, Fr_tr hF F5, e2⟩
    rw [show wor B N s (k + 1) = max (wor B N s k) (cnt (hit B N (sds B N s k)) (B 8 3)) from rfl]
    simp (disch := omega) only [jb_some, jli, jif, jd_q, jd_K0, jpi_s, jpi_l, jpi_p, jpl_s, jpl_i, jpl_p, if_true, if_false, if_pos, if_neg, not_true_eq_false, not_false_eq_true, ite_true, ite_false, Nat.not_lt_zero, eq_self, Nat.le_refl, Nat.lt_irrefl, Bool.false_eq_true, or0, jo_pi, jo_pl, jia_pi, jia_pl, jo_cpy, jia_cpy, cpy_r, m_X11_grant, m_X11_refuse, m_X13_good, m_X13_refused, reduceCtorEq, nI_add, nI_leI, nI_ltI, nI_eq, pk_mul, abs_nI, max_nI, min_nI, nI_m1, nI_m2, nI_le1, m1_lt, m2_lt, and_nI, or_nI, an_nI, has_nI, bit_nI, bc_nI, bits_nI, lx0, lx1, lx2, lx3, lx4, lx5, lx6, lx7, lx8, lx9, lx10, lx11, lx16, lx20, lx40, lx60, lx90, lx99, lx100, lx200, lx900, lx999, lx9999, jo_32 hW, jo_33 hW, jo_35 hW, jo_40 hW, jo_41 hW, jo_56 hW, jo_97 hW, jo_100 hW, jo_104 hW, jo_106 hW, jo_108 hW, ja_34 hW, ja_36 hW, ja_37 hW, ja_38 hW, ja_39 hW, ja_42 hW, ja_43 hW, ja_44 hW, ja_45 hW, ja_46 hW, ja_98 hW, ja_99 hW, ja_101 hW, ja_102 hW, ja_103 hW, wr_32_0 hW, wr_32_1 hW, wr_32_2 hW, wr_32_3 hW, wr_32_4 hW, wr_32_5 hW, wr_32_6 hW, wr_32_7 hW, wr_32_8 hW, wr_33_0 hW, wr_35_0 hW, wr_35_1 hW, wr_35_2 hW, wr_35_3 hW, wr_35_4 hW, wr_40_0 hW, wr_40_1 hW, wr_40_2 hW, wr_40_3 hW, wr_40_4 hW, wr_41_0 hW, wr_56_0 hW, wr_56_1 hW, wr_97_0 hW, wr_97_1 hW, wr_100_0 hW, wr_100_1 hW, wr_100_2 hW, wr_104_0 hW, wr_106_0 hW, nk, e1, e5]
  · rintro st σ' ⟨rfl, hF, hsd⟩
    refine ⟨_, σ', ?_, rfl, hF⟩
    simp (disch := omega) only [jb_some, jli, jif, jd_q, jd_K0, jpi_s, jpi_l, jpi_p, jpl_s, jpl_i, jpl_p, if_true, if_false, if_pos, if_neg, not_true_eq_false, not_false_eq_true, ite_true, ite_false, Nat.not_lt_zero, eq_self, Nat.le_refl, Nat.lt_irrefl, Bool.false_eq_true, or0, jo_pi, jo_pl, jia_pi, jia_pl, jo_cpy, jia_cpy, cpy_r, m_X11_grant, m_X11_refuse, m_X13_good, m_X13_refused, reduceCtorEq, nI_add, nI_leI, nI_ltI, nI_eq, pk_mul, abs_nI, max_nI, min_nI, nI_m1, nI_m2, nI_le1, m1_lt, m2_lt, and_nI, or_nI, an_nI, has_nI, bit_nI, bc_nI, bits_nI, lx0, lx1, lx2, lx3, lx4, lx5, lx6, lx7, lx8, lx9, lx10, lx11, lx16, lx20, lx40, lx60, lx90, lx99, lx100, lx200, lx900, lx999, lx9999]
end
def a_afternoons (o : BO) (p s n : Int32) : Int32 × Nat := match o with
  | none => (- nI 1, 1)
  | some (B, N) => match ixN p (B 8 3) with
    | none => (- nI 1, 1)
    | some j => match rgN s 0 65536 with
      | none => (- nI 1, 2)
      | some i => match rgN n 0 90 with
        | none => (- nI 1, 2)
        | some k => (nI (lc B N i j k), 0)
def a_worst (o : BO) (s n : Int32) : Int32 × Nat := match o with
  | none => (- nI 1, 1)
  | some (B, N) => match rgN s 0 65536 with
    | none => (- nI 1, 2)
    | some i => match rgN n 0 90 with
      | none => (- nI 1, 2)
      | some k => (nI (wor B N i k), 0)
theorem x_isDraws (s n : Int32) (σ : jd_Hp) : m_X11_isDraws s n σ = some (if (rgN s 0 65536).isSome && (rgN n 0 90).isSome then nI 1 else nI 0, σ) := by
  unfold m_X11_isDraws
  rcases hi : rgN s 0 65536 with _ | i
  · rcases rgN_none hi with h1 | ⟨h1, h2⟩
    · simp (disch := omega) only [jb_some, jli, jif, jd_q, jd_K0, jpi_s, jpi_l, jpi_p, jpl_s, jpl_i, jpl_p, if_true, if_false, if_pos, if_neg, not_true_eq_false, not_false_eq_true, ite_true, ite_false, Nat.not_lt_zero, eq_self, Nat.le_refl, Nat.lt_irrefl, Bool.false_eq_true, or0, jo_pi, jo_pl, jia_pi, jia_pl, jo_cpy, jia_cpy, cpy_r, m_X11_grant, m_X11_refuse, m_X13_good, m_X13_refused, reduceCtorEq, nI_add, nI_leI, nI_ltI, nI_eq, pk_mul, abs_nI, max_nI, min_nI, nI_m1, nI_m2, nI_le1, m1_lt, m2_lt, and_nI, or_nI, an_nI, has_nI, bit_nI, bc_nI, bits_nI, lx0, lx1, lx2, lx3, lx4, lx5, lx6, lx7, lx8, lx9, lx10, lx11, lx16, lx20, lx40, lx60, lx90, lx99, lx100, lx200, lx900, lx999, lx9999, h1, lx65536, Option.isSome, Bool.false_and]
    · simp (disch := omega) only [jb_some, jli, jif, jd_q, jd_K0, jpi_s, jpi_l, jpi_p, jpl_s, jpl_i, jpl_p, if_true, if_false, if_pos, if_neg, not_true_eq_false, not_false_eq_true, ite_true, ite_false, Nat.not_lt_zero, eq_self, Nat.le_refl, Nat.lt_irrefl, Bool.false_eq_true, or0, jo_pi, jo_pl, jia_pi, jia_pl, jo_cpy, jia_cpy, cpy_r, m_X11_grant, m_X11_refuse, m_X13_good, m_X13_refused, reduceCtorEq, nI_add, nI_leI, nI_ltI, nI_eq, pk_mul, abs_nI, max_nI, min_nI, nI_m1, nI_m2, nI_le1, m1_lt, m2_lt, and_nI, or_nI, an_nI, has_nI, bit_nI, bc_nI, bits_nI, lx0, lx1, lx2, lx3, lx4, lx5, lx6, lx7, lx8, lx9, lx10, lx11, lx16, lx20, lx40, lx60, lx90, lx99, lx100, lx200, lx900, lx999, lx9999, h1, h2, lx65536, Option.isSome, Bool.false_and]
  · obtain ⟨rfl, h1, h2⟩ := rgN_some (by decide) hi (by decide)
    have h3 : ¬ 65536 < i := by omega
    rcases hj : rgN n 0 90 with _ | j
    · rcases rgN_none hj with h1 | ⟨h1, h2⟩
      · simp (disch := omega) only [jb_some, jli, jif, jd_q, jd_K0, jpi_s, jpi_l, jpi_p, jpl_s, jpl_i, jpl_p, if_true, if_false, if_pos, if_neg, not_true_eq_false, not_false_eq_true, ite_true, ite_false, Nat.not_lt_zero, eq_self, Nat.le_refl, Nat.lt_irrefl, Bool.false_eq_true, or0, jo_pi, jo_pl, jia_pi, jia_pl, jo_cpy, jia_cpy, cpy_r, m_X11_grant, m_X11_refuse, m_X13_good, m_X13_refused, reduceCtorEq, nI_add, nI_leI, nI_ltI, nI_eq, pk_mul, abs_nI, max_nI, min_nI, nI_m1, nI_m2, nI_le1, m1_lt, m2_lt, and_nI, or_nI, an_nI, has_nI, bit_nI, bc_nI, bits_nI, lx0, lx1, lx2, lx3, lx4, lx5, lx6, lx7, lx8, lx9, lx10, lx11, lx16, lx20, lx40, lx60, lx90, lx99, lx100, lx200, lx900, lx999, lx9999, h1, h3, lx65536, Option.isSome, Bool.and_false]
      · simp (disch := omega) only [jb_some, jli, jif, jd_q, jd_K0, jpi_s, jpi_l, jpi_p, jpl_s, jpl_i, jpl_p, if_true, if_false, if_pos, if_neg, not_true_eq_false, not_false_eq_true, ite_true, ite_false, Nat.not_lt_zero, eq_self, Nat.le_refl, Nat.lt_irrefl, Bool.false_eq_true, or0, jo_pi, jo_pl, jia_pi, jia_pl, jo_cpy, jia_cpy, cpy_r, m_X11_grant, m_X11_refuse, m_X13_good, m_X13_refused, reduceCtorEq, nI_add, nI_leI, nI_ltI, nI_eq, pk_mul, abs_nI, max_nI, min_nI, nI_m1, nI_m2, nI_le1, m1_lt, m2_lt, and_nI, or_nI, an_nI, has_nI, bit_nI, bc_nI, bits_nI, lx0, lx1, lx2, lx3, lx4, lx5, lx6, lx7, lx8, lx9, lx10, lx11, lx16, lx20, lx40, lx60, lx90, lx99, lx100, lx200, lx900, lx999, lx9999, h1, h2, h3, lx65536, Option.isSome, Bool.and_false]
    · obtain ⟨rfl, h1, h2⟩ := rgN_some (by decide) hj (by decide)
      have h4 : ¬ 90 < j := by omega
      simp (disch := omega) only [jb_some, jli, jif, jd_q, jd_K0, jpi_s, jpi_l, jpi_p, jpl_s, jpl_i, jpl_p, if_true, if_false, if_pos, if_neg, not_true_eq_false, not_false_eq_true, ite_true, ite_false, Nat.not_lt_zero, eq_self, Nat.le_refl, Nat.lt_irrefl, Bool.false_eq_true, or0, jo_pi, jo_pl, jia_pi, jia_pl, jo_cpy, jia_cpy, cpy_r, m_X11_grant, m_X11_refuse, m_X13_good, m_X13_refused, reduceCtorEq, nI_add, nI_leI, nI_ltI, nI_eq, pk_mul, abs_nI, max_nI, min_nI, nI_m1, nI_m2, nI_le1, m1_lt, m2_lt, and_nI, or_nI, an_nI, has_nI, bit_nI, bc_nI, bits_nI, lx0, lx1, lx2, lx3, lx4, lx5, lx6, lx7, lx8, lx9, lx10, lx11, lx16, lx20, lx40, lx60, lx90, lx99, lx100, lx200, lx900, lx999, lx9999, h3, h4, lx65536, Option.isSome, Bool.and_self]
set_option maxHeartbeats 2000000 in
theorem X_afternoons {o : BO} {T : Nat} {σ : jd_Hp} (h : RXc o T σ) (p : Int32) (s : Int32) (n : Int32) : OX (m_X11_afternoons 32 p s n σ) (a_afternoons o p s n) σ := by
  obtain ⟨hW, h⟩ := h
  unfold m_X11_afternoons
  rcases o with _ | ⟨B, N⟩
  · have h10 : σ.2.1 32 10 = nI 0 := h
    simp (disch := omega) only [jb_some, jli, jif, jd_q, jd_K0, jpi_s, jpi_l, jpi_p, jpl_s, jpl_i, jpl_p, if_true, if_false, if_pos, if_neg, not_true_eq_false, not_false_eq_true, ite_true, ite_false, Nat.not_lt_zero, eq_self, Nat.le_refl, Nat.lt_irrefl, Bool.false_eq_true, or0, jo_pi, jo_pl, jia_pi, jia_pl, jo_cpy, jia_cpy, cpy_r, m_X11_grant, m_X11_refuse, m_X13_good, m_X13_refused, reduceCtorEq, nI_add, nI_leI, nI_ltI, nI_eq, pk_mul, abs_nI, max_nI, min_nI, nI_m1, nI_m2, nI_le1, m1_lt, m2_lt, and_nI, or_nI, an_nI, has_nI, bit_nI, bc_nI, bits_nI, lx0, lx1, lx2, lx3, lx4, lx5, lx6, lx7, lx8, lx9, lx10, lx11, lx16, lx20, lx40, lx60, lx90, lx99, lx100, lx200, lx900, lx999, lx9999, jo_32 hW, jo_33 hW, jo_35 hW, jo_40 hW, jo_41 hW, jo_56 hW, jo_97 hW, jo_100 hW, jo_104 hW, jo_106 hW, jo_108 hW, ja_34 hW, ja_36 hW, ja_37 hW, ja_38 hW, ja_39 hW, ja_42 hW, ja_43 hW, ja_44 hW, ja_45 hW, ja_46 hW, ja_98 hW, ja_99 hW, ja_101 hW, ja_102 hW, ja_103 hW, wr_32_0 hW, wr_32_1 hW, wr_32_2 hW, wr_32_3 hW, wr_32_4 hW, wr_32_5 hW, wr_32_6 hW, wr_32_7 hW, wr_32_8 hW, wr_33_0 hW, wr_35_0 hW, wr_35_1 hW, wr_35_2 hW, wr_35_3 hW, wr_35_4 hW, wr_40_0 hW, wr_40_1 hW, wr_40_2 hW, wr_40_3 hW, wr_40_4 hW, wr_41_0 hW, wr_56_0 hW, wr_56_1 hW, wr_97_0 hW, wr_97_1 hW, wr_100_0 hW, wr_100_1 hW, wr_100_2 hW, wr_104_0 hW, wr_106_0 hW, h10, m_X11_isPerson, m_X11_isPost]
    exact OX_of (Fr_refl _)
  · obtain ⟨h10, hX, hb, hn, hG⟩ : σ.2.1 32 10 = nI 1 ∧ CX B N T σ ∧ bOk B ∧ nOk B N ∧ SG B σ := h
    have hb2 := hb.2.1
    have hb3 := hb.2.2.1
    have ePe := x_isPerson hX h10 hb
    have ePo := x_isPost hX h10 hb
    show OX _ (a_afternoons (some (B, N)) p s n) σ
    unfold a_afternoons
    have eD := x_isDraws s n
    rcases hj : ixN p (B 8 3) with _ | j
    · simp (disch := omega) only [jb_some, jli, jif, jd_q, jd_K0, jpi_s, jpi_l, jpi_p, jpl_s, jpl_i, jpl_p, if_true, if_false, if_pos, if_neg, not_true_eq_false, not_false_eq_true, ite_true, ite_false, Nat.not_lt_zero, eq_self, Nat.le_refl, Nat.lt_irrefl, Bool.false_eq_true, or0, jo_pi, jo_pl, jia_pi, jia_pl, jo_cpy, jia_cpy, cpy_r, m_X11_grant, m_X11_refuse, m_X13_good, m_X13_refused, reduceCtorEq, nI_add, nI_leI, nI_ltI, nI_eq, pk_mul, abs_nI, max_nI, min_nI, nI_m1, nI_m2, nI_le1, m1_lt, m2_lt, and_nI, or_nI, an_nI, has_nI, bit_nI, bc_nI, bits_nI, lx0, lx1, lx2, lx3, lx4, lx5, lx6, lx7, lx8, lx9, lx10, lx11, lx16, lx20, lx40, lx60, lx90, lx99, lx100, lx200, lx900, lx999, lx9999, jo_32 hW, jo_33 hW, jo_35 hW, jo_40 hW, jo_41 hW, jo_56 hW, jo_97 hW, jo_100 hW, jo_104 hW, jo_106 hW, jo_108 hW, ja_34 hW, ja_36 hW, ja_37 hW, ja_38 hW, ja_39 hW, ja_42 hW, ja_43 hW, ja_44 hW, ja_45 hW, ja_46 hW, ja_98 hW, ja_99 hW, ja_101 hW, ja_102 hW, ja_103 hW, wr_32_0 hW, wr_32_1 hW, wr_32_2 hW, wr_32_3 hW, wr_32_4 hW, wr_32_5 hW, wr_32_6 hW, wr_32_7 hW, wr_32_8 hW, wr_33_0 hW, wr_35_0 hW, wr_35_1 hW, wr_35_2 hW, wr_35_3 hW, wr_35_4 hW, wr_40_0 hW, wr_40_1 hW, wr_40_2 hW, wr_40_3 hW, wr_40_4 hW, wr_41_0 hW, wr_56_0 hW, wr_56_1 hW, wr_97_0 hW, wr_97_1 hW, wr_100_0 hW, wr_100_1 hW, wr_100_2 hW, wr_104_0 hW, wr_106_0 hW, h10, ePe, hj, Option.isSome]
      exact OX_of (Fr_refl _)
    · obtain ⟨h2, rfl⟩ := ixN_some hj
      rcases hi : rgN s 0 65536 with _ | i
      · simp (disch := omega) only [jb_some, jli, jif, jd_q, jd_K0, jpi_s, jpi_l, jpi_p, jpl_s, jpl_i, jpl_p, if_true, if_false, if_pos, if_neg, not_true_eq_false, not_false_eq_true, ite_true, ite_false, Nat.not_lt_zero, eq_self, Nat.le_refl, Nat.lt_irrefl, Bool.false_eq_true, or0, jo_pi, jo_pl, jia_pi, jia_pl, jo_cpy, jia_cpy, cpy_r, m_X11_grant, m_X11_refuse, m_X13_good, m_X13_refused, reduceCtorEq, nI_add, nI_leI, nI_ltI, nI_eq, pk_mul, abs_nI, max_nI, min_nI, nI_m1, nI_m2, nI_le1, m1_lt, m2_lt, and_nI, or_nI, an_nI, has_nI, bit_nI, bc_nI, bits_nI, lx0, lx1, lx2, lx3, lx4, lx5, lx6, lx7, lx8, lx9, lx10, lx11, lx16, lx20, lx40, lx60, lx90, lx99, lx100, lx200, lx900, lx999, lx9999, jo_32 hW, jo_33 hW, jo_35 hW, jo_40 hW, jo_41 hW, jo_56 hW, jo_97 hW, jo_100 hW, jo_104 hW, jo_106 hW, jo_108 hW, ja_34 hW, ja_36 hW, ja_37 hW, ja_38 hW, ja_39 hW, ja_42 hW, ja_43 hW, ja_44 hW, ja_45 hW, ja_46 hW, ja_98 hW, ja_99 hW, ja_101 hW, ja_102 hW, ja_103 hW, wr_32_0 hW, wr_32_1 hW, wr_32_2 hW, wr_32_3 hW, wr_32_4 hW, wr_32_5 hW, wr_32_6 hW, wr_32_7 hW, wr_32_8 hW, wr_33_0 hW, wr_35_0 hW, wr_35_1 hW, wr_35_2 hW, wr_35_3 hW, wr_35_4 hW, wr_40_0 hW, wr_40_1 hW, wr_40_2 hW, wr_40_3 hW, wr_40_4 hW, wr_41_0 hW, wr_56_0 hW, wr_56_1 hW, wr_97_0 hW, wr_97_1 hW, wr_100_0 hW, wr_100_1 hW, wr_100_2 hW, wr_104_0 hW, wr_106_0 hW, h10, ePe, hj, eD, hi, Option.isSome, Bool.false_and]
        exact OX_of (Fr_refl _)
      · rcases hk : rgN n 0 90 with _ | k
        · simp (disch := omega) only [jb_some, jli, jif, jd_q, jd_K0, jpi_s, jpi_l, jpi_p, jpl_s, jpl_i, jpl_p, if_true, if_false, if_pos, if_neg, not_true_eq_false, not_false_eq_true, ite_true, ite_false, Nat.not_lt_zero, eq_self, Nat.le_refl, Nat.lt_irrefl, Bool.false_eq_true, or0, jo_pi, jo_pl, jia_pi, jia_pl, jo_cpy, jia_cpy, cpy_r, m_X11_grant, m_X11_refuse, m_X13_good, m_X13_refused, reduceCtorEq, nI_add, nI_leI, nI_ltI, nI_eq, pk_mul, abs_nI, max_nI, min_nI, nI_m1, nI_m2, nI_le1, m1_lt, m2_lt, and_nI, or_nI, an_nI, has_nI, bit_nI, bc_nI, bits_nI, lx0, lx1, lx2, lx3, lx4, lx5, lx6, lx7, lx8, lx9, lx10, lx11, lx16, lx20, lx40, lx60, lx90, lx99, lx100, lx200, lx900, lx999, lx9999, jo_32 hW, jo_33 hW, jo_35 hW, jo_40 hW, jo_41 hW, jo_56 hW, jo_97 hW, jo_100 hW, jo_104 hW, jo_106 hW, jo_108 hW, ja_34 hW, ja_36 hW, ja_37 hW, ja_38 hW, ja_39 hW, ja_42 hW, ja_43 hW, ja_44 hW, ja_45 hW, ja_46 hW, ja_98 hW, ja_99 hW, ja_101 hW, ja_102 hW, ja_103 hW, wr_32_0 hW, wr_32_1 hW, wr_32_2 hW, wr_32_3 hW, wr_32_4 hW, wr_32_5 hW, wr_32_6 hW, wr_32_7 hW, wr_32_8 hW, wr_33_0 hW, wr_35_0 hW, wr_35_1 hW, wr_35_2 hW, wr_35_3 hW, wr_35_4 hW, wr_40_0 hW, wr_40_1 hW, wr_40_2 hW, wr_40_3 hW, wr_40_4 hW, wr_41_0 hW, wr_56_0 hW, wr_56_1 hW, wr_97_0 hW, wr_97_1 hW, wr_100_0 hW, wr_100_1 hW, wr_100_2 hW, wr_104_0 hW, wr_106_0 hW, h10, ePe, hj, eD, hi, hk, Option.isSome, Bool.and_false]
          exact OX_of (Fr_refl _)
        · obtain ⟨rfl, h3, h4⟩ := rgN_some (by decide) hi (by decide)
          obtain ⟨rfl, h5, h6⟩ := rgN_some (by decide) hk (by decide)
          obtain ⟨σ', e1, F⟩ := x_timesLost hX hb (s := i) (by omega) h2 h6
          simp (disch := omega) only [jb_some, jli, jif, jd_q, jd_K0, jpi_s, jpi_l, jpi_p, jpl_s, jpl_i, jpl_p, if_true, if_false, if_pos, if_neg, not_true_eq_false, not_false_eq_true, ite_true, ite_false, Nat.not_lt_zero, eq_self, Nat.le_refl, Nat.lt_irrefl, Bool.false_eq_true, or0, jo_pi, jo_pl, jia_pi, jia_pl, jo_cpy, jia_cpy, cpy_r, m_X11_grant, m_X11_refuse, m_X13_good, m_X13_refused, reduceCtorEq, nI_add, nI_leI, nI_ltI, nI_eq, pk_mul, abs_nI, max_nI, min_nI, nI_m1, nI_m2, nI_le1, m1_lt, m2_lt, and_nI, or_nI, an_nI, has_nI, bit_nI, bc_nI, bits_nI, lx0, lx1, lx2, lx3, lx4, lx5, lx6, lx7, lx8, lx9, lx10, lx11, lx16, lx20, lx40, lx60, lx90, lx99, lx100, lx200, lx900, lx999, lx9999, jo_32 hW, jo_33 hW, jo_35 hW, jo_40 hW, jo_41 hW, jo_56 hW, jo_97 hW, jo_100 hW, jo_104 hW, jo_106 hW, jo_108 hW, ja_34 hW, ja_36 hW, ja_37 hW, ja_38 hW, ja_39 hW, ja_42 hW, ja_43 hW, ja_44 hW, ja_45 hW, ja_46 hW, ja_98 hW, ja_99 hW, ja_101 hW, ja_102 hW, ja_103 hW, wr_32_0 hW, wr_32_1 hW, wr_32_2 hW, wr_32_3 hW, wr_32_4 hW, wr_32_5 hW, wr_32_6 hW, wr_32_7 hW, wr_32_8 hW, wr_33_0 hW, wr_35_0 hW, wr_35_1 hW, wr_35_2 hW, wr_35_3 hW, wr_35_4 hW, wr_40_0 hW, wr_40_1 hW, wr_40_2 hW, wr_40_3 hW, wr_40_4 hW, wr_41_0 hW, wr_56_0 hW, wr_56_1 hW, wr_97_0 hW, wr_97_1 hW, wr_100_0 hW, wr_100_1 hW, wr_100_2 hW, wr_104_0 hW, wr_106_0 hW, h10, ePe, hj, eD, hi, hk, Option.isSome, Bool.and_self, e1]
          exact OX_of F
set_option maxHeartbeats 2000000 in
theorem X_worst {o : BO} {T : Nat} {σ : jd_Hp} (h : RXc o T σ) (s : Int32) (n : Int32) : OX (m_X11_worst 32 s n σ) (a_worst o s n) σ := by
  obtain ⟨hW, h⟩ := h
  unfold m_X11_worst
  rcases o with _ | ⟨B, N⟩
  · have h10 : σ.2.1 32 10 = nI 0 := h
    simp (disch := omega) only [jb_some, jli, jif, jd_q, jd_K0, jpi_s, jpi_l, jpi_p, jpl_s, jpl_i, jpl_p, if_true, if_false, if_pos, if_neg, not_true_eq_false, not_false_eq_true, ite_true, ite_false, Nat.not_lt_zero, eq_self, Nat.le_refl, Nat.lt_irrefl, Bool.false_eq_true, or0, jo_pi, jo_pl, jia_pi, jia_pl, jo_cpy, jia_cpy, cpy_r, m_X11_grant, m_X11_refuse, m_X13_good, m_X13_refused, reduceCtorEq, nI_add, nI_leI, nI_ltI, nI_eq, pk_mul, abs_nI, max_nI, min_nI, nI_m1, nI_m2, nI_le1, m1_lt, m2_lt, and_nI, or_nI, an_nI, has_nI, bit_nI, bc_nI, bits_nI, lx0, lx1, lx2, lx3, lx4, lx5, lx6, lx7, lx8, lx9, lx10, lx11, lx16, lx20, lx40, lx60, lx90, lx99, lx100, lx200, lx900, lx999, lx9999, jo_32 hW, jo_33 hW, jo_35 hW, jo_40 hW, jo_41 hW, jo_56 hW, jo_97 hW, jo_100 hW, jo_104 hW, jo_106 hW, jo_108 hW, ja_34 hW, ja_36 hW, ja_37 hW, ja_38 hW, ja_39 hW, ja_42 hW, ja_43 hW, ja_44 hW, ja_45 hW, ja_46 hW, ja_98 hW, ja_99 hW, ja_101 hW, ja_102 hW, ja_103 hW, wr_32_0 hW, wr_32_1 hW, wr_32_2 hW, wr_32_3 hW, wr_32_4 hW, wr_32_5 hW, wr_32_6 hW, wr_32_7 hW, wr_32_8 hW, wr_33_0 hW, wr_35_0 hW, wr_35_1 hW, wr_35_2 hW, wr_35_3 hW, wr_35_4 hW, wr_40_0 hW, wr_40_1 hW, wr_40_2 hW, wr_40_3 hW, wr_40_4 hW, wr_41_0 hW, wr_56_0 hW, wr_56_1 hW, wr_97_0 hW, wr_97_1 hW, wr_100_0 hW, wr_100_1 hW, wr_100_2 hW, wr_104_0 hW, wr_106_0 hW, h10, m_X11_isPerson, m_X11_isPost]
    exact OX_of (Fr_refl _)
  · obtain ⟨h10, hX, hb, hn, hG⟩ : σ.2.1 32 10 = nI 1 ∧ CX B N T σ ∧ bOk B ∧ nOk B N ∧ SG B σ := h
    have hb2 := hb.2.1
    have hb3 := hb.2.2.1
    have ePe := x_isPerson hX h10 hb
    have ePo := x_isPost hX h10 hb
    show OX _ (a_worst (some (B, N)) s n) σ
    unfold a_worst
    have eD := x_isDraws s n
    rcases hi : rgN s 0 65536 with _ | i
    · simp (disch := omega) only [jb_some, jli, jif, jd_q, jd_K0, jpi_s, jpi_l, jpi_p, jpl_s, jpl_i, jpl_p, if_true, if_false, if_pos, if_neg, not_true_eq_false, not_false_eq_true, ite_true, ite_false, Nat.not_lt_zero, eq_self, Nat.le_refl, Nat.lt_irrefl, Bool.false_eq_true, or0, jo_pi, jo_pl, jia_pi, jia_pl, jo_cpy, jia_cpy, cpy_r, m_X11_grant, m_X11_refuse, m_X13_good, m_X13_refused, reduceCtorEq, nI_add, nI_leI, nI_ltI, nI_eq, pk_mul, abs_nI, max_nI, min_nI, nI_m1, nI_m2, nI_le1, m1_lt, m2_lt, and_nI, or_nI, an_nI, has_nI, bit_nI, bc_nI, bits_nI, lx0, lx1, lx2, lx3, lx4, lx5, lx6, lx7, lx8, lx9, lx10, lx11, lx16, lx20, lx40, lx60, lx90, lx99, lx100, lx200, lx900, lx999, lx9999, jo_32 hW, jo_33 hW, jo_35 hW, jo_40 hW, jo_41 hW, jo_56 hW, jo_97 hW, jo_100 hW, jo_104 hW, jo_106 hW, jo_108 hW, ja_34 hW, ja_36 hW, ja_37 hW, ja_38 hW, ja_39 hW, ja_42 hW, ja_43 hW, ja_44 hW, ja_45 hW, ja_46 hW, ja_98 hW, ja_99 hW, ja_101 hW, ja_102 hW, ja_103 hW, wr_32_0 hW, wr_32_1 hW, wr_32_2 hW, wr_32_3 hW, wr_32_4 hW, wr_32_5 hW, wr_32_6 hW, wr_32_7 hW, wr_32_8 hW, wr_33_0 hW, wr_35_0 hW, wr_35_1 hW, wr_35_2 hW, wr_35_3 hW, wr_35_4 hW, wr_40_0 hW, wr_40_1 hW, wr_40_2 hW, wr_40_3 hW, wr_40_4 hW, wr_41_0 hW, wr_56_0 hW, wr_56_1 hW, wr_97_0 hW, wr_97_1 hW, wr_100_0 hW, wr_100_1 hW, wr_100_2 hW, wr_104_0 hW, wr_106_0 hW, h10, eD, hi, Option.isSome, Bool.false_and]
      exact OX_of (Fr_refl _)
    · rcases hk : rgN n 0 90 with _ | k
      · simp (disch := omega) only [jb_some, jli, jif, jd_q, jd_K0, jpi_s, jpi_l, jpi_p, jpl_s, jpl_i, jpl_p, if_true, if_false, if_pos, if_neg, not_true_eq_false, not_false_eq_true, ite_true, ite_false, Nat.not_lt_zero, eq_self, Nat.le_refl, Nat.lt_irrefl, Bool.false_eq_true, or0, jo_pi, jo_pl, jia_pi, jia_pl, jo_cpy, jia_cpy, cpy_r, m_X11_grant, m_X11_refuse, m_X13_good, m_X13_refused, reduceCtorEq, nI_add, nI_leI, nI_ltI, nI_eq, pk_mul, abs_nI, max_nI, min_nI, nI_m1, nI_m2, nI_le1, m1_lt, m2_lt, and_nI, or_nI, an_nI, has_nI, bit_nI, bc_nI, bits_nI, lx0, lx1, lx2, lx3, lx4, lx5, lx6, lx7, lx8, lx9, lx10, lx11, lx16, lx20, lx40, lx60, lx90, lx99, lx100, lx200, lx900, lx999, lx9999, jo_32 hW, jo_33 hW, jo_35 hW, jo_40 hW, jo_41 hW, jo_56 hW, jo_97 hW, jo_100 hW, jo_104 hW, jo_106 hW, jo_108 hW, ja_34 hW, ja_36 hW, ja_37 hW, ja_38 hW, ja_39 hW, ja_42 hW, ja_43 hW, ja_44 hW, ja_45 hW, ja_46 hW, ja_98 hW, ja_99 hW, ja_101 hW, ja_102 hW, ja_103 hW, wr_32_0 hW, wr_32_1 hW, wr_32_2 hW, wr_32_3 hW, wr_32_4 hW, wr_32_5 hW, wr_32_6 hW, wr_32_7 hW, wr_32_8 hW, wr_33_0 hW, wr_35_0 hW, wr_35_1 hW, wr_35_2 hW, wr_35_3 hW, wr_35_4 hW, wr_40_0 hW, wr_40_1 hW, wr_40_2 hW, wr_40_3 hW, wr_40_4 hW, wr_41_0 hW, wr_56_0 hW, wr_56_1 hW, wr_97_0 hW, wr_97_1 hW, wr_100_0 hW, wr_100_1 hW, wr_100_2 hW, wr_104_0 hW, wr_106_0 hW, h10, eD, hi, hk, Option.isSome, Bool.and_false]
        exact OX_of (Fr_refl _)
      · obtain ⟨rfl, h3, h4⟩ := rgN_some (by decide) hi (by decide)
        obtain ⟨rfl, h5, h6⟩ := rgN_some (by decide) hk (by decide)
        obtain ⟨σ', e1, F⟩ := x_mostAtOnce hX hb (s := i) (by omega) h6
        simp (disch := omega) only [jb_some, jli, jif, jd_q, jd_K0, jpi_s, jpi_l, jpi_p, jpl_s, jpl_i, jpl_p, if_true, if_false, if_pos, if_neg, not_true_eq_false, not_false_eq_true, ite_true, ite_false, Nat.not_lt_zero, eq_self, Nat.le_refl, Nat.lt_irrefl, Bool.false_eq_true, or0, jo_pi, jo_pl, jia_pi, jia_pl, jo_cpy, jia_cpy, cpy_r, m_X11_grant, m_X11_refuse, m_X13_good, m_X13_refused, reduceCtorEq, nI_add, nI_leI, nI_ltI, nI_eq, pk_mul, abs_nI, max_nI, min_nI, nI_m1, nI_m2, nI_le1, m1_lt, m2_lt, and_nI, or_nI, an_nI, has_nI, bit_nI, bc_nI, bits_nI, lx0, lx1, lx2, lx3, lx4, lx5, lx6, lx7, lx8, lx9, lx10, lx11, lx16, lx20, lx40, lx60, lx90, lx99, lx100, lx200, lx900, lx999, lx9999, jo_32 hW, jo_33 hW, jo_35 hW, jo_40 hW, jo_41 hW, jo_56 hW, jo_97 hW, jo_100 hW, jo_104 hW, jo_106 hW, jo_108 hW, ja_34 hW, ja_36 hW, ja_37 hW, ja_38 hW, ja_39 hW, ja_42 hW, ja_43 hW, ja_44 hW, ja_45 hW, ja_46 hW, ja_98 hW, ja_99 hW, ja_101 hW, ja_102 hW, ja_103 hW, wr_32_0 hW, wr_32_1 hW, wr_32_2 hW, wr_32_3 hW, wr_32_4 hW, wr_32_5 hW, wr_32_6 hW, wr_32_7 hW, wr_32_8 hW, wr_33_0 hW, wr_35_0 hW, wr_35_1 hW, wr_35_2 hW, wr_35_3 hW, wr_35_4 hW, wr_40_0 hW, wr_40_1 hW, wr_40_2 hW, wr_40_3 hW, wr_40_4 hW, wr_41_0 hW, wr_56_0 hW, wr_56_1 hW, wr_97_0 hW, wr_97_1 hW, wr_100_0 hW, wr_100_1 hW, wr_100_2 hW, wr_104_0 hW, wr_106_0 hW, h10, eD, hi, hk, Option.isSome, Bool.and_self, e1]
        exact OX_of F
