/-! P (12): company, teach, hears, guard and wife -/
theorem fin_pcs : ∀ n, n < 6 → ∀ x, x < 2 ^ n → pc (x + 2 ^ n) = pc x + 1 := by decide +kernel
theorem pc_bN (c : Nat → Bool) : ∀ {n : Nat}, n ≤ 6 → pc (bN c n) = cnt c n
  | 0, _ => (by decide : pc 0 = 0)
  | n + 1, h => by
    have ih := pc_bN c (n := n) (by omega)
    rcases hc : c n with _ | _
    · rw [bN_f hc, cnt_f hc, ih]
    · rw [bN_t hc, cnt_t hc, fin_pcs n (by omega) _ (bN_lt c n), ih]
def upN (N : Nw) (p a : Nat) : Nw := fun k => if k = p then a else N k
def argL (f : Nat → Nat) : Nat → Nat × Nat
  | 0 => (0, 7)
  | n + 1 => if (argL f n).2 ≤ f n then argL f n else (n, f n)
theorem argL_le {f : Nat → Nat} : ∀ n, (argL f n).2 ≤ 7
  | 0 => Nat.le_refl 7
  | n + 1 => by
    have := argL_le (f := f) n
    show (if (argL f n).2 ≤ f n then argL f n else (n, f n)).2 ≤ 7
    split
    · exact this
    · show f n ≤ 7
      omega
theorem argL_t {f : Nat → Nat} {n : Nat} (h : (argL f n).2 ≤ f n) : argL f (n + 1) = argL f n := if_pos h
theorem argL_f {f : Nat → Nat} {n : Nat} (h : ¬ (argL f n).2 ≤ f n) : argL f (n + 1) = (n, f n) := if_neg h
def comF (B : Bch) (N : Nw) (p a : Nat) : Nat := cnt (skC B (upN N p a)) (B 8 3)
theorem up_ok {B : Bch} {N : Nw} (hn : nOk B N) {p a : Nat} (hp : p < 6) (ha : a ≤ 99) : nOk B (upN N p a) := by
  refine ⟨fun q hq => ?_, ?_, ?_, ?_⟩
  · show (if q = p then a else N q) ≤ 99
    split
    · exact ha
    · exact hn.1 q hq
  · show (if 6 = p then a else N 6) < _
    rw [if_neg (by omega)]
    exact hn.2.1
  · show (if 7 = p then a else N 7) < _
    rw [if_neg (by omega)]
    exact hn.2.2.1
  · show (if 8 = p then a else N 8) ≤ _
    rw [if_neg (by omega)]
    exact hn.2.2.2
section
variable {B : Bch} {N : Nw} {T : Nat} {σ σ' : jd_Hp}
theorem CX_fr (h : CX B N T σ) (f : Fr DQ LQ σ σ') : CX B N T σ' := by
  have g : ∀ a k, ¬ DQ a k → σ'.2.1 a k = σ.2.1 a k := f.2.2.1
  obtain ⟨⟨hW, hT, hS, hC, hN⟩, c1, c2, c3, c4, c5⟩ := h
  refine ⟨⟨Fr_Wd f hW, hT, by rw [f.2.1]; exact hS, CT_of hC fun a k h1 h2 => g a k ?_, CN_of hN fun a k h1 => g a k ?_⟩, fun p hp => ?_, fun p hp => ?_, fun p hp => ?_, ?_, ?_⟩
  · unfold DQ
    omega
  · unfold DQ
    omega
  · rw [g 43 p (by unfold DQ; omega)]
    exact c1 p hp
  · rw [g 44 p (by unfold DQ; omega)]
    exact c2 p hp
  · rw [g 45 p (by unfold DQ; omega)]
    exact c3 p hp
  · rw [g 40 6 (by unfold DQ; omega)]
    exact c4
  · rw [g 40 7 (by unfold DQ; omega)]
    exact c5
set_option maxHeartbeats 2000000 in
theorem x_sinkersOnTrial (h : CX B N T σ) (hb : bOk B) {Q : Nw} (hq : nOk B Q) (h7 : Q 7 = N 7) (ht : ∀ q, q < B 8 3 → σ.2.1 46 q = nI (Q q)) : m_X6_sinkersOnTrial 40 σ = some (nI (cnt (skC B Q) (B 8 3)), σ) := by
  have hh := h
  have hbb := hb
  have n7 := nOk7 hb hq
  obtain ⟨⟨hW, hT, hS, hC, hN⟩, hD⟩ := h
  obtain ⟨b1, b2, b3, b4, b5, b6, b7, b8, b9, b10, bp⟩ := hb
  unfold m_X6_sinkersOnTrial
  rw [jlp_p (B 8 3) (fun i => ((nI (cnt (skC B Q) i), nI i) : Int32 × Int32)) (nI (cnt (skC B Q) (B 8 3))) (jfu (by omega)) ?_ ?_ ?_]
  · rfl
  · rfl
  · intro i hi
    have e1 := x_nearIn hh.1 hbb (wd hW 46 rfl) ht hq.1 hi
    have e0 := near_64 hbb Q i
    have e01 := pc_le (nearN B Q i)
    have e2 := x_sinkMinute hh.1 hbb hi e01
    rcases hl : (Q 7).testBit i with _ | _
    · have hs : sink B Q i = sinkM B i (pc (nearN B Q i)) := by
        unfold sink
        rw [hl]
        rfl
      rw [← hs] at e2
      have hl' := hl
      rw [h7] at hl'
      rcases hk : sink B Q i with _ | t
      · rw [hk] at e2
        rw [cnt_f (by simp [skC, hk])]
        simp (disch := omega) only [jb_some, jli, jif, jd_q, jd_K0, jpi_s, jpi_l, jpi_p, jpl_s, jpl_i, jpl_p, if_true, if_false, if_pos, if_neg, not_true_eq_false, not_false_eq_true, ite_true, ite_false, Nat.not_lt_zero, eq_self, Nat.le_refl, Nat.lt_irrefl, Bool.false_eq_true, or0, jo_pi, jo_pl, jia_pi, jia_pl, jo_cpy, jia_cpy, cpy_r, m_X11_grant, m_X11_refuse, m_X13_good, m_X13_refused, reduceCtorEq, nI_add, nI_leI, nI_ltI, nI_eq, pk_mul, abs_nI, max_nI, min_nI, nI_m1, nI_m2, nI_le1, m1_lt, m2_lt, and_nI, or_nI, an_nI, has_nI, bit_nI, bc_nI, bits_nI, lx0, lx1, lx2, lx3, lx4, lx5, lx6, lx7, lx8, lx9, lx10, lx11, lx16, lx20, lx40, lx60, lx90, lx99, lx100, lx200, lx900, lx999, lx9999, jo_32 hW, jo_33 hW, jo_35 hW, jo_40 hW, jo_41 hW, jo_56 hW, jo_97 hW, jo_100 hW, jo_104 hW, jo_106 hW, jo_108 hW, ja_34 hW, ja_36 hW, ja_37 hW, ja_38 hW, ja_39 hW, ja_42 hW, ja_43 hW, ja_44 hW, ja_45 hW, ja_46 hW, ja_98 hW, ja_99 hW, ja_101 hW, ja_102 hW, ja_103 hW, wr_32_0 hW, wr_32_1 hW, wr_32_2 hW, wr_32_3 hW, wr_32_4 hW, wr_32_5 hW, wr_32_6 hW, wr_32_7 hW, wr_32_8 hW, wr_33_0 hW, wr_35_0 hW, wr_35_1 hW, wr_35_2 hW, wr_35_3 hW, wr_35_4 hW, wr_40_0 hW, wr_40_1 hW, wr_40_2 hW, wr_40_3 hW, wr_40_4 hW, wr_41_0 hW, wr_56_0 hW, wr_56_1 hW, wr_97_0 hW, wr_97_1 hW, wr_100_0 hW, wr_100_1 hW, wr_100_2 hW, wr_104_0 hW, wr_106_0 hW, joT hW hT, jaT1 hW hT, jaT2 hW hT, jaT3 hW hT, jaT4 hW hT, jaT5 hW hT, jaT6 hW hT, jaT7 hW hT, jaT8 hW hT, wrT0 hW hT, wrT1 hW hT, wrT2 hW hT, wrT3 hW hT, wrT4 hW hT, wrT5 hW hT, wrT6 hW hT, wrT7 hW hT, hS, ct_a0 hC, ct_a1 hC, ct_a2 hC, ct_a3 hC, ct_a4 hC, ct_a5 hC, ct_a6 hC, ct_a7 hC, ct_s0 hC, ct_s1 hC, ct_s2 hC, ct_s3 hC, ct_s4 hC, ct_s5 hC, ct_s6 hC, ct_s7 hC, cn_p hN, cn_m hN, cn_l hN, cn_t hN, hl', e1, e2, cs, Option.elim]
      · have e3 := sink_le hbb hk
        rw [hk] at e2
        rw [cnt_t (by simp [skC, hk])]
        simp (disch := omega) only [jb_some, jli, jif, jd_q, jd_K0, jpi_s, jpi_l, jpi_p, jpl_s, jpl_i, jpl_p, if_true, if_false, if_pos, if_neg, not_true_eq_false, not_false_eq_true, ite_true, ite_false, Nat.not_lt_zero, eq_self, Nat.le_refl, Nat.lt_irrefl, Bool.false_eq_true, or0, jo_pi, jo_pl, jia_pi, jia_pl, jo_cpy, jia_cpy, cpy_r, m_X11_grant, m_X11_refuse, m_X13_good, m_X13_refused, reduceCtorEq, nI_add, nI_leI, nI_ltI, nI_eq, pk_mul, abs_nI, max_nI, min_nI, nI_m1, nI_m2, nI_le1, m1_lt, m2_lt, and_nI, or_nI, an_nI, has_nI, bit_nI, bc_nI, bits_nI, lx0, lx1, lx2, lx3, lx4, lx5, lx6, lx7, lx8, lx9, lx10, lx11, lx16, lx20, lx40, lx60, lx90, lx99, lx100, lx200, lx900, lx999, lx9999, jo_32 hW, jo_33 hW, jo_35 hW, jo_40 hW, jo_41 hW, jo_56 hW, jo_97 hW, jo_100 hW, jo_104 hW, jo_106 hW, jo_108 hW, ja_34 hW, ja_36 hW, ja_37 hW, ja_38 hW, ja_39 hW, ja_42 hW, ja_43 hW, ja_44 hW, ja_45 hW, ja_46 hW, ja_98 hW, ja_99 hW, ja_101 hW, ja_102 hW, ja_103 hW, wr_32_0 hW, wr_32_1 hW, wr_32_2 hW, wr_32_3 hW, wr_32_4 hW, wr_32_5 hW, wr_32_6 hW, wr_32_7 hW, wr_32_8 hW, wr_33_0 hW, wr_35_0 hW, wr_35_1 hW, wr_35_2 hW, wr_35_3 hW, wr_35_4 hW, wr_40_0 hW, wr_40_1 hW, wr_40_2 hW, wr_40_3 hW, wr_40_4 hW, wr_41_0 hW, wr_56_0 hW, wr_56_1 hW, wr_97_0 hW, wr_97_1 hW, wr_100_0 hW, wr_100_1 hW, wr_100_2 hW, wr_104_0 hW, wr_106_0 hW, joT hW hT, jaT1 hW hT, jaT2 hW hT, jaT3 hW hT, jaT4 hW hT, jaT5 hW hT, jaT6 hW hT, jaT7 hW hT, jaT8 hW hT, wrT0 hW hT, wrT1 hW hT, wrT2 hW hT, wrT3 hW hT, wrT4 hW hT, wrT5 hW hT, wrT6 hW hT, wrT7 hW hT, hS, ct_a0 hC, ct_a1 hC, ct_a2 hC, ct_a3 hC, ct_a4 hC, ct_a5 hC, ct_a6 hC, ct_a7 hC, ct_s0 hC, ct_s1 hC, ct_s2 hC, ct_s3 hC, ct_s4 hC, ct_s5 hC, ct_s6 hC, ct_s7 hC, cn_p hN, cn_m hN, cn_l hN, cn_t hN, hl', e1, e2, cs, Option.elim]
    · have hk : sink B Q i = none := by
        unfold sink
        rw [hl]
        rfl
      have hl' := hl
      rw [h7] at hl'
      rw [cnt_f (by simp [skC, hk])]
      simp (disch := omega) only [jb_some, jli, jif, jd_q, jd_K0, jpi_s, jpi_l, jpi_p, jpl_s, jpl_i, jpl_p, if_true, if_false, if_pos, if_neg, not_true_eq_false, not_false_eq_true, ite_true, ite_false, Nat.not_lt_zero, eq_self, Nat.le_refl, Nat.lt_irrefl, Bool.false_eq_true, or0, jo_pi, jo_pl, jia_pi, jia_pl, jo_cpy, jia_cpy, cpy_r, m_X11_grant, m_X11_refuse, m_X13_good, m_X13_refused, reduceCtorEq, nI_add, nI_leI, nI_ltI, nI_eq, pk_mul, abs_nI, max_nI, min_nI, nI_m1, nI_m2, nI_le1, m1_lt, m2_lt, and_nI, or_nI, an_nI, has_nI, bit_nI, bc_nI, bits_nI, lx0, lx1, lx2, lx3, lx4, lx5, lx6, lx7, lx8, lx9, lx10, lx11, lx16, lx20, lx40, lx60, lx90, lx99, lx100, lx200, lx900, lx999, lx9999, jo_32 hW, jo_33 hW, jo_35 hW, jo_40 hW, jo_41 hW, jo_56 hW, jo_97 hW, jo_100 hW, jo_104 hW, jo_106 hW, jo_108 hW, ja_34 hW, ja_36 hW, ja_37 hW, ja_38 hW, ja_39 hW, ja_42 hW, ja_43 hW, ja_44 hW, ja_45 hW, ja_46 hW, ja_98 hW, ja_99 hW, ja_101 hW, ja_102 hW, ja_103 hW, wr_32_0 hW, wr_32_1 hW, wr_32_2 hW, wr_32_3 hW, wr_32_4 hW, wr_32_5 hW, wr_32_6 hW, wr_32_7 hW, wr_32_8 hW, wr_33_0 hW, wr_35_0 hW, wr_35_1 hW, wr_35_2 hW, wr_35_3 hW, wr_35_4 hW, wr_40_0 hW, wr_40_1 hW, wr_40_2 hW, wr_40_3 hW, wr_40_4 hW, wr_41_0 hW, wr_56_0 hW, wr_56_1 hW, wr_97_0 hW, wr_97_1 hW, wr_100_0 hW, wr_100_1 hW, wr_100_2 hW, wr_104_0 hW, wr_106_0 hW, joT hW hT, jaT1 hW hT, jaT2 hW hT, jaT3 hW hT, jaT4 hW hT, jaT5 hW hT, jaT6 hW hT, jaT7 hW hT, jaT8 hW hT, wrT0 hW hT, wrT1 hW hT, wrT2 hW hT, wrT3 hW hT, wrT4 hW hT, wrT5 hW hT, wrT6 hW hT, wrT7 hW hT, hS, ct_a0 hC, ct_a1 hC, ct_a2 hC, ct_a3 hC, ct_a4 hC, ct_a5 hC, ct_a6 hC, ct_a7 hC, ct_s0 hC, ct_s1 hC, ct_s2 hC, ct_s3 hC, ct_s4 hC, ct_s5 hC, ct_s6 hC, ct_s7 hC, cn_p hN, cn_m hN, cn_l hN, cn_t hN, hl']
  · simp (disch := omega) only [jb_some, jli, jif, jd_q, jd_K0, jpi_s, jpi_l, jpi_p, jpl_s, jpl_i, jpl_p, if_true, if_false, if_pos, if_neg, not_true_eq_false, not_false_eq_true, ite_true, ite_false, Nat.not_lt_zero, eq_self, Nat.le_refl, Nat.lt_irrefl, Bool.false_eq_true, or0, jo_pi, jo_pl, jia_pi, jia_pl, jo_cpy, jia_cpy, cpy_r, m_X11_grant, m_X11_refuse, m_X13_good, m_X13_refused, reduceCtorEq, nI_add, nI_leI, nI_ltI, nI_eq, pk_mul, abs_nI, max_nI, min_nI, nI_m1, nI_m2, nI_le1, m1_lt, m2_lt, and_nI, or_nI, an_nI, has_nI, bit_nI, bc_nI, bits_nI, lx0, lx1, lx2, lx3, lx4, lx5, lx6, lx7, lx8, lx9, lx10, lx11, lx16, lx20, lx40, lx60, lx90, lx99, lx100, lx200, lx900, lx999, lx9999, jo_32 hW, jo_33 hW, jo_35 hW, jo_40 hW, jo_41 hW, jo_56 hW, jo_97 hW, jo_100 hW, jo_104 hW, jo_106 hW, jo_108 hW, ja_34 hW, ja_36 hW, ja_37 hW, ja_38 hW, ja_39 hW, ja_42 hW, ja_43 hW, ja_44 hW, ja_45 hW, ja_46 hW, ja_98 hW, ja_99 hW, ja_101 hW, ja_102 hW, ja_103 hW, wr_32_0 hW, wr_32_1 hW, wr_32_2 hW, wr_32_3 hW, wr_32_4 hW, wr_32_5 hW, wr_32_6 hW, wr_32_7 hW, wr_32_8 hW, wr_33_0 hW, wr_35_0 hW, wr_35_1 hW, wr_35_2 hW, wr_35_3 hW, wr_35_4 hW, wr_40_0 hW, wr_40_1 hW, wr_40_2 hW, wr_40_3 hW, wr_40_4 hW, wr_41_0 hW, wr_56_0 hW, wr_56_1 hW, wr_97_0 hW, wr_97_1 hW, wr_100_0 hW, wr_100_1 hW, wr_100_2 hW, wr_104_0 hW, wr_106_0 hW, joT hW hT, jaT1 hW hT, jaT2 hW hT, jaT3 hW hT, jaT4 hW hT, jaT5 hW hT, jaT6 hW hT, jaT7 hW hT, jaT8 hW hT, wrT0 hW hT, wrT1 hW hT, wrT2 hW hT, wrT3 hW hT, wrT4 hW hT, wrT5 hW hT, wrT6 hW hT, wrT7 hW hT, hS, ct_a0 hC, ct_a1 hC, ct_a2 hC, ct_a3 hC, ct_a4 hC, ct_a5 hC, ct_a6 hC, ct_a7 hC, ct_s0 hC, ct_s1 hC, ct_s2 hC, ct_s3 hC, ct_s4 hC, ct_s5 hC, ct_s6 hC, ct_s7 hC, cn_p hN, cn_m hN, cn_l hN, cn_t hN]
set_option maxHeartbeats 2000000 in
theorem x_placeOfFewestSinkers (h : CX B N T σ) (hb : bOk B) (hn : nOk B N) {p : Nat} (hp : p < B 8 3) : ∃ σ', m_X6_placeOfFewestSinkers 40 (nI p) σ = some (nI (argL (comF B N p) nP).1, σ') ∧ Fr DQ LQ σ σ' := by
  have hh := h
  have hbb := hb
  obtain ⟨⟨hW, hT, hS, hC, hN⟩, hD⟩ := h
  obtain ⟨b1, b2, b3, b4, b5, b6, b7, b8, b9, b10, bp⟩ := hb
  have hM := nP_eq
  generalize nP = M at *
  have hM2 : 99 < M := by omega
  unfold m_X6_placeOfFewestSinkers
  rw [jlp_h (B 8 3) (fun i => nI i) (fun i => cpy σ 46 (σ.2.1 42) i) () (cpy σ 46 (σ.2.1 42) (B 8 3)) (jfu (by omega)) ?_ ?_ ?_ ?_]
  · rw [jb_some]
    have F0 : Fr DQ LQ σ (cpy σ 46 (σ.2.1 42) (B 8 3)) := ⟨rfl, rfl, fun a k h => by
      rw [cpy_i, if_neg]
      intro h1
      exact h (Or.inr (Or.inl h1.1)), fun _ _ _ => rfl⟩
    have c0 : ∀ q, q < B 8 3 → (cpy σ 46 (σ.2.1 42) (B 8 3)).2.1 46 q = nI (N q) := fun q hq => by
      rw [cpy_i, if_pos ⟨rfl, hq⟩]
      exact hN.1 q hq
    generalize cpy σ 46 (σ.2.1 42) (B 8 3) = σ2 at *
    have two := jlp_inv (body := fun (s9 : Int32 × Int32 × Int32) σ9 =>
jd_if (99 < s9.2.2) (
some ((Sum.inr s9.1), σ9)) (
jd_o σ9 (6, 8) (some 40) fun a11 =>
jd_ia σ9 20 (σ9.2.2.2 a11 4) (nI p) fun a12 j12 =>
jd_li (jd_pi σ9 a12 j12 s9.2.2) fun τ13 =>
jd_b (m_X6_sinkersOnTrial a11 τ13) fun r14 σ14 =>
jd_if (s9.2.1 ≤ r14) (
some (Sum.inl (s9.1, s9.2.1, (s9.2.2 + 1)), σ14)) (
some (Sum.inl (s9.2.2, r14, (s9.2.2 + 1)), σ14)))) M (fun i s σ' => s = (nI (argL (comF B N p) i).1, nI (argL (comF B N p) i).2, nI i) ∧ Fr DQ LQ σ σ' ∧ ∀ q, q < B 8 3 → q ≠ p → σ'.2.1 46 q = nI (N q))
      (fun t σ' => t = nI (argL (comF B N p) M).1 ∧ Fr DQ LQ σ σ') ?_ ?_ jd_fu (jfu (by omega)) (0, 7, 0) σ2 ⟨rfl, F0, fun q hq _ => c0 q hq⟩
    · obtain ⟨t, σ3, h3, rfl, hF⟩ := two
      rw [h3, jb_some]
      exact ⟨σ3, rfl, hF⟩
    · rintro i s σ' hi ⟨rfl, hF, hc⟩
      have F9 : Fr DQ LQ σ (jd_pi σ' 46 p (nI i)) := Fr_pi hF (Or.inr (Or.inl rfl))
      have hX9 := CX_fr hh F9
      have e1 := x_sinkersOnTrial hX9 hbb (Q := upN N p i) (up_ok hn (by omega) (by omega)) (by
        show (if 7 = p then i else N 7) = N 7
        rw [if_neg (by omega)]) (fun q hq => by
        show _ = nI (if q = p then i else N q)
        by_cases hqp : q = p
        · rw [hqp, pi_eq, if_pos rfl]
        · rw [pi_ne _ _ (by omega), if_neg hqp]
          exact hc q hq hqp)
      have e2 : cnt (skC B (upN N p i)) (B 8 3) = comF B N p i := rfl
      have e3 : comF B N p i ≤ 6 := by
        have := cnt_le (skC B (upN N p i)) (B 8 3)
        omega
      have e4 := argL_le (f := comF B N p) i
      have hc9 : ∀ q, q < B 8 3 → q ≠ p → (jd_pi σ' 46 p (nI i)).2.1 46 q = nI (N q) := fun q hq hqp => by
        rw [pi_ne _ _ (by omega)]
        exact hc q hq hqp
      have h9 : ¬ 99 < i := by omega
      obtain ⟨⟨hW, hT, hS, hC, hN⟩, hD⟩ := CX_fr hh hF
      by_cases hk : (argL (comF B N p) i).2 ≤ comF B N p i
      · refine ⟨_, jd_pi σ' 46 p (nI i), ?_, rfl, F9, hc9⟩
        rw [argL_t hk]
        simp (disch := omega) only [jb_some, jli, jif, jd_q, jd_K0, jpi_s, jpi_l, jpi_p, jpl_s, jpl_i, jpl_p, if_true, if_false, if_pos, if_neg, not_true_eq_false, not_false_eq_true, ite_true, ite_false, Nat.not_lt_zero, eq_self, Nat.le_refl, Nat.lt_irrefl, Bool.false_eq_true, or0, jo_pi, jo_pl, jia_pi, jia_pl, jo_cpy, jia_cpy, cpy_r, m_X11_grant, m_X11_refuse, m_X13_good, m_X13_refused, reduceCtorEq, nI_add, nI_leI, nI_ltI, nI_eq, pk_mul, abs_nI, max_nI, min_nI, nI_m1, nI_m2, nI_le1, m1_lt, m2_lt, and_nI, or_nI, an_nI, has_nI, bit_nI, bc_nI, bits_nI, lx0, lx1, lx2, lx3, lx4, lx5, lx6, lx7, lx8, lx9, lx10, lx11, lx16, lx20, lx40, lx60, lx90, lx99, lx100, lx200, lx900, lx999, lx9999, jo_32 hW, jo_33 hW, jo_35 hW, jo_40 hW, jo_41 hW, jo_56 hW, jo_97 hW, jo_100 hW, jo_104 hW, jo_106 hW, jo_108 hW, ja_34 hW, ja_36 hW, ja_37 hW, ja_38 hW, ja_39 hW, ja_42 hW, ja_43 hW, ja_44 hW, ja_45 hW, ja_46 hW, ja_98 hW, ja_99 hW, ja_101 hW, ja_102 hW, ja_103 hW, wr_32_0 hW, wr_32_1 hW, wr_32_2 hW, wr_32_3 hW, wr_32_4 hW, wr_32_5 hW, wr_32_6 hW, wr_32_7 hW, wr_32_8 hW, wr_33_0 hW, wr_35_0 hW, wr_35_1 hW, wr_35_2 hW, wr_35_3 hW, wr_35_4 hW, wr_40_0 hW, wr_40_1 hW, wr_40_2 hW, wr_40_3 hW, wr_40_4 hW, wr_41_0 hW, wr_56_0 hW, wr_56_1 hW, wr_97_0 hW, wr_97_1 hW, wr_100_0 hW, wr_100_1 hW, wr_100_2 hW, wr_104_0 hW, wr_106_0 hW, joT hW hT, jaT1 hW hT, jaT2 hW hT, jaT3 hW hT, jaT4 hW hT, jaT5 hW hT, jaT6 hW hT, jaT7 hW hT, jaT8 hW hT, wrT0 hW hT, wrT1 hW hT, wrT2 hW hT, wrT3 hW hT, wrT4 hW hT, wrT5 hW hT, wrT6 hW hT, wrT7 hW hT, hS, ct_a0 hC, ct_a1 hC, ct_a2 hC, ct_a3 hC, ct_a4 hC, ct_a5 hC, ct_a6 hC, ct_a7 hC, ct_s0 hC, ct_s1 hC, ct_s2 hC, ct_s3 hC, ct_s4 hC, ct_s5 hC, ct_s6 hC, ct_s7 hC, cn_p hN, cn_m hN, cn_l hN, cn_t hN, h9, e1, e2, hk]
      · refine ⟨_, jd_pi σ' 46 p (nI i), ?_, rfl, F9, hc9⟩
        rw [argL_f hk]
        simp (disch := omega) only [jb_some, jli, jif, jd_q, jd_K0, jpi_s, jpi_l, jpi_p, jpl_s, jpl_i, jpl_p, if_true, if_false, if_pos, if_neg, not_true_eq_false, not_false_eq_true, ite_true, ite_false, Nat.not_lt_zero, eq_self, Nat.le_refl, Nat.lt_irrefl, Bool.false_eq_true, or0, jo_pi, jo_pl, jia_pi, jia_pl, jo_cpy, jia_cpy, cpy_r, m_X11_grant, m_X11_refuse, m_X13_good, m_X13_refused, reduceCtorEq, nI_add, nI_leI, nI_ltI, nI_eq, pk_mul, abs_nI, max_nI, min_nI, nI_m1, nI_m2, nI_le1, m1_lt, m2_lt, and_nI, or_nI, an_nI, has_nI, bit_nI, bc_nI, bits_nI, lx0, lx1, lx2, lx3, lx4, lx5, lx6, lx7, lx8, lx9, lx10, lx11, lx16, lx20, lx40, lx60, lx90, lx99, lx100, lx200, lx900, lx999, lx9999, jo_32 hW, jo_33 hW, jo_35 hW, jo_40 hW, jo_41 hW, jo_56 hW, jo_97 hW, jo_100 hW, jo_104 hW, jo_106 hW, jo_108 hW, ja_34 hW, ja_36 hW, ja_37 hW, ja_38 hW, ja_39 hW, ja_42 hW, ja_43 hW, ja_44 hW, ja_45 hW, ja_46 hW, ja_98 hW, ja_99 hW, ja_101 hW, ja_102 hW, ja_103 hW, wr_32_0 hW, wr_32_1 hW, wr_32_2 hW, wr_32_3 hW, wr_32_4 hW, wr_32_5 hW, wr_32_6 hW, wr_32_7 hW, wr_32_8 hW, wr_33_0 hW, wr_35_0 hW, wr_35_1 hW, wr_35_2 hW, wr_35_3 hW, wr_35_4 hW, wr_40_0 hW, wr_40_1 hW, wr_40_2 hW, wr_40_3 hW, wr_40_4 hW, wr_41_0 hW, wr_56_0 hW, wr_56_1 hW, wr_97_0 hW, wr_97_1 hW, wr_100_0 hW, wr_100_1 hW, wr_100_2 hW, wr_104_0 hW, wr_106_0 hW, joT hW hT, jaT1 hW hT, jaT2 hW hT, jaT3 hW hT, jaT4 hW hT, jaT5 hW hT, jaT6 hW hT, jaT7 hW hT, jaT8 hW hT, wrT0 hW hT, wrT1 hW hT, wrT2 hW hT, wrT3 hW hT, wrT4 hW hT, wrT5 hW hT, wrT6 hW hT, wrT7 hW hT, hS, ct_a0 hC, ct_a1 hC, ct_a2 hC, ct_a3 hC, ct_a4 hC, ct_a5 hC, ct_a6 hC, ct_a7 hC, ct_s0 hC, ct_s1 hC, ct_s2 hC, ct_s3 hC, ct_s4 hC, ct_s5 hC, ct_s6 hC, ct_s7 hC, cn_p hN, cn_m hN, cn_l hN, cn_t hN, h9, e1, e2, hk]
    · rintro s σ' ⟨rfl, hF, hc⟩
      refine ⟨_, σ', ?_, rfl, hF⟩
      simp (disch := omega) only [jb_some, jli, jif, jd_q, jd_K0, jpi_s, jpi_l, jpi_p, jpl_s, jpl_i, jpl_p, if_true, if_false, if_pos, if_neg, not_true_eq_false, not_false_eq_true, ite_true, ite_false, Nat.not_lt_zero, eq_self, Nat.le_refl, Nat.lt_irrefl, Bool.false_eq_true, or0, jo_pi, jo_pl, jia_pi, jia_pl, jo_cpy, jia_cpy, cpy_r, m_X11_grant, m_X11_refuse, m_X13_good, m_X13_refused, reduceCtorEq, nI_add, nI_leI, nI_ltI, nI_eq, pk_mul, abs_nI, max_nI, min_nI, nI_m1, nI_m2, nI_le1, m1_lt, m2_lt, and_nI, or_nI, an_nI, has_nI, bit_nI, bc_nI, bits_nI, lx0, lx1, lx2, lx3, lx4, lx5, lx6, lx7, lx8, lx9, lx10, lx11, lx16, lx20, lx40, lx60, lx90, lx99, lx100, lx200, lx900, lx999, lx9999, hM2]
  · rfl
  · exact (cpy_0 _ _ _).symm
  · intro i hi
    have e1 : (cpy σ 46 (σ.2.1 42) i).2.1 42 i = σ.2.1 42 i := by rw [cpy_i, if_neg (by omega)]
    have e2 : (cpy σ 46 (σ.2.1 42) i).2.1 T 11 = nI (B 8 3) := by
      rw [cpy_i, if_neg (by omega)]
      exact ct_s3 hC
    simp (disch := omega) only [jb_some, jli, jif, jd_q, jd_K0, jpi_s, jpi_l, jpi_p, jpl_s, jpl_i, jpl_p, if_true, if_false, if_pos, if_neg, not_true_eq_false, not_false_eq_true, ite_true, ite_false, Nat.not_lt_zero, eq_self, Nat.le_refl, Nat.lt_irrefl, Bool.false_eq_true, or0, jo_pi, jo_pl, jia_pi, jia_pl, jo_cpy, jia_cpy, cpy_r, m_X11_grant, m_X11_refuse, m_X13_good, m_X13_refused, reduceCtorEq, nI_add, nI_leI, nI_ltI, nI_eq, pk_mul, abs_nI, max_nI, min_nI, nI_m1, nI_m2, nI_le1, m1_lt, m2_lt, and_nI, or_nI, an_nI, has_nI, bit_nI, bc_nI, bits_nI, lx0, lx1, lx2, lx3, lx4, lx5, lx6, lx7, lx8, lx9, lx10, lx11, lx16, lx20, lx40, lx60, lx90, lx99, lx100, lx200, lx900, lx999, lx9999, jo_32 hW, jo_33 hW, jo_35 hW, jo_40 hW, jo_41 hW, jo_56 hW, jo_97 hW, jo_100 hW, jo_104 hW, jo_106 hW, jo_108 hW, ja_34 hW, ja_36 hW, ja_37 hW, ja_38 hW, ja_39 hW, ja_42 hW, ja_43 hW, ja_44 hW, ja_45 hW, ja_46 hW, ja_98 hW, ja_99 hW, ja_101 hW, ja_102 hW, ja_103 hW, wr_32_0 hW, wr_32_1 hW, wr_32_2 hW, wr_32_3 hW, wr_32_4 hW, wr_32_5 hW, wr_32_6 hW, wr_32_7 hW, wr_32_8 hW, wr_33_0 hW, wr_35_0 hW, wr_35_1 hW, wr_35_2 hW, wr_35_3 hW, wr_35_4 hW, wr_40_0 hW, wr_40_1 hW, wr_40_2 hW, wr_40_3 hW, wr_40_4 hW, wr_41_0 hW, wr_56_0 hW, wr_56_1 hW, wr_97_0 hW, wr_97_1 hW, wr_100_0 hW, wr_100_1 hW, wr_100_2 hW, wr_104_0 hW, wr_106_0 hW, joT hW hT, jaT1 hW hT, jaT2 hW hT, jaT3 hW hT, jaT4 hW hT, jaT5 hW hT, jaT6 hW hT, jaT7 hW hT, jaT8 hW hT, wrT0 hW hT, wrT1 hW hT, wrT2 hW hT, wrT3 hW hT, wrT4 hW hT, wrT5 hW hT, wrT6 hW hT, wrT7 hW hT, hS, ct_a0 hC, ct_a1 hC, ct_a2 hC, ct_a3 hC, ct_a4 hC, ct_a5 hC, ct_a6 hC, ct_a7 hC, ct_s0 hC, ct_s1 hC, ct_s2 hC, ct_s3 hC, ct_s4 hC, ct_s5 hC, ct_s6 hC, ct_s7 hC, cn_p hN, cn_m hN, cn_l hN, cn_t hN, e1, e2]
    rw [← cpy_s, cn_p hN hi]
  · have e2 : (cpy σ 46 (σ.2.1 42) (B 8 3)).2.1 T 11 = nI (B 8 3) := by
      rw [cpy_i, if_neg (by omega)]
      exact ct_s3 hC
    simp (disch := omega) only [jb_some, jli, jif, jd_q, jd_K0, jpi_s, jpi_l, jpi_p, jpl_s, jpl_i, jpl_p, if_true, if_false, if_pos, if_neg, not_true_eq_false, not_false_eq_true, ite_true, ite_false, Nat.not_lt_zero, eq_self, Nat.le_refl, Nat.lt_irrefl, Bool.false_eq_true, or0, jo_pi, jo_pl, jia_pi, jia_pl, jo_cpy, jia_cpy, cpy_r, m_X11_grant, m_X11_refuse, m_X13_good, m_X13_refused, reduceCtorEq, nI_add, nI_leI, nI_ltI, nI_eq, pk_mul, abs_nI, max_nI, min_nI, nI_m1, nI_m2, nI_le1, m1_lt, m2_lt, and_nI, or_nI, an_nI, has_nI, bit_nI, bc_nI, bits_nI, lx0, lx1, lx2, lx3, lx4, lx5, lx6, lx7, lx8, lx9, lx10, lx11, lx16, lx20, lx40, lx60, lx90, lx99, lx100, lx200, lx900, lx999, lx9999, jo_32 hW, jo_33 hW, jo_35 hW, jo_40 hW, jo_41 hW, jo_56 hW, jo_97 hW, jo_100 hW, jo_104 hW, jo_106 hW, jo_108 hW, ja_34 hW, ja_36 hW, ja_37 hW, ja_38 hW, ja_39 hW, ja_42 hW, ja_43 hW, ja_44 hW, ja_45 hW, ja_46 hW, ja_98 hW, ja_99 hW, ja_101 hW, ja_102 hW, ja_103 hW, wr_32_0 hW, wr_32_1 hW, wr_32_2 hW, wr_32_3 hW, wr_32_4 hW, wr_32_5 hW, wr_32_6 hW, wr_32_7 hW, wr_32_8 hW, wr_33_0 hW, wr_35_0 hW, wr_35_1 hW, wr_35_2 hW, wr_35_3 hW, wr_35_4 hW, wr_40_0 hW, wr_40_1 hW, wr_40_2 hW, wr_40_3 hW, wr_40_4 hW, wr_41_0 hW, wr_56_0 hW, wr_56_1 hW, wr_97_0 hW, wr_97_1 hW, wr_100_0 hW, wr_100_1 hW, wr_100_2 hW, wr_104_0 hW, wr_106_0 hW, joT hW hT, jaT1 hW hT, jaT2 hW hT, jaT3 hW hT, jaT4 hW hT, jaT5 hW hT, jaT6 hW hT, jaT7 hW hT, jaT8 hW hT, wrT0 hW hT, wrT1 hW hT, wrT2 hW hT, wrT3 hW hT, wrT4 hW hT, wrT5 hW hT, wrT6 hW hT, wrT7 hW hT, hS, ct_a0 hC, ct_a1 hC, ct_a2 hC, ct_a3 hC, ct_a4 hC, ct_a5 hC, ct_a6 hC, ct_a7 hC, ct_s0 hC, ct_s1 hC, ct_s2 hC, ct_s3 hC, ct_s4 hC, ct_s5 hC, ct_s6 hC, ct_s7 hC, cn_p hN, cn_m hN, cn_l hN, cn_t hN, e2]
end
def a_company (o : BO) (p : Int32) : Int32 × Nat := match o with
  | none => (- nI 1, 1)
  | some (B, N) => match ixN p (B 8 3) with
    | some j => (nI (argL (comF B N j) nP).1, 0)
    | none => (- nI 1, 1)
set_option maxHeartbeats 2000000 in
theorem X_company {o : BO} {T : Nat} {σ : jd_Hp} (h : RXc o T σ) (p : Int32) : OX (m_X11_company 32 p σ) (a_company o p) σ := by
  obtain ⟨hW, h⟩ := h
  unfold m_X11_company
  rcases o with _ | ⟨B, N⟩
  · have h10 : σ.2.1 32 10 = nI 0 := h
    simp (disch := omega) only [jb_some, jli, jif, jd_q, jd_K0, jpi_s, jpi_l, jpi_p, jpl_s, jpl_i, jpl_p, if_true, if_false, if_pos, if_neg, not_true_eq_false, not_false_eq_true, ite_true, ite_false, Nat.not_lt_zero, eq_self, Nat.le_refl, Nat.lt_irrefl, Bool.false_eq_true, or0, jo_pi, jo_pl, jia_pi, jia_pl, jo_cpy, jia_cpy, cpy_r, m_X11_grant, m_X11_refuse, m_X13_good, m_X13_refused, reduceCtorEq, nI_add, nI_leI, nI_ltI, nI_eq, pk_mul, abs_nI, max_nI, min_nI, nI_m1, nI_m2, nI_le1, m1_lt, m2_lt, and_nI, or_nI, an_nI, has_nI, bit_nI, bc_nI, bits_nI, lx0, lx1, lx2, lx3, lx4, lx5, lx6, lx7, lx8, lx9, lx10, lx11, lx16, lx20, lx40, lx60, lx90, lx99, lx100, lx200, lx900, lx999, lx9999, jo_32 hW, jo_33 hW, jo_35 hW, jo_40 hW, jo_41 hW, jo_56 hW, jo_97 hW, jo_100 hW, jo_104 hW, jo_106 hW, jo_108 hW, ja_34 hW, ja_36 hW, ja_37 hW, ja_38 hW, ja_39 hW, ja_42 hW, ja_43 hW, ja_44 hW, ja_45 hW, ja_46 hW, ja_98 hW, ja_99 hW, ja_101 hW, ja_102 hW, ja_103 hW, wr_32_0 hW, wr_32_1 hW, wr_32_2 hW, wr_32_3 hW, wr_32_4 hW, wr_32_5 hW, wr_32_6 hW, wr_32_7 hW, wr_32_8 hW, wr_33_0 hW, wr_35_0 hW, wr_35_1 hW, wr_35_2 hW, wr_35_3 hW, wr_35_4 hW, wr_40_0 hW, wr_40_1 hW, wr_40_2 hW, wr_40_3 hW, wr_40_4 hW, wr_41_0 hW, wr_56_0 hW, wr_56_1 hW, wr_97_0 hW, wr_97_1 hW, wr_100_0 hW, wr_100_1 hW, wr_100_2 hW, wr_104_0 hW, wr_106_0 hW, h10, m_X11_isPerson, m_X11_isPost]
    exact OX_of (Fr_refl _)
  · obtain ⟨h10, hX, hb, hn, hG⟩ : σ.2.1 32 10 = nI 1 ∧ CX B N T σ ∧ bOk B ∧ nOk B N ∧ SG B σ := h
    have hb2 := hb.2.1
    have hb3 := hb.2.2.1
    have ePe := x_isPerson hX h10 hb
    have ePo := x_isPost hX h10 hb
    show OX _ (a_company (some (B, N)) p) σ
    unfold a_company
    rcases hj : ixN p (B 8 3) with _ | j
    · simp (disch := omega) only [jb_some, jli, jif, jd_q, jd_K0, jpi_s, jpi_l, jpi_p, jpl_s, jpl_i, jpl_p, if_true, if_false, if_pos, if_neg, not_true_eq_false, not_false_eq_true, ite_true, ite_false, Nat.not_lt_zero, eq_self, Nat.le_refl, Nat.lt_irrefl, Bool.false_eq_true, or0, jo_pi, jo_pl, jia_pi, jia_pl, jo_cpy, jia_cpy, cpy_r, m_X11_grant, m_X11_refuse, m_X13_good, m_X13_refused, reduceCtorEq, nI_add, nI_leI, nI_ltI, nI_eq, pk_mul, abs_nI, max_nI, min_nI, nI_m1, nI_m2, nI_le1, m1_lt, m2_lt, and_nI, or_nI, an_nI, has_nI, bit_nI, bc_nI, bits_nI, lx0, lx1, lx2, lx3, lx4, lx5, lx6, lx7, lx8, lx9, lx10, lx11, lx16, lx20, lx40, lx60, lx90, lx99, lx100, lx200, lx900, lx999, lx9999, jo_32 hW, jo_33 hW, jo_35 hW, jo_40 hW, jo_41 hW, jo_56 hW, jo_97 hW, jo_100 hW, jo_104 hW, jo_106 hW, jo_108 hW, ja_34 hW, ja_36 hW, ja_37 hW, ja_38 hW, ja_39 hW, ja_42 hW, ja_43 hW, ja_44 hW, ja_45 hW, ja_46 hW, ja_98 hW, ja_99 hW, ja_101 hW, ja_102 hW, ja_103 hW, wr_32_0 hW, wr_32_1 hW, wr_32_2 hW, wr_32_3 hW, wr_32_4 hW, wr_32_5 hW, wr_32_6 hW, wr_32_7 hW, wr_32_8 hW, wr_33_0 hW, wr_35_0 hW, wr_35_1 hW, wr_35_2 hW, wr_35_3 hW, wr_35_4 hW, wr_40_0 hW, wr_40_1 hW, wr_40_2 hW, wr_40_3 hW, wr_40_4 hW, wr_41_0 hW, wr_56_0 hW, wr_56_1 hW, wr_97_0 hW, wr_97_1 hW, wr_100_0 hW, wr_100_1 hW, wr_100_2 hW, wr_104_0 hW, wr_106_0 hW, h10, ePe, hj, Option.isSome]
      exact OX_of (Fr_refl _)
    · obtain ⟨h2, rfl⟩ := ixN_some hj
      obtain ⟨σ', e1, F⟩ := x_placeOfFewestSinkers hX hb hn h2
      simp (disch := omega) only [jb_some, jli, jif, jd_q, jd_K0, jpi_s, jpi_l, jpi_p, jpl_s, jpl_i, jpl_p, if_true, if_false, if_pos, if_neg, not_true_eq_false, not_false_eq_true, ite_true, ite_false, Nat.not_lt_zero, eq_self, Nat.le_refl, Nat.lt_irrefl, Bool.false_eq_true, or0, jo_pi, jo_pl, jia_pi, jia_pl, jo_cpy, jia_cpy, cpy_r, m_X11_grant, m_X11_refuse, m_X13_good, m_X13_refused, reduceCtorEq, nI_add, nI_leI, nI_ltI, nI_eq, pk_mul, abs_nI, max_nI, min_nI, nI_m1, nI_m2, nI_le1, m1_lt, m2_lt, and_nI, or_nI, an_nI, has_nI, bit_nI, bc_nI, bits_nI, lx0, lx1, lx2, lx3, lx4, lx5, lx6, lx7, lx8, lx9, lx10, lx11, lx16, lx20, lx40, lx60, lx90, lx99, lx100, lx200, lx900, lx999, lx9999, jo_32 hW, jo_33 hW, jo_35 hW, jo_40 hW, jo_41 hW, jo_56 hW, jo_97 hW, jo_100 hW, jo_104 hW, jo_106 hW, jo_108 hW, ja_34 hW, ja_36 hW, ja_37 hW, ja_38 hW, ja_39 hW, ja_42 hW, ja_43 hW, ja_44 hW, ja_45 hW, ja_46 hW, ja_98 hW, ja_99 hW, ja_101 hW, ja_102 hW, ja_103 hW, wr_32_0 hW, wr_32_1 hW, wr_32_2 hW, wr_32_3 hW, wr_32_4 hW, wr_32_5 hW, wr_32_6 hW, wr_32_7 hW, wr_32_8 hW, wr_33_0 hW, wr_35_0 hW, wr_35_1 hW, wr_35_2 hW, wr_35_3 hW, wr_35_4 hW, wr_40_0 hW, wr_40_1 hW, wr_40_2 hW, wr_40_3 hW, wr_40_4 hW, wr_41_0 hW, wr_56_0 hW, wr_56_1 hW, wr_97_0 hW, wr_97_1 hW, wr_100_0 hW, wr_100_1 hW, wr_100_2 hW, wr_104_0 hW, wr_106_0 hW, h10, ePe, hj, Option.isSome, e1]
      exact OX_of F
set_option maxHeartbeats 2000000 in
theorem M_company {o : BO} {b : Nat} {σ : jd_Hp} (h : RMc o b σ) (p : Int32) : OM (m_X13_company 118 p σ) (a_company o p) σ := by
  have F1 : Fr DM L0 σ (jd_pi σ 118 0 0) := Fr_pi (Fr_refl σ) (Or.inl ⟨rfl, by omega⟩)
  have h1 := RMc_fr h F1
  unfold m_X13_company
  rw [jli]
  generalize jd_pi σ 118 0 0 = τ at *
  obtain ⟨hW, h1⟩ := h1
  rcases o with _ | ⟨B, N⟩
  · have hS : τ.2.2.2 118 3 = none := h1
    simp (disch := omega) only [jb_some, jli, jif, jd_q, jd_K0, jpi_s, jpi_l, jpi_p, jpl_s, jpl_i, jpl_p, if_true, if_false, if_pos, if_neg, not_true_eq_false, not_false_eq_true, ite_true, ite_false, Nat.not_lt_zero, eq_self, Nat.le_refl, Nat.lt_irrefl, Bool.false_eq_true, or0, jo_pi, jo_pl, jia_pi, jia_pl, jo_cpy, jia_cpy, cpy_r, m_X11_grant, m_X11_refuse, m_X13_good, m_X13_refused, reduceCtorEq, nI_add, nI_leI, nI_ltI, nI_eq, pk_mul, abs_nI, max_nI, min_nI, nI_m1, nI_m2, nI_le1, m1_lt, m2_lt, and_nI, or_nI, an_nI, has_nI, bit_nI, bc_nI, bits_nI, lx0, lx1, lx2, lx3, lx4, lx5, lx6, lx7, lx8, lx9, lx10, lx11, lx16, lx20, lx40, lx60, lx90, lx99, lx100, lx200, lx900, lx999, lx9999, jo_118 hW, ja_119 hW, ja_120 hW, ja_121 hW, ja_122 hW, ja_123 hW, ja_124 hW, ja_125 hW, ja_126 hW, ja_127 hW, ja_128 hW, ja_129 hW, wr_118_5 hW, wr_118_15 hW, wr_118_16 hW, wr_118_17 hW, wr_118_18 hW, wr_118_21 hW, wr_118_22 hW, wr_118_23 hW, wr_118_25 hW, wr_118_26 hW, wr_118_27 hW, hS, m_X13_isPerson, m_X13_isPost, m_X13_refusesMinute, m_X13_refusesFear, m_X13_refusesSeed, m_X13_lostBy, m_X13_changes]
    exact OM_of F1
  · obtain ⟨hS, hC, hV, hb, hn⟩ : τ.2.2.2 118 3 = some b ∧ MT B b τ ∧ MV B N τ ∧ bOk B ∧ nOk B N := h1
    have hb2 := hb.2.1
    have hb3 := hb.2.2.1
    have ePe := y_isPerson hS hC hb
    have ePo := y_isPost hS hC hb
    have eW := y_works hW
    have hA := wk_MA hW hS hC hV hb
    have hA2 := wk_MV hV
    have FW := Fr_tr F1 (wk_fr τ)
    show OM _ (a_company (some (B, N)) p) σ
    unfold a_company
    rcases hj : ixN p (B 8 3) with _ | j
    · simp (disch := omega) only [jb_some, jli, jif, jd_q, jd_K0, jpi_s, jpi_l, jpi_p, jpl_s, jpl_i, jpl_p, if_true, if_false, if_pos, if_neg, not_true_eq_false, not_false_eq_true, ite_true, ite_false, Nat.not_lt_zero, eq_self, Nat.le_refl, Nat.lt_irrefl, Bool.false_eq_true, or0, jo_pi, jo_pl, jia_pi, jia_pl, jo_cpy, jia_cpy, cpy_r, m_X11_grant, m_X11_refuse, m_X13_good, m_X13_refused, reduceCtorEq, nI_add, nI_leI, nI_ltI, nI_eq, pk_mul, abs_nI, max_nI, min_nI, nI_m1, nI_m2, nI_le1, m1_lt, m2_lt, and_nI, or_nI, an_nI, has_nI, bit_nI, bc_nI, bits_nI, lx0, lx1, lx2, lx3, lx4, lx5, lx6, lx7, lx8, lx9, lx10, lx11, lx16, lx20, lx40, lx60, lx90, lx99, lx100, lx200, lx900, lx999, lx9999, jo_118 hW, ja_119 hW, ja_120 hW, ja_121 hW, ja_122 hW, ja_123 hW, ja_124 hW, ja_125 hW, ja_126 hW, ja_127 hW, ja_128 hW, ja_129 hW, wr_118_5 hW, wr_118_15 hW, wr_118_16 hW, wr_118_17 hW, wr_118_18 hW, wr_118_21 hW, wr_118_22 hW, wr_118_23 hW, wr_118_25 hW, wr_118_26 hW, wr_118_27 hW, ePe, hj, Option.isSome]
      exact OM_of F1
    · obtain ⟨h2, rfl⟩ := ixN_some hj
      simp (disch := omega) only [jb_some, jli, jif, jd_q, jd_K0, jpi_s, jpi_l, jpi_p, jpl_s, jpl_i, jpl_p, if_true, if_false, if_pos, if_neg, not_true_eq_false, not_false_eq_true, ite_true, ite_false, Nat.not_lt_zero, eq_self, Nat.le_refl, Nat.lt_irrefl, Bool.false_eq_true, or0, jo_pi, jo_pl, jia_pi, jia_pl, jo_cpy, jia_cpy, cpy_r, m_X11_grant, m_X11_refuse, m_X13_good, m_X13_refused, reduceCtorEq, nI_add, nI_leI, nI_ltI, nI_eq, pk_mul, abs_nI, max_nI, min_nI, nI_m1, nI_m2, nI_le1, m1_lt, m2_lt, and_nI, or_nI, an_nI, has_nI, bit_nI, bc_nI, bits_nI, lx0, lx1, lx2, lx3, lx4, lx5, lx6, lx7, lx8, lx9, lx10, lx11, lx16, lx20, lx40, lx60, lx90, lx99, lx100, lx200, lx900, lx999, lx9999, jo_118 hW, ja_119 hW, ja_120 hW, ja_121 hW, ja_122 hW, ja_123 hW, ja_124 hW, ja_125 hW, ja_126 hW, ja_127 hW, ja_128 hW, ja_129 hW, wr_118_5 hW, wr_118_15 hW, wr_118_16 hW, wr_118_17 hW, wr_118_18 hW, wr_118_21 hW, wr_118_22 hW, wr_118_23 hW, wr_118_25 hW, wr_118_26 hW, wr_118_27 hW, ePe, hj, Option.isSome, eW]
      generalize wk τ = ρ at *
      have hM := nP_eq
      generalize nP = M at *
      have hM2 : 99 < M := by omega
      have two := jlp_inv (body := fun (s4 : Int32 × Int32 × Int32) σ4 =>
if (nI 99 < s4.2.2) then some ((Sum.inr s4.1), σ4) else
jd_o σ4 (13, 29) (some 118) fun a6 =>
jd_ia σ4 20 (σ4.2.2.2 a6 16) (nI j) fun a7 j7 =>
jd_b (m_X13_sinkersNow a6 (jd_pi σ4 a7 j7 s4.2.2)) fun r9 σ9 =>
jd_b (m_X13_bits r9 σ9) fun r10 σ10 =>
if (r10 < s4.2.1) then
some (Sum.inl (s4.2.2, r10, (s4.2.2 + nI 1)), σ10) else
some (Sum.inl (s4.1, s4.2.1, (s4.2.2 + nI 1)), σ10)) M (fun i s σ' => s = (nI (argL (comF B N j) i).1, nI (argL (comF B N j) i).2, nI i) ∧ Fr DM L0 σ σ' ∧ MT B b σ' ∧ σ'.2.2.2 118 3 = some b ∧ Wd σ' ∧ (∀ q, q < B 8 3 → q ≠ j → σ'.2.1 121 q = nI (N q)) ∧ σ'.2.1 121 6 = nI (N 6) ∧ σ'.2.1 121 7 = nI (N 7) ∧ σ'.2.1 121 8 = nI (N 8))
        (fun t σ' => t = nI (argL (comF B N j) M).1 ∧ Fr DM L0 σ σ' ∧ Wd σ') ?_ ?_ jd_fu (jfu (by omega)) (nI 0, nI 7, nI 0) ρ ⟨rfl, FW, hA.2.2.1, hA.2.1, hA.1, fun q hq _ => hA.2.2.2.1 q hq, hA.2.2.2.2⟩
      · obtain ⟨t, σ3, h3, rfl, hF, hW⟩ := two
        rw [h3]
        simp (disch := omega) only [jb_some, jli, jif, jd_q, jd_K0, jpi_s, jpi_l, jpi_p, jpl_s, jpl_i, jpl_p, if_true, if_false, if_pos, if_neg, not_true_eq_false, not_false_eq_true, ite_true, ite_false, Nat.not_lt_zero, eq_self, Nat.le_refl, Nat.lt_irrefl, Bool.false_eq_true, or0, jo_pi, jo_pl, jia_pi, jia_pl, jo_cpy, jia_cpy, cpy_r, m_X11_grant, m_X11_refuse, m_X13_good, m_X13_refused, reduceCtorEq, nI_add, nI_leI, nI_ltI, nI_eq, pk_mul, abs_nI, max_nI, min_nI, nI_m1, nI_m2, nI_le1, m1_lt, m2_lt, and_nI, or_nI, an_nI, has_nI, bit_nI, bc_nI, bits_nI, lx0, lx1, lx2, lx3, lx4, lx5, lx6, lx7, lx8, lx9, lx10, lx11, lx16, lx20, lx40, lx60, lx90, lx99, lx100, lx200, lx900, lx999, lx9999, jo_118 hW, ja_119 hW, ja_120 hW, ja_121 hW, ja_122 hW, ja_123 hW, ja_124 hW, ja_125 hW, ja_126 hW, ja_127 hW, ja_128 hW, ja_129 hW, wr_118_5 hW, wr_118_15 hW, wr_118_16 hW, wr_118_17 hW, wr_118_18 hW, wr_118_21 hW, wr_118_22 hW, wr_118_23 hW, wr_118_25 hW, wr_118_26 hW, wr_118_27 hW]
        exact OM_of hF
      · rintro i s σ' hi ⟨rfl, hF, hT', hS', hW', hc, c6, c7, c8⟩
        have F9 : Fr DM L0 σ (jd_pi σ' 121 j (nI i)) := Fr_pi hF (Or.inr (Or.inl rfl))
        have hT9 : MT B b (jd_pi σ' 121 j (nI i)) := MT_of hT' rfl rfl fun a k ha => pi_ne _ _ (by have := hT'.1; omega)
        have hx9 : MX B (upN N j i) (jd_pi σ' 121 j (nI i)) := by
          refine ⟨fun q hq => ?_, ?_, ?_, ?_⟩
          · show _ = nI (if q = j then i else N q)
            by_cases hqp : q = j
            · rw [hqp, pi_eq, if_pos rfl]
            · rw [pi_ne _ _ (by omega), if_neg hqp]
              exact hc q hq hqp
          · show _ = nI (if 6 = j then i else N 6)
            rw [pi_ne _ _ (by omega), if_neg (by omega)]
            exact c6
          · show _ = nI (if 7 = j then i else N 7)
            rw [pi_ne _ _ (by omega), if_neg (by omega)]
            exact c7
          · show _ = nI (if 8 = j then i else N 8)
            rw [pi_ne _ _ (by omega), if_neg (by omega)]
            exact c8
        have hA9 : MA B (upN N j i) b (jd_pi σ' 121 j (nI i)) := ⟨hW', hS', hT9, hx9⟩
        have e1 := y_sinkersNow hA9 hb (up_ok hn (by omega) (by omega))
        have e0 := sinkers_64 hb (upN N j i)
        have e2 : pc (sinkers B (upN N j i)) = comF B N j i := pc_bN _ hb2
        have e3 : comF B N j i ≤ 6 := by
          have := cnt_le (skC B (upN N j i)) (B 8 3)
          unfold comF
          omega
        have e4 := argL_le (f := comF B N j) i
        have h9 : ¬ 99 < i := by omega
        have rest : Fr DM L0 σ (jd_pi σ' 121 j (nI i)) ∧ MT B b (jd_pi σ' 121 j (nI i)) ∧ (jd_pi σ' 121 j (nI i)).2.2.2 118 3 = some b ∧ Wd (jd_pi σ' 121 j (nI i)) ∧ (∀ q, q < B 8 3 → q ≠ j → (jd_pi σ' 121 j (nI i)).2.1 121 q = nI (N q)) ∧ (jd_pi σ' 121 j (nI i)).2.1 121 6 = nI (N 6) ∧ (jd_pi σ' 121 j (nI i)).2.1 121 7 = nI (N 7) ∧ (jd_pi σ' 121 j (nI i)).2.1 121 8 = nI (N 8) :=
          ⟨F9, hT9, hS', hW', fun q hq hqp => (pi_ne _ _ (by omega)).trans (hc q hq hqp), (pi_ne _ _ (by omega)).trans c6, (pi_ne _ _ (by omega)).trans c7, (pi_ne _ _ (by omega)).trans c8⟩
        have hW := hW'
        by_cases hk : (argL (comF B N j) i).2 ≤ comF B N j i
        · have hk' : ¬ comF B N j i < (argL (comF B N j) i).2 := by omega
          refine ⟨_, jd_pi σ' 121 j (nI i), ?_, rfl, rest⟩
          rw [argL_t hk]
          simp (disch := omega) only [jb_some, jli, jif, jd_q, jd_K0, jpi_s, jpi_l, jpi_p, jpl_s, jpl_i, jpl_p, if_true, if_false, if_pos, if_neg, not_true_eq_false, not_false_eq_true, ite_true, ite_false, Nat.not_lt_zero, eq_self, Nat.le_refl, Nat.lt_irrefl, Bool.false_eq_true, or0, jo_pi, jo_pl, jia_pi, jia_pl, jo_cpy, jia_cpy, cpy_r, m_X11_grant, m_X11_refuse, m_X13_good, m_X13_refused, reduceCtorEq, nI_add, nI_leI, nI_ltI, nI_eq, pk_mul, abs_nI, max_nI, min_nI, nI_m1, nI_m2, nI_le1, m1_lt, m2_lt, and_nI, or_nI, an_nI, has_nI, bit_nI, bc_nI, bits_nI, lx0, lx1, lx2, lx3, lx4, lx5, lx6, lx7, lx8, lx9, lx10, lx11, lx16, lx20, lx40, lx60, lx90, lx99, lx100, lx200, lx900, lx999, lx9999, jo_118 hW, ja_119 hW, ja_120 hW, ja_121 hW, ja_122 hW, ja_123 hW, ja_124 hW, ja_125 hW, ja_126 hW, ja_127 hW, ja_128 hW, ja_129 hW, wr_118_5 hW, wr_118_15 hW, wr_118_16 hW, wr_118_17 hW, wr_118_18 hW, wr_118_21 hW, wr_118_22 hW, wr_118_23 hW, wr_118_25 hW, wr_118_26 hW, wr_118_27 hW, h9, e1, e2, hk']
        · have hk' : comF B N j i < (argL (comF B N j) i).2 := by omega
          refine ⟨_, jd_pi σ' 121 j (nI i), ?_, rfl, rest⟩
          rw [argL_f hk]
          simp (disch := omega) only [jb_some, jli, jif, jd_q, jd_K0, jpi_s, jpi_l, jpi_p, jpl_s, jpl_i, jpl_p, if_true, if_false, if_pos, if_neg, not_true_eq_false, not_false_eq_true, ite_true, ite_false, Nat.not_lt_zero, eq_self, Nat.le_refl, Nat.lt_irrefl, Bool.false_eq_true, or0, jo_pi, jo_pl, jia_pi, jia_pl, jo_cpy, jia_cpy, cpy_r, m_X11_grant, m_X11_refuse, m_X13_good, m_X13_refused, reduceCtorEq, nI_add, nI_leI, nI_ltI, nI_eq, pk_mul, abs_nI, max_nI, min_nI, nI_m1, nI_m2, nI_le1, m1_lt, m2_lt, and_nI, or_nI, an_nI, has_nI, bit_nI, bc_nI, bits_nI, lx0, lx1, lx2, lx3, lx4, lx5, lx6, lx7, lx8, lx9, lx10, lx11, lx16, lx20, lx40, lx60, lx90, lx99, lx100, lx200, lx900, lx999, lx9999, jo_118 hW, ja_119 hW, ja_120 hW, ja_121 hW, ja_122 hW, ja_123 hW, ja_124 hW, ja_125 hW, ja_126 hW, ja_127 hW, ja_128 hW, ja_129 hW, wr_118_5 hW, wr_118_15 hW, wr_118_16 hW, wr_118_17 hW, wr_118_18 hW, wr_118_21 hW, wr_118_22 hW, wr_118_23 hW, wr_118_25 hW, wr_118_26 hW, wr_118_27 hW, h9, e1, e2, hk']
      · rintro s σ' ⟨rfl, hF, hT', hS', hW', hc⟩
        refine ⟨_, σ', ?_, rfl, hF, hW'⟩
        simp (disch := omega) only [jb_some, jli, jif, jd_q, jd_K0, jpi_s, jpi_l, jpi_p, jpl_s, jpl_i, jpl_p, if_true, if_false, if_pos, if_neg, not_true_eq_false, not_false_eq_true, ite_true, ite_false, Nat.not_lt_zero, eq_self, Nat.le_refl, Nat.lt_irrefl, Bool.false_eq_true, or0, jo_pi, jo_pl, jia_pi, jia_pl, jo_cpy, jia_cpy, cpy_r, m_X11_grant, m_X11_refuse, m_X13_good, m_X13_refused, reduceCtorEq, nI_add, nI_leI, nI_ltI, nI_eq, pk_mul, abs_nI, max_nI, min_nI, nI_m1, nI_m2, nI_le1, m1_lt, m2_lt, and_nI, or_nI, an_nI, has_nI, bit_nI, bc_nI, bits_nI, lx0, lx1, lx2, lx3, lx4, lx5, lx6, lx7, lx8, lx9, lx10, lx11, lx16, lx20, lx40, lx60, lx90, lx99, lx100, lx200, lx900, lx999, lx9999, hM2]
