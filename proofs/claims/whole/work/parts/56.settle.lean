/-! P (6): the class settles -/
def CD (B : Bch) (N : Nw) (σ : jd_Hp) : Prop := (∀ p, p < B 8 3 → σ.2.1 43 p = nI (nearN B N p)) ∧ (∀ p, p < B 8 3 → σ.2.1 44 p = cs (sink B N p)) ∧ (∀ q, q < B 8 4 → σ.2.1 45 q = nI (reach B N q)) ∧ σ.2.1 40 6 = nI (sinkers B N) ∧ σ.2.1 40 7 = nI (cov B N (N 6))
def CX (B : Bch) (N : Nw) (T : Nat) (σ : jd_Hp) : Prop := CA B N T σ ∧ CD B N σ
def DS (a k : Nat) : Prop := a = 40 ∧ (k = 6 ∨ k = 7) ∨ a = 43 ∨ a = 44 ∨ a = 45
def L0 (_ : Nat) : Prop := False
section
variable {B : Bch} {N : Nw} {T : Nat} {σ σ' : jd_Hp} {L : Nat → Prop} {j : Nat}
theorem cd_n (h : CD B N σ) (hp : j < B 8 3) : σ.2.1 43 j = nI (nearN B N j) := h.1 j hp
theorem cd_s (h : CD B N σ) (hp : j < B 8 3) : σ.2.1 44 j = cs (sink B N j) := h.2.1 j hp
theorem cd_r (h : CD B N σ) (hp : j < B 8 4) : σ.2.1 45 j = nI (reach B N j) := h.2.2.1 j hp
theorem cd_b (h : CD B N σ) : σ.2.1 40 6 = nI (sinkers B N) := h.2.2.2.1
theorem cd_c (h : CD B N σ) : σ.2.1 40 7 = nI (cov B N (N 6)) := h.2.2.2.2
theorem CT_of (h : CT B T σ) (e : ∀ a k, T ≤ a → a ≤ T + 8 → σ'.2.1 a k = σ.2.1 a k) : CT B T σ' :=
  ⟨fun i hi => (e _ _ (by omega) (by omega)).trans (h.1 i hi), fun k p hk hp => (e _ _ (by omega) (by omega)).trans (h.2.1 k p hk hp), fun k q hk hq => (e _ _ (by omega) (by omega)).trans (h.2.2 k q hk hq)⟩
theorem CN_of (h : CN B N σ) (e : ∀ a k, a = 41 ∨ a = 42 → σ'.2.1 a k = σ.2.1 a k) : CN B N σ' :=
  ⟨fun p hp => (e _ _ (Or.inr rfl)).trans (h.1 p hp), (e _ _ (Or.inl rfl)).trans h.2.1, (e _ _ (Or.inl rfl)).trans h.2.2.1, (e _ _ (Or.inl rfl)).trans h.2.2.2⟩
theorem CA_fr (h : CA B N T σ) (f : Fr DS L σ σ') : CA B N T σ' := by
  obtain ⟨hW, hT, hS, hC, hN⟩ := h
  refine ⟨Fr_Wd f hW, hT, by rw [f.2.1]; exact hS, CT_of hC fun a k h1 h2 => f.2.2.1 a k ?_, CN_of hN fun a k h1 => f.2.2.1 a k ?_⟩
  · unfold DS
    omega
  · unfold DS
    omega
set_option maxHeartbeats 4000000 in
theorem x_settle (h : CA B N T σ) (hb : bOk B) (hn : nOk B N) : ∃ σ', m_X6_settle 40 σ = some ((), σ') ∧ Fr DS L0 σ σ' ∧ CD B N σ' := by
  have n7 := nOk7 hb hn
  have n6 := nOk6 hb hn
  have b2 := hb.2.1
  have b3 := hb.2.2.1
  unfold m_X6_settle
  have F0 : Fr DS L0 σ (jd_pi σ 40 6 0) := Fr_pi (Fr_refl _) (Or.inl ⟨rfl, Or.inl rfl⟩)
  rw [jli]
  have one := jlp_inv (body := fun (s2 : Int32) σ2 =>
jd_o σ2 (6, 8) (some 40) fun a4 =>
jd_o σ2 (10, 16) (σ2.2.2.2 a4 5) fun a5 =>
jd_if ((σ2.2.1 a5 11) ≤ s2) (
some ((Sum.inr ()), σ2)) (
jd_o σ2 (4, 4) (σ2.2.2.2 a4 0) fun a6 =>
jd_b (m_X6_nearIn a4 (σ2.2.2.2 a6 0) s2 σ2) fun r7 σ7 =>
jd_ia σ7 20 (σ2.2.2.2 a4 1) s2 fun a8 j8 =>
jd_li (jd_pi σ7 a8 j8 r7) fun τ9 =>
jd_o τ9 (4, 4) (τ9.2.2.2 a4 0) fun a10 =>
jd_b (m_X11_has (τ9.2.1 a10 2) s2 τ9) fun r11 σ11 =>
jd_b (α := Int32) (
jd_if (r11 = 0) (
jd_ia σ11 20 (σ11.2.2.2 a4 1) s2 fun a17 j17 =>
jd_b (m_J6_bitCount_0f7a4 (σ11.2.1 a17 j17) σ11) fun r18 σ18 =>
jd_o σ18 (10, 16) (σ11.2.2.2 a4 5) fun a19 =>
jd_b (m_X10_sinkMinute a19 s2 r18 σ18) fun r20 σ20 =>
some (r20, σ20)) (
some ((-2), σ11))) fun t16 σ16 =>
jd_ia σ16 20 (τ9.2.2.2 a4 2) s2 fun a21 j21 =>
jd_li (jd_pi σ16 a21 j21 t16) fun τ22 =>
jd_o τ22 (6, 8) (some 40) fun a23 =>
jd_ia τ22 20 (τ22.2.2.2 a23 2) s2 fun a24 j24 =>
jd_if ((τ22.2.1 a24 j24) = (-2)) (
some (Sum.inl (s2 + 1), τ22)) (
jd_li (jd_pi τ22 a23 6 ((τ22.2.1 a23 6) ||| (1 <<< (s2 &&& 31)))) fun τ25 =>
some (Sum.inl (s2 + 1), τ25)))) (B 8 3) (fun i s σ' => s = nI i ∧ Fr DS L0 σ σ' ∧ (∀ p, p < i → σ'.2.1 43 p = nI (nearN B N p)) ∧ (∀ p, p < i → σ'.2.1 44 p = cs (sink B N p)) ∧ σ'.2.1 40 6 = nI (bN (skC B N) i))
    (fun _ σ' => Fr DS L0 σ σ' ∧ (∀ p, p < B 8 3 → σ'.2.1 43 p = nI (nearN B N p)) ∧ (∀ p, p < B 8 3 → σ'.2.1 44 p = cs (sink B N p)) ∧ σ'.2.1 40 6 = nI (sinkers B N)) ?_ ?_ jd_fu (jfu (by omega)) 0 (jd_pi σ 40 6 0) ⟨rfl, F0, fun p hp => absurd hp (Nat.not_lt_zero p), fun p hp => absurd hp (Nat.not_lt_zero p), pi_eq _ _ _ _⟩
  · obtain ⟨t, σ1, h1, hF1, hn1, hs1, hb1⟩ := one
    rw [h1, jb_some]
    have hA1 := CA_fr h hF1
    rw [jo_40 hA1.1, jli]
    have F2 : Fr DS L0 σ (jd_pi σ1 40 7 0) := Fr_pi hF1 (Or.inl ⟨rfl, Or.inr rfl⟩)
    have two := jlp_inv (body := fun (s28 : Int32) σ28 =>
jd_o σ28 (6, 8) (some 40) fun a30 =>
jd_o σ28 (10, 16) (σ28.2.2.2 a30 5) fun a31 =>
jd_if ((σ28.2.1 a31 12) ≤ s28) (
some ((Sum.inr ()), σ28)) (
jd_b (m_X6_reachOf a30 s28 σ28) fun r32 σ32 =>
jd_ia σ32 20 (σ28.2.2.2 a30 3) s28 fun a33 j33 =>
jd_li (jd_pi σ32 a33 j33 r32) fun τ34 =>
jd_b (m_X6_isManned a30 s28 τ34) fun r35 σ35 =>
jd_if (r35 = 0) (
some (Sum.inl (s28 + 1), σ35)) (
jd_ia σ35 20 (σ35.2.2.2 a30 3) s28 fun a36 j36 =>
jd_li (jd_pi σ35 a30 7 ((σ35.2.1 a30 7) ||| (σ35.2.1 a36 j36))) fun τ37 =>
some (Sum.inl (s28 + 1), τ37)))) (B 8 4) (fun i s σ' => s = nI i ∧ Fr DS L0 σ σ' ∧ (∀ p, p < B 8 3 → σ'.2.1 43 p = nI (nearN B N p)) ∧ (∀ p, p < B 8 3 → σ'.2.1 44 p = cs (sink B N p)) ∧ σ'.2.1 40 6 = nI (sinkers B N) ∧ (∀ q, q < i → σ'.2.1 45 q = nI (reach B N q)) ∧ σ'.2.1 40 7 = nI (orN (fun q => if (N 6).testBit q then reach B N q else 0) i))
      (fun _ σ' => Fr DS L0 σ σ' ∧ CD B N σ') ?_ ?_ jd_fu (jfu (by omega)) 0 (jd_pi σ1 40 7 0) ⟨rfl, F2, fun p hp => (pi_ne _ _ (by omega)).trans (hn1 p hp), fun p hp => (pi_ne _ _ (by omega)).trans (hs1 p hp), (pi_ne _ _ (by omega)).trans hb1, fun p hp => absurd hp (Nat.not_lt_zero p), pi_eq _ _ _ _⟩
    · obtain ⟨t, σ3, h3, hF3, hD3⟩ := two
      rw [h3, jb_some]
      exact ⟨σ3, rfl, hF3, hD3⟩
    · rintro i s σ' hi ⟨rfl, hF, hN1, hS1, hb1, hr1, hc1⟩
      have hA := CA_fr h hF
      have e1 := x_reachOf hA hb hn hi
      have e0 := reach_64 hb N i
      have F9 : Fr DS L0 σ (jd_pi σ' 45 i (nI (reach B N i))) := Fr_pi hF (Or.inr (Or.inr (Or.inr rfl)))
      have h9 := CA_fr h F9
      have e2 := x_isManned h9 hb hn (q := i) (by omega)
      have k1 : ∀ q, q < i + 1 → (jd_pi σ' 45 i (nI (reach B N i))).2.1 45 q = nI (reach B N q) := fun q hq => by
        by_cases hqi : q = i
        · rw [hqi, pi_eq]
        · rw [pi_ne _ _ (by omega), hr1 q (by omega)]
      have k2 : (jd_pi σ' 45 i (nI (reach B N i))).2.1 40 7 = nI (orN (fun q => if (N 6).testBit q then reach B N q else 0) i) := (pi_ne _ _ (by omega)).trans hc1
      have k3 := orN_64 (f := fun q => if (N 6).testBit q then reach B N q else 0) (fun q => by
        show (if (N 6).testBit q then reach B N q else 0) < 64
        split
        · exact reach_64 hb N q
        · decide) i
      obtain ⟨hW, hT, hS, hC, hN⟩ := hA
      have k4 := k1 i (by omega)
      by_cases h7 : (N 6).testBit i = true
      · refine ⟨nI (i + 1), jd_pi (jd_pi σ' 45 i (nI (reach B N i))) 40 7 (nI (orN (fun q => if (N 6).testBit q then reach B N q else 0) (i + 1))), ?_, rfl, Fr_pi F9 (Or.inl ⟨rfl, Or.inr rfl⟩), fun p hp => (pi_ne _ _ (by omega)).trans ((pi_ne _ _ (by omega)).trans (hN1 p hp)), fun p hp => (pi_ne _ _ (by omega)).trans ((pi_ne _ _ (by omega)).trans (hS1 p hp)), (pi_ne _ _ (by omega)).trans ((pi_ne _ _ (by omega)).trans hb1), fun q hq => (pi_ne _ _ (by omega)).trans (k1 q hq), pi_eq _ _ _ _⟩
        simp (disch := omega) only [jb_some, jli, jif, jd_q, jd_K0, jpi_s, jpi_l, jpi_p, jpl_s, jpl_i, jpl_p, if_true, if_false, if_pos, if_neg, not_true_eq_false, not_false_eq_true, ite_true, ite_false, Nat.not_lt_zero, eq_self, Nat.le_refl, Nat.lt_irrefl, Bool.false_eq_true, or0, nI_add, nI_leI, nI_ltI, nI_eq, pk_mul, abs_nI, max_nI, min_nI, nI_m1, nI_m2, nI_le1, m1_lt, m2_lt, and_nI, or_nI, an_nI, has_nI, bit_nI, bc_nI, bits_nI, lx0, lx1, lx2, lx3, lx4, lx5, lx6, lx7, lx8, lx9, lx10, lx11, lx16, lx20, lx40, lx60, lx90, lx99, lx100, lx200, lx900, lx999, lx9999, jo_32 hW, jo_33 hW, jo_35 hW, jo_40 hW, jo_41 hW, jo_56 hW, jo_97 hW, jo_100 hW, jo_104 hW, jo_106 hW, jo_108 hW, ja_34 hW, ja_36 hW, ja_37 hW, ja_38 hW, ja_39 hW, ja_42 hW, ja_43 hW, ja_44 hW, ja_45 hW, ja_46 hW, ja_98 hW, ja_99 hW, ja_101 hW, ja_102 hW, ja_103 hW, wr_32_0 hW, wr_32_1 hW, wr_32_2 hW, wr_32_3 hW, wr_32_4 hW, wr_32_5 hW, wr_32_6 hW, wr_32_7 hW, wr_32_8 hW, wr_33_0 hW, wr_35_0 hW, wr_35_1 hW, wr_35_2 hW, wr_35_3 hW, wr_35_4 hW, wr_40_0 hW, wr_40_1 hW, wr_40_2 hW, wr_40_3 hW, wr_40_4 hW, wr_41_0 hW, wr_56_0 hW, wr_56_1 hW, wr_97_0 hW, wr_97_1 hW, wr_100_0 hW, wr_100_1 hW, wr_100_2 hW, wr_104_0 hW, wr_106_0 hW, joT hW hT, jaT1 hW hT, jaT2 hW hT, jaT3 hW hT, jaT4 hW hT, jaT5 hW hT, jaT6 hW hT, jaT7 hW hT, jaT8 hW hT, wrT0 hW hT, wrT1 hW hT, wrT2 hW hT, wrT3 hW hT, wrT4 hW hT, wrT5 hW hT, wrT6 hW hT, wrT7 hW hT, hS, ct_a0 hC, ct_a1 hC, ct_a2 hC, ct_a3 hC, ct_a4 hC, ct_a5 hC, ct_a6 hC, ct_a7 hC, ct_s0 hC, ct_s1 hC, ct_s2 hC, ct_s3 hC, ct_s4 hC, ct_s5 hC, ct_s6 hC, ct_s7 hC, cn_p hN, cn_m hN, cn_l hN, cn_t hN, e1]
        generalize jd_pi σ' 45 i (nI (reach B N i)) = τ9 at *
        obtain ⟨hW, hT, hS, hC, hN⟩ := h9
        simp (disch := omega) only [jb_some, jli, jif, jd_q, jd_K0, jpi_s, jpi_l, jpi_p, jpl_s, jpl_i, jpl_p, if_true, if_false, if_pos, if_neg, not_true_eq_false, not_false_eq_true, ite_true, ite_false, Nat.not_lt_zero, eq_self, Nat.le_refl, Nat.lt_irrefl, Bool.false_eq_true, or0, nI_add, nI_leI, nI_ltI, nI_eq, pk_mul, abs_nI, max_nI, min_nI, nI_m1, nI_m2, nI_le1, m1_lt, m2_lt, and_nI, or_nI, an_nI, has_nI, bit_nI, bc_nI, bits_nI, lx0, lx1, lx2, lx3, lx4, lx5, lx6, lx7, lx8, lx9, lx10, lx11, lx16, lx20, lx40, lx60, lx90, lx99, lx100, lx200, lx900, lx999, lx9999, jo_32 hW, jo_33 hW, jo_35 hW, jo_40 hW, jo_41 hW, jo_56 hW, jo_97 hW, jo_100 hW, jo_104 hW, jo_106 hW, jo_108 hW, ja_34 hW, ja_36 hW, ja_37 hW, ja_38 hW, ja_39 hW, ja_42 hW, ja_43 hW, ja_44 hW, ja_45 hW, ja_46 hW, ja_98 hW, ja_99 hW, ja_101 hW, ja_102 hW, ja_103 hW, wr_32_0 hW, wr_32_1 hW, wr_32_2 hW, wr_32_3 hW, wr_32_4 hW, wr_32_5 hW, wr_32_6 hW, wr_32_7 hW, wr_32_8 hW, wr_33_0 hW, wr_35_0 hW, wr_35_1 hW, wr_35_2 hW, wr_35_3 hW, wr_35_4 hW, wr_40_0 hW, wr_40_1 hW, wr_40_2 hW, wr_40_3 hW, wr_40_4 hW, wr_41_0 hW, wr_56_0 hW, wr_56_1 hW, wr_97_0 hW, wr_97_1 hW, wr_100_0 hW, wr_100_1 hW, wr_100_2 hW, wr_104_0 hW, wr_106_0 hW, joT hW hT, jaT1 hW hT, jaT2 hW hT, jaT3 hW hT, jaT4 hW hT, jaT5 hW hT, jaT6 hW hT, jaT7 hW hT, jaT8 hW hT, wrT0 hW hT, wrT1 hW hT, wrT2 hW hT, wrT3 hW hT, wrT4 hW hT, wrT5 hW hT, wrT6 hW hT, wrT7 hW hT, hS, ct_a0 hC, ct_a1 hC, ct_a2 hC, ct_a3 hC, ct_a4 hC, ct_a5 hC, ct_a6 hC, ct_a7 hC, ct_s0 hC, ct_s1 hC, ct_s2 hC, ct_s3 hC, ct_s4 hC, ct_s5 hC, ct_s6 hC, ct_s7 hC, cn_p hN, cn_m hN, cn_l hN, cn_t hN, e2, h7, k2, k4, orN]
      · rw [Bool.not_eq_true] at h7
        refine ⟨nI (i + 1), jd_pi σ' 45 i (nI (reach B N i)), ?_, rfl, F9, fun p hp => ((pi_ne _ _ (by omega)).trans (hN1 p hp)), fun p hp => ((pi_ne _ _ (by omega)).trans (hS1 p hp)), ((pi_ne _ _ (by omega)).trans hb1), k1, ?_⟩
        · simp (disch := omega) only [jb_some, jli, jif, jd_q, jd_K0, jpi_s, jpi_l, jpi_p, jpl_s, jpl_i, jpl_p, if_true, if_false, if_pos, if_neg, not_true_eq_false, not_false_eq_true, ite_true, ite_false, Nat.not_lt_zero, eq_self, Nat.le_refl, Nat.lt_irrefl, Bool.false_eq_true, or0, nI_add, nI_leI, nI_ltI, nI_eq, pk_mul, abs_nI, max_nI, min_nI, nI_m1, nI_m2, nI_le1, m1_lt, m2_lt, and_nI, or_nI, an_nI, has_nI, bit_nI, bc_nI, bits_nI, lx0, lx1, lx2, lx3, lx4, lx5, lx6, lx7, lx8, lx9, lx10, lx11, lx16, lx20, lx40, lx60, lx90, lx99, lx100, lx200, lx900, lx999, lx9999, jo_32 hW, jo_33 hW, jo_35 hW, jo_40 hW, jo_41 hW, jo_56 hW, jo_97 hW, jo_100 hW, jo_104 hW, jo_106 hW, jo_108 hW, ja_34 hW, ja_36 hW, ja_37 hW, ja_38 hW, ja_39 hW, ja_42 hW, ja_43 hW, ja_44 hW, ja_45 hW, ja_46 hW, ja_98 hW, ja_99 hW, ja_101 hW, ja_102 hW, ja_103 hW, wr_32_0 hW, wr_32_1 hW, wr_32_2 hW, wr_32_3 hW, wr_32_4 hW, wr_32_5 hW, wr_32_6 hW, wr_32_7 hW, wr_32_8 hW, wr_33_0 hW, wr_35_0 hW, wr_35_1 hW, wr_35_2 hW, wr_35_3 hW, wr_35_4 hW, wr_40_0 hW, wr_40_1 hW, wr_40_2 hW, wr_40_3 hW, wr_40_4 hW, wr_41_0 hW, wr_56_0 hW, wr_56_1 hW, wr_97_0 hW, wr_97_1 hW, wr_100_0 hW, wr_100_1 hW, wr_100_2 hW, wr_104_0 hW, wr_106_0 hW, joT hW hT, jaT1 hW hT, jaT2 hW hT, jaT3 hW hT, jaT4 hW hT, jaT5 hW hT, jaT6 hW hT, jaT7 hW hT, jaT8 hW hT, wrT0 hW hT, wrT1 hW hT, wrT2 hW hT, wrT3 hW hT, wrT4 hW hT, wrT5 hW hT, wrT6 hW hT, wrT7 hW hT, hS, ct_a0 hC, ct_a1 hC, ct_a2 hC, ct_a3 hC, ct_a4 hC, ct_a5 hC, ct_a6 hC, ct_a7 hC, ct_s0 hC, ct_s1 hC, ct_s2 hC, ct_s3 hC, ct_s4 hC, ct_s5 hC, ct_s6 hC, ct_s7 hC, cn_p hN, cn_m hN, cn_l hN, cn_t hN, e1]
          generalize jd_pi σ' 45 i (nI (reach B N i)) = τ9 at *
          obtain ⟨hW, hT, hS, hC, hN⟩ := h9
          simp (disch := omega) only [jb_some, jli, jif, jd_q, jd_K0, jpi_s, jpi_l, jpi_p, jpl_s, jpl_i, jpl_p, if_true, if_false, if_pos, if_neg, not_true_eq_false, not_false_eq_true, ite_true, ite_false, Nat.not_lt_zero, eq_self, Nat.le_refl, Nat.lt_irrefl, Bool.false_eq_true, or0, nI_add, nI_leI, nI_ltI, nI_eq, pk_mul, abs_nI, max_nI, min_nI, nI_m1, nI_m2, nI_le1, m1_lt, m2_lt, and_nI, or_nI, an_nI, has_nI, bit_nI, bc_nI, bits_nI, lx0, lx1, lx2, lx3, lx4, lx5, lx6, lx7, lx8, lx9, lx10, lx11, lx16, lx20, lx40, lx60, lx90, lx99, lx100, lx200, lx900, lx999, lx9999, jo_32 hW, jo_33 hW, jo_35 hW, jo_40 hW, jo_41 hW, jo_56 hW, jo_97 hW, jo_100 hW, jo_104 hW, jo_106 hW, jo_108 hW, ja_34 hW, ja_36 hW, ja_37 hW, ja_38 hW, ja_39 hW, ja_42 hW, ja_43 hW, ja_44 hW, ja_45 hW, ja_46 hW, ja_98 hW, ja_99 hW, ja_101 hW, ja_102 hW, ja_103 hW, wr_32_0 hW, wr_32_1 hW, wr_32_2 hW, wr_32_3 hW, wr_32_4 hW, wr_32_5 hW, wr_32_6 hW, wr_32_7 hW, wr_32_8 hW, wr_33_0 hW, wr_35_0 hW, wr_35_1 hW, wr_35_2 hW, wr_35_3 hW, wr_35_4 hW, wr_40_0 hW, wr_40_1 hW, wr_40_2 hW, wr_40_3 hW, wr_40_4 hW, wr_41_0 hW, wr_56_0 hW, wr_56_1 hW, wr_97_0 hW, wr_97_1 hW, wr_100_0 hW, wr_100_1 hW, wr_100_2 hW, wr_104_0 hW, wr_106_0 hW, joT hW hT, jaT1 hW hT, jaT2 hW hT, jaT3 hW hT, jaT4 hW hT, jaT5 hW hT, jaT6 hW hT, jaT7 hW hT, jaT8 hW hT, wrT0 hW hT, wrT1 hW hT, wrT2 hW hT, wrT3 hW hT, wrT4 hW hT, wrT5 hW hT, wrT6 hW hT, wrT7 hW hT, hS, ct_a0 hC, ct_a1 hC, ct_a2 hC, ct_a3 hC, ct_a4 hC, ct_a5 hC, ct_a6 hC, ct_a7 hC, ct_s0 hC, ct_s1 hC, ct_s2 hC, ct_s3 hC, ct_s4 hC, ct_s5 hC, ct_s6 hC, ct_s7 hC, cn_p hN, cn_m hN, cn_l hN, cn_t hN, e2, h7, k2, k4, orN]
        · rw [k2]
          show _ = nI (_ ||| (if (N 6).testBit i then reach B N i else 0))
          rw [h7]
          simp
    · rintro s σ' ⟨rfl, hF, hN1, hS1, hb1, hr1, hc1⟩
      obtain ⟨hW, hT, hS, hC, hN⟩ := CA_fr h hF
      refine ⟨(), σ', ?_, hF, hN1, hS1, hr1, hb1, hc1⟩
      simp (disch := omega) only [jb_some, jli, jif, jd_q, jd_K0, jpi_s, jpi_l, jpi_p, jpl_s, jpl_i, jpl_p, if_true, if_false, if_pos, if_neg, not_true_eq_false, not_false_eq_true, ite_true, ite_false, Nat.not_lt_zero, eq_self, Nat.le_refl, Nat.lt_irrefl, Bool.false_eq_true, or0, nI_add, nI_leI, nI_ltI, nI_eq, pk_mul, abs_nI, max_nI, min_nI, nI_m1, nI_m2, nI_le1, m1_lt, m2_lt, and_nI, or_nI, an_nI, has_nI, bit_nI, bc_nI, bits_nI, lx0, lx1, lx2, lx3, lx4, lx5, lx6, lx7, lx8, lx9, lx10, lx11, lx16, lx20, lx40, lx60, lx90, lx99, lx100, lx200, lx900, lx999, lx9999, jo_32 hW, jo_33 hW, jo_35 hW, jo_40 hW, jo_41 hW, jo_56 hW, jo_97 hW, jo_100 hW, jo_104 hW, jo_106 hW, jo_108 hW, ja_34 hW, ja_36 hW, ja_37 hW, ja_38 hW, ja_39 hW, ja_42 hW, ja_43 hW, ja_44 hW, ja_45 hW, ja_46 hW, ja_98 hW, ja_99 hW, ja_101 hW, ja_102 hW, ja_103 hW, wr_32_0 hW, wr_32_1 hW, wr_32_2 hW, wr_32_3 hW, wr_32_4 hW, wr_32_5 hW, wr_32_6 hW, wr_32_7 hW, wr_32_8 hW, wr_33_0 hW, wr_35_0 hW, wr_35_1 hW, wr_35_2 hW, wr_35_3 hW, wr_35_4 hW, wr_40_0 hW, wr_40_1 hW, wr_40_2 hW, wr_40_3 hW, wr_40_4 hW, wr_41_0 hW, wr_56_0 hW, wr_56_1 hW, wr_97_0 hW, wr_97_1 hW, wr_100_0 hW, wr_100_1 hW, wr_100_2 hW, wr_104_0 hW, wr_106_0 hW, joT hW hT, jaT1 hW hT, jaT2 hW hT, jaT3 hW hT, jaT4 hW hT, jaT5 hW hT, jaT6 hW hT, jaT7 hW hT, jaT8 hW hT, wrT0 hW hT, wrT1 hW hT, wrT2 hW hT, wrT3 hW hT, wrT4 hW hT, wrT5 hW hT, wrT6 hW hT, wrT7 hW hT, hS, ct_a0 hC, ct_a1 hC, ct_a2 hC, ct_a3 hC, ct_a4 hC, ct_a5 hC, ct_a6 hC, ct_a7 hC, ct_s0 hC, ct_s1 hC, ct_s2 hC, ct_s3 hC, ct_s4 hC, ct_s5 hC, ct_s6 hC, ct_s7 hC, cn_p hN, cn_m hN, cn_l hN, cn_t hN]
  · rintro i s σ' hi ⟨rfl, hF, hN1, hS1, hb1⟩
    have hA := CA_fr h hF
    have e1 := x_nearIn hA hb (wd hA.1 42 rfl) (fun p hp => cn_p hA.2.2.2.2 hp) hn.1 hi
    have e0 := near_64 hb N i
    have e01 := pc_le (nearN B N i)
    have F9 : Fr DS L0 σ (jd_pi σ' 43 i (nI (nearN B N i))) := Fr_pi hF (Or.inr (Or.inl rfl))
    have h9 := CA_fr h F9
    have e2 := x_sinkMinute h9 hb hi e01
    have k1 : ∀ q, q < i + 1 → (jd_pi σ' 43 i (nI (nearN B N i))).2.1 43 q = nI (nearN B N q) := fun q hq => by
      by_cases hqi : q = i
      · rw [hqi, pi_eq]
      · rw [pi_ne _ _ (by omega), hN1 q (by omega)]
    have k0 : ∀ q, q < i → (jd_pi σ' 43 i (nI (nearN B N i))).2.1 44 q = cs (sink B N q) := fun q hq => (pi_ne _ _ (by omega)).trans (hS1 q hq)
    have k2 : (jd_pi σ' 43 i (nI (nearN B N i))).2.1 40 6 = nI (bN (skC B N) i) := (pi_ne _ _ (by omega)).trans hb1
    have k4 := k1 i (by omega)
    obtain ⟨hW, hT, hS, hC, hN⟩ := hA
    have key : ∀ {τ9 : jd_Hp} {v : Option Nat}, (∀ q, q < i → τ9.2.1 44 q = cs (sink B N q)) → ∀ q, q < i + 1 → (jd_pi τ9 44 i (cs (sink B N i))).2.1 44 q = cs (sink B N q) := fun {τ9 _} hk q hq => by
      by_cases hqi : q = i
      · rw [hqi, pi_eq]
      · rw [pi_ne _ _ (by omega), hk q (by omega)]
    rcases hs : sink B N i with _ | t
    · refine ⟨nI (i + 1), jd_pi (jd_pi σ' 43 i (nI (nearN B N i))) 44 i (cs (sink B N i)), ?_, rfl, Fr_pi F9 (Or.inr (Or.inr (Or.inl rfl))), fun q hq => (pi_ne _ _ (by omega)).trans (k1 q hq), key (v := none) k0, ?_⟩
      · simp (disch := omega) only [jb_some, jli, jif, jd_q, jd_K0, jpi_s, jpi_l, jpi_p, jpl_s, jpl_i, jpl_p, if_true, if_false, if_pos, if_neg, not_true_eq_false, not_false_eq_true, ite_true, ite_false, Nat.not_lt_zero, eq_self, Nat.le_refl, Nat.lt_irrefl, Bool.false_eq_true, or0, nI_add, nI_leI, nI_ltI, nI_eq, pk_mul, abs_nI, max_nI, min_nI, nI_m1, nI_m2, nI_le1, m1_lt, m2_lt, and_nI, or_nI, an_nI, has_nI, bit_nI, bc_nI, bits_nI, lx0, lx1, lx2, lx3, lx4, lx5, lx6, lx7, lx8, lx9, lx10, lx11, lx16, lx20, lx40, lx60, lx90, lx99, lx100, lx200, lx900, lx999, lx9999, jo_32 hW, jo_33 hW, jo_35 hW, jo_40 hW, jo_41 hW, jo_56 hW, jo_97 hW, jo_100 hW, jo_104 hW, jo_106 hW, jo_108 hW, ja_34 hW, ja_36 hW, ja_37 hW, ja_38 hW, ja_39 hW, ja_42 hW, ja_43 hW, ja_44 hW, ja_45 hW, ja_46 hW, ja_98 hW, ja_99 hW, ja_101 hW, ja_102 hW, ja_103 hW, wr_32_0 hW, wr_32_1 hW, wr_32_2 hW, wr_32_3 hW, wr_32_4 hW, wr_32_5 hW, wr_32_6 hW, wr_32_7 hW, wr_32_8 hW, wr_33_0 hW, wr_35_0 hW, wr_35_1 hW, wr_35_2 hW, wr_35_3 hW, wr_35_4 hW, wr_40_0 hW, wr_40_1 hW, wr_40_2 hW, wr_40_3 hW, wr_40_4 hW, wr_41_0 hW, wr_56_0 hW, wr_56_1 hW, wr_97_0 hW, wr_97_1 hW, wr_100_0 hW, wr_100_1 hW, wr_100_2 hW, wr_104_0 hW, wr_106_0 hW, joT hW hT, jaT1 hW hT, jaT2 hW hT, jaT3 hW hT, jaT4 hW hT, jaT5 hW hT, jaT6 hW hT, jaT7 hW hT, jaT8 hW hT, wrT0 hW hT, wrT1 hW hT, wrT2 hW hT, wrT3 hW hT, wrT4 hW hT, wrT5 hW hT, wrT6 hW hT, wrT7 hW hT, hS, ct_a0 hC, ct_a1 hC, ct_a2 hC, ct_a3 hC, ct_a4 hC, ct_a5 hC, ct_a6 hC, ct_a7 hC, ct_s0 hC, ct_s1 hC, ct_s2 hC, ct_s3 hC, ct_s4 hC, ct_s5 hC, ct_s6 hC, ct_s7 hC, cn_p hN, cn_m hN, cn_l hN, cn_t hN, e1]
        generalize jd_pi σ' 43 i (nI (nearN B N i)) = τ9 at *
        have F10 : Fr DS L0 σ (jd_pi τ9 44 i (cs (sink B N i))) := Fr_pi F9 (Or.inr (Or.inr (Or.inl rfl)))
        have h10 := CA_fr h F10
        have e44 := pi_eq τ9 44 i (cs (sink B N i))
        rw [hs] at h10 e44 ⊢
        have hk : cs none = - nI 2 := rfl
        rw [hk] at h10 e44 ⊢
        by_cases h7 : (N 7).testBit i = true
        · have hW10 := h10.1
          obtain ⟨hW, hT, hS, hC, hN⟩ := h9
          simp (disch := omega) only [jb_some, jli, jif, jd_q, jd_K0, jpi_s, jpi_l, jpi_p, jpl_s, jpl_i, jpl_p, if_true, if_false, if_pos, if_neg, not_true_eq_false, not_false_eq_true, ite_true, ite_false, Nat.not_lt_zero, eq_self, Nat.le_refl, Nat.lt_irrefl, Bool.false_eq_true, or0, nI_add, nI_leI, nI_ltI, nI_eq, pk_mul, abs_nI, max_nI, min_nI, nI_m1, nI_m2, nI_le1, m1_lt, m2_lt, and_nI, or_nI, an_nI, has_nI, bit_nI, bc_nI, bits_nI, lx0, lx1, lx2, lx3, lx4, lx5, lx6, lx7, lx8, lx9, lx10, lx11, lx16, lx20, lx40, lx60, lx90, lx99, lx100, lx200, lx900, lx999, lx9999, jo_32 hW, jo_33 hW, jo_35 hW, jo_40 hW, jo_41 hW, jo_56 hW, jo_97 hW, jo_100 hW, jo_104 hW, jo_106 hW, jo_108 hW, ja_34 hW, ja_36 hW, ja_37 hW, ja_38 hW, ja_39 hW, ja_42 hW, ja_43 hW, ja_44 hW, ja_45 hW, ja_46 hW, ja_98 hW, ja_99 hW, ja_101 hW, ja_102 hW, ja_103 hW, wr_32_0 hW, wr_32_1 hW, wr_32_2 hW, wr_32_3 hW, wr_32_4 hW, wr_32_5 hW, wr_32_6 hW, wr_32_7 hW, wr_32_8 hW, wr_33_0 hW, wr_35_0 hW, wr_35_1 hW, wr_35_2 hW, wr_35_3 hW, wr_35_4 hW, wr_40_0 hW, wr_40_1 hW, wr_40_2 hW, wr_40_3 hW, wr_40_4 hW, wr_41_0 hW, wr_56_0 hW, wr_56_1 hW, wr_97_0 hW, wr_97_1 hW, wr_100_0 hW, wr_100_1 hW, wr_100_2 hW, wr_104_0 hW, wr_106_0 hW, joT hW hT, jaT1 hW hT, jaT2 hW hT, jaT3 hW hT, jaT4 hW hT, jaT5 hW hT, jaT6 hW hT, jaT7 hW hT, jaT8 hW hT, wrT0 hW hT, wrT1 hW hT, wrT2 hW hT, wrT3 hW hT, wrT4 hW hT, wrT5 hW hT, wrT6 hW hT, wrT7 hW hT, hS, ct_a0 hC, ct_a1 hC, ct_a2 hC, ct_a3 hC, ct_a4 hC, ct_a5 hC, ct_a6 hC, ct_a7 hC, ct_s0 hC, ct_s1 hC, ct_s2 hC, ct_s3 hC, ct_s4 hC, ct_s5 hC, ct_s6 hC, ct_s7 hC, cn_p hN, cn_m hN, cn_l hN, cn_t hN, h7]
          generalize jd_pi τ9 44 i (- nI 2) = τ22 at *
          simp (disch := omega) only [jb_some, jli, jif, jd_q, jd_K0, jpi_s, jpi_l, jpi_p, jpl_s, jpl_i, jpl_p, if_true, if_false, if_pos, if_neg, not_true_eq_false, not_false_eq_true, ite_true, ite_false, Nat.not_lt_zero, eq_self, Nat.le_refl, Nat.lt_irrefl, Bool.false_eq_true, or0, nI_add, nI_leI, nI_ltI, nI_eq, pk_mul, abs_nI, max_nI, min_nI, nI_m1, nI_m2, nI_le1, m1_lt, m2_lt, and_nI, or_nI, an_nI, has_nI, bit_nI, bc_nI, bits_nI, lx0, lx1, lx2, lx3, lx4, lx5, lx6, lx7, lx8, lx9, lx10, lx11, lx16, lx20, lx40, lx60, lx90, lx99, lx100, lx200, lx900, lx999, lx9999, jo_40 hW10, ja_44 hW10, wr_40_2 hW10, wr_40_2 hW, e44]
        · rw [Bool.not_eq_true] at h7
          have e3 : sinkM B i (pc (nearN B N i)) = none := by
            have := hs
            unfold sink at this
            rw [h7] at this
            exact this
          rw [e3, hk] at e2
          have hW10 := h10.1
          obtain ⟨hW, hT, hS, hC, hN⟩ := h9
          simp (disch := omega) only [jb_some, jli, jif, jd_q, jd_K0, jpi_s, jpi_l, jpi_p, jpl_s, jpl_i, jpl_p, if_true, if_false, if_pos, if_neg, not_true_eq_false, not_false_eq_true, ite_true, ite_false, Nat.not_lt_zero, eq_self, Nat.le_refl, Nat.lt_irrefl, Bool.false_eq_true, or0, nI_add, nI_leI, nI_ltI, nI_eq, pk_mul, abs_nI, max_nI, min_nI, nI_m1, nI_m2, nI_le1, m1_lt, m2_lt, and_nI, or_nI, an_nI, has_nI, bit_nI, bc_nI, bits_nI, lx0, lx1, lx2, lx3, lx4, lx5, lx6, lx7, lx8, lx9, lx10, lx11, lx16, lx20, lx40, lx60, lx90, lx99, lx100, lx200, lx900, lx999, lx9999, jo_32 hW, jo_33 hW, jo_35 hW, jo_40 hW, jo_41 hW, jo_56 hW, jo_97 hW, jo_100 hW, jo_104 hW, jo_106 hW, jo_108 hW, ja_34 hW, ja_36 hW, ja_37 hW, ja_38 hW, ja_39 hW, ja_42 hW, ja_43 hW, ja_44 hW, ja_45 hW, ja_46 hW, ja_98 hW, ja_99 hW, ja_101 hW, ja_102 hW, ja_103 hW, wr_32_0 hW, wr_32_1 hW, wr_32_2 hW, wr_32_3 hW, wr_32_4 hW, wr_32_5 hW, wr_32_6 hW, wr_32_7 hW, wr_32_8 hW, wr_33_0 hW, wr_35_0 hW, wr_35_1 hW, wr_35_2 hW, wr_35_3 hW, wr_35_4 hW, wr_40_0 hW, wr_40_1 hW, wr_40_2 hW, wr_40_3 hW, wr_40_4 hW, wr_41_0 hW, wr_56_0 hW, wr_56_1 hW, wr_97_0 hW, wr_97_1 hW, wr_100_0 hW, wr_100_1 hW, wr_100_2 hW, wr_104_0 hW, wr_106_0 hW, joT hW hT, jaT1 hW hT, jaT2 hW hT, jaT3 hW hT, jaT4 hW hT, jaT5 hW hT, jaT6 hW hT, jaT7 hW hT, jaT8 hW hT, wrT0 hW hT, wrT1 hW hT, wrT2 hW hT, wrT3 hW hT, wrT4 hW hT, wrT5 hW hT, wrT6 hW hT, wrT7 hW hT, hS, ct_a0 hC, ct_a1 hC, ct_a2 hC, ct_a3 hC, ct_a4 hC, ct_a5 hC, ct_a6 hC, ct_a7 hC, ct_s0 hC, ct_s1 hC, ct_s2 hC, ct_s3 hC, ct_s4 hC, ct_s5 hC, ct_s6 hC, ct_s7 hC, cn_p hN, cn_m hN, cn_l hN, cn_t hN, h7, k4, e2]
          generalize jd_pi τ9 44 i (- nI 2) = τ22 at *
          simp (disch := omega) only [jb_some, jli, jif, jd_q, jd_K0, jpi_s, jpi_l, jpi_p, jpl_s, jpl_i, jpl_p, if_true, if_false, if_pos, if_neg, not_true_eq_false, not_false_eq_true, ite_true, ite_false, Nat.not_lt_zero, eq_self, Nat.le_refl, Nat.lt_irrefl, Bool.false_eq_true, or0, nI_add, nI_leI, nI_ltI, nI_eq, pk_mul, abs_nI, max_nI, min_nI, nI_m1, nI_m2, nI_le1, m1_lt, m2_lt, and_nI, or_nI, an_nI, has_nI, bit_nI, bc_nI, bits_nI, lx0, lx1, lx2, lx3, lx4, lx5, lx6, lx7, lx8, lx9, lx10, lx11, lx16, lx20, lx40, lx60, lx90, lx99, lx100, lx200, lx900, lx999, lx9999, jo_40 hW10, ja_44 hW10, wr_40_2 hW10, wr_40_2 hW, e44]
      · rw [pi_ne _ _ (by omega), k2, bN_f (by simp [skC, hs])]
    · have e5 := sink_le hb hs
      refine ⟨nI (i + 1), jd_pi (jd_pi (jd_pi σ' 43 i (nI (nearN B N i))) 44 i (cs (sink B N i))) 40 6 (nI (bN (skC B N) (i + 1))), ?_, rfl, Fr_pi (Fr_pi F9 (Or.inr (Or.inr (Or.inl rfl)))) (Or.inl ⟨rfl, Or.inl rfl⟩), fun q hq => (pi_ne _ _ (by omega)).trans ((pi_ne _ _ (by omega)).trans (k1 q hq)), fun q hq => (pi_ne _ _ (by omega)).trans (key (v := none) k0 q hq), pi_eq _ _ _ _⟩
      simp (disch := omega) only [jb_some, jli, jif, jd_q, jd_K0, jpi_s, jpi_l, jpi_p, jpl_s, jpl_i, jpl_p, if_true, if_false, if_pos, if_neg, not_true_eq_false, not_false_eq_true, ite_true, ite_false, Nat.not_lt_zero, eq_self, Nat.le_refl, Nat.lt_irrefl, Bool.false_eq_true, or0, nI_add, nI_leI, nI_ltI, nI_eq, pk_mul, abs_nI, max_nI, min_nI, nI_m1, nI_m2, nI_le1, m1_lt, m2_lt, and_nI, or_nI, an_nI, has_nI, bit_nI, bc_nI, bits_nI, lx0, lx1, lx2, lx3, lx4, lx5, lx6, lx7, lx8, lx9, lx10, lx11, lx16, lx20, lx40, lx60, lx90, lx99, lx100, lx200, lx900, lx999, lx9999, jo_32 hW, jo_33 hW, jo_35 hW, jo_40 hW, jo_41 hW, jo_56 hW, jo_97 hW, jo_100 hW, jo_104 hW, jo_106 hW, jo_108 hW, ja_34 hW, ja_36 hW, ja_37 hW, ja_38 hW, ja_39 hW, ja_42 hW, ja_43 hW, ja_44 hW, ja_45 hW, ja_46 hW, ja_98 hW, ja_99 hW, ja_101 hW, ja_102 hW, ja_103 hW, wr_32_0 hW, wr_32_1 hW, wr_32_2 hW, wr_32_3 hW, wr_32_4 hW, wr_32_5 hW, wr_32_6 hW, wr_32_7 hW, wr_32_8 hW, wr_33_0 hW, wr_35_0 hW, wr_35_1 hW, wr_35_2 hW, wr_35_3 hW, wr_35_4 hW, wr_40_0 hW, wr_40_1 hW, wr_40_2 hW, wr_40_3 hW, wr_40_4 hW, wr_41_0 hW, wr_56_0 hW, wr_56_1 hW, wr_97_0 hW, wr_97_1 hW, wr_100_0 hW, wr_100_1 hW, wr_100_2 hW, wr_104_0 hW, wr_106_0 hW, joT hW hT, jaT1 hW hT, jaT2 hW hT, jaT3 hW hT, jaT4 hW hT, jaT5 hW hT, jaT6 hW hT, jaT7 hW hT, jaT8 hW hT, wrT0 hW hT, wrT1 hW hT, wrT2 hW hT, wrT3 hW hT, wrT4 hW hT, wrT5 hW hT, wrT6 hW hT, wrT7 hW hT, hS, ct_a0 hC, ct_a1 hC, ct_a2 hC, ct_a3 hC, ct_a4 hC, ct_a5 hC, ct_a6 hC, ct_a7 hC, ct_s0 hC, ct_s1 hC, ct_s2 hC, ct_s3 hC, ct_s4 hC, ct_s5 hC, ct_s6 hC, ct_s7 hC, cn_p hN, cn_m hN, cn_l hN, cn_t hN, e1]
      generalize jd_pi σ' 43 i (nI (nearN B N i)) = τ9 at *
      have F10 : Fr DS L0 σ (jd_pi τ9 44 i (cs (sink B N i))) := Fr_pi F9 (Or.inr (Or.inr (Or.inl rfl)))
      have h10 := CA_fr h F10
      have e44 := pi_eq τ9 44 i (cs (sink B N i))
      have e46 : (jd_pi τ9 44 i (cs (sink B N i))).2.1 40 6 = nI (bN (skC B N) i) := (pi_ne _ _ (by omega)).trans k2
      rw [hs] at h10 e44 e46 ⊢
      have hk : cs (some t) = nI t := rfl
      rw [hk] at h10 e44 e46 ⊢
      have h7 : (N 7).testBit i = false := by
        rcases h7 : (N 7).testBit i with _ | _
        · rfl
        · unfold sink at hs
          rw [h7] at hs
          exact absurd hs (by simp)
      have e3 : sinkM B i (pc (nearN B N i)) = some t := by
        have := hs
        unfold sink at this
        rw [h7] at this
        exact this
      rw [e3, hk] at e2
      have hW10 := h10.1
      obtain ⟨hW, hT, hS, hC, hN⟩ := h9
      simp (disch := omega) only [jb_some, jli, jif, jd_q, jd_K0, jpi_s, jpi_l, jpi_p, jpl_s, jpl_i, jpl_p, if_true, if_false, if_pos, if_neg, not_true_eq_false, not_false_eq_true, ite_true, ite_false, Nat.not_lt_zero, eq_self, Nat.le_refl, Nat.lt_irrefl, Bool.false_eq_true, or0, nI_add, nI_leI, nI_ltI, nI_eq, pk_mul, abs_nI, max_nI, min_nI, nI_m1, nI_m2, nI_le1, m1_lt, m2_lt, and_nI, or_nI, an_nI, has_nI, bit_nI, bc_nI, bits_nI, lx0, lx1, lx2, lx3, lx4, lx5, lx6, lx7, lx8, lx9, lx10, lx11, lx16, lx20, lx40, lx60, lx90, lx99, lx100, lx200, lx900, lx999, lx9999, jo_32 hW, jo_33 hW, jo_35 hW, jo_40 hW, jo_41 hW, jo_56 hW, jo_97 hW, jo_100 hW, jo_104 hW, jo_106 hW, jo_108 hW, ja_34 hW, ja_36 hW, ja_37 hW, ja_38 hW, ja_39 hW, ja_42 hW, ja_43 hW, ja_44 hW, ja_45 hW, ja_46 hW, ja_98 hW, ja_99 hW, ja_101 hW, ja_102 hW, ja_103 hW, wr_32_0 hW, wr_32_1 hW, wr_32_2 hW, wr_32_3 hW, wr_32_4 hW, wr_32_5 hW, wr_32_6 hW, wr_32_7 hW, wr_32_8 hW, wr_33_0 hW, wr_35_0 hW, wr_35_1 hW, wr_35_2 hW, wr_35_3 hW, wr_35_4 hW, wr_40_0 hW, wr_40_1 hW, wr_40_2 hW, wr_40_3 hW, wr_40_4 hW, wr_41_0 hW, wr_56_0 hW, wr_56_1 hW, wr_97_0 hW, wr_97_1 hW, wr_100_0 hW, wr_100_1 hW, wr_100_2 hW, wr_104_0 hW, wr_106_0 hW, joT hW hT, jaT1 hW hT, jaT2 hW hT, jaT3 hW hT, jaT4 hW hT, jaT5 hW hT, jaT6 hW hT, jaT7 hW hT, jaT8 hW hT, wrT0 hW hT, wrT1 hW hT, wrT2 hW hT, wrT3 hW hT, wrT4 hW hT, wrT5 hW hT, wrT6 hW hT, wrT7 hW hT, hS, ct_a0 hC, ct_a1 hC, ct_a2 hC, ct_a3 hC, ct_a4 hC, ct_a5 hC, ct_a6 hC, ct_a7 hC, ct_s0 hC, ct_s1 hC, ct_s2 hC, ct_s3 hC, ct_s4 hC, ct_s5 hC, ct_s6 hC, ct_s7 hC, cn_p hN, cn_m hN, cn_l hN, cn_t hN, h7, k4, e2]
      generalize jd_pi τ9 44 i (nI t) = τ22 at *
      rw [bN_t (by simp [skC, hs])]
      simp (disch := omega) only [jb_some, jli, jif, jd_q, jd_K0, jpi_s, jpi_l, jpi_p, jpl_s, jpl_i, jpl_p, if_true, if_false, if_pos, if_neg, not_true_eq_false, not_false_eq_true, ite_true, ite_false, Nat.not_lt_zero, eq_self, Nat.le_refl, Nat.lt_irrefl, Bool.false_eq_true, or0, nI_add, nI_leI, nI_ltI, nI_eq, pk_mul, abs_nI, max_nI, min_nI, nI_m1, nI_m2, nI_le1, m1_lt, m2_lt, and_nI, or_nI, an_nI, has_nI, bit_nI, bc_nI, bits_nI, lx0, lx1, lx2, lx3, lx4, lx5, lx6, lx7, lx8, lx9, lx10, lx11, lx16, lx20, lx40, lx60, lx90, lx99, lx100, lx200, lx900, lx999, lx9999, bN_or, jo_40 hW10, ja_44 hW10, wr_40_2 hW10, wr_40_2 hW, e44, e46]
  · rintro s σ' ⟨rfl, hF, hN1, hS1, hb1⟩
    obtain ⟨hW, hT, hS, hC, hN⟩ := CA_fr h hF
    refine ⟨(), σ', ?_, hF, hN1, hS1, hb1⟩
    simp (disch := omega) only [jb_some, jli, jif, jd_q, jd_K0, jpi_s, jpi_l, jpi_p, jpl_s, jpl_i, jpl_p, if_true, if_false, if_pos, if_neg, not_true_eq_false, not_false_eq_true, ite_true, ite_false, Nat.not_lt_zero, eq_self, Nat.le_refl, Nat.lt_irrefl, Bool.false_eq_true, or0, nI_add, nI_leI, nI_ltI, nI_eq, pk_mul, abs_nI, max_nI, min_nI, nI_m1, nI_m2, nI_le1, m1_lt, m2_lt, and_nI, or_nI, an_nI, has_nI, bit_nI, bc_nI, bits_nI, lx0, lx1, lx2, lx3, lx4, lx5, lx6, lx7, lx8, lx9, lx10, lx11, lx16, lx20, lx40, lx60, lx90, lx99, lx100, lx200, lx900, lx999, lx9999, jo_32 hW, jo_33 hW, jo_35 hW, jo_40 hW, jo_41 hW, jo_56 hW, jo_97 hW, jo_100 hW, jo_104 hW, jo_106 hW, jo_108 hW, ja_34 hW, ja_36 hW, ja_37 hW, ja_38 hW, ja_39 hW, ja_42 hW, ja_43 hW, ja_44 hW, ja_45 hW, ja_46 hW, ja_98 hW, ja_99 hW, ja_101 hW, ja_102 hW, ja_103 hW, wr_32_0 hW, wr_32_1 hW, wr_32_2 hW, wr_32_3 hW, wr_32_4 hW, wr_32_5 hW, wr_32_6 hW, wr_32_7 hW, wr_32_8 hW, wr_33_0 hW, wr_35_0 hW, wr_35_1 hW, wr_35_2 hW, wr_35_3 hW, wr_35_4 hW, wr_40_0 hW, wr_40_1 hW, wr_40_2 hW, wr_40_3 hW, wr_40_4 hW, wr_41_0 hW, wr_56_0 hW, wr_56_1 hW, wr_97_0 hW, wr_97_1 hW, wr_100_0 hW, wr_100_1 hW, wr_100_2 hW, wr_104_0 hW, wr_106_0 hW, joT hW hT, jaT1 hW hT, jaT2 hW hT, jaT3 hW hT, jaT4 hW hT, jaT5 hW hT, jaT6 hW hT, jaT7 hW hT, jaT8 hW hT, wrT0 hW hT, wrT1 hW hT, wrT2 hW hT, wrT3 hW hT, wrT4 hW hT, wrT5 hW hT, wrT6 hW hT, wrT7 hW hT, hS, ct_a0 hC, ct_a1 hC, ct_a2 hC, ct_a3 hC, ct_a4 hC, ct_a5 hC, ct_a6 hC, ct_a7 hC, ct_s0 hC, ct_s1 hC, ct_s2 hC, ct_s3 hC, ct_s4 hC, ct_s5 hC, ct_s6 hC, ct_s7 hC, cn_p hN, cn_m hN, cn_l hN, cn_t hN]
end
