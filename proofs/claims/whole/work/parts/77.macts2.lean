/-! P (27): the reference's acts, one by one -/
theorem wk_fr2 (σ : jd_Hp) : Fr (fun a _ => a = 121) L0 σ (wk σ) := cpy_fr _ _ _ _
theorem DRN {a k : Nat} (h : DR a k) : DN a k := by unfold DR at h; unfold DN; omega
section
variable {B : Bch} {N : Nw} {σ : jd_Hp} {b : Nat}
theorem MT_fr2 {D : Nat → Nat → Prop} {σ' : jd_Hp} (h : MT B b σ) (f : Fr D L0 σ σ') (hd : ∀ a k, D a k → DN a k) : MT B b σ' := MT_of h f.1 f.2.1 fun a k ha => f.2.2.1 a k fun c => by
  have := h.1
  have := hd a k c
  unfold DN at this
  omega
end
set_option maxHeartbeats 2000000 in
theorem ZM_man {z : Zt} {σ : jd_Hp} (h : MR z σ) (hz : HZ z) (q : Int32) : ZS (m_X13_man 118 q σ) (z_man z q) σ := by
  have h0 := MR_0 h
  have hz0 := hz
  unfold m_X13_man
  rw [jli]
  refine ZS_0 ?_
  have e118 : (jd_pi σ 118 0 0).2.1 118 0 = nI 0 := pi_eq _ _ _ _
  generalize jd_pi σ 118 0 0 = τ at *
  clear h
  obtain ⟨o, ⟨na, H⟩, ⟨ni, I⟩, ⟨tl, tp⟩, fl, wh, tr⟩ := z
  have h1 := h0
  obtain ⟨b, ⟨hW, hR⟩, hP, hTM, f1, f2, f3⟩ := h1
  obtain ⟨z1, z2, z3, z4, z5⟩ := hz
  rcases o with _ | ⟨B, N⟩
  · have hS : τ.2.2.2 118 3 = none := hR
    obtain ⟨rfl, rfl⟩ : na = 0 ∧ ni = 0 := z5
    show ZS _ (z_man (none, (0, H), (0, I), (tl, tp), fl, wh, tr) q) τ
    unfold z_man
    simp (disch := omega) only [jb_some, jli, jif, jd_q, jd_K0, jpi_s, jpi_l, jpi_p, jpl_s, jpl_i, jpl_p, if_true, if_false, if_pos, if_neg, not_true_eq_false, not_false_eq_true, ite_true, ite_false, Nat.not_lt_zero, eq_self, Nat.le_refl, Nat.lt_irrefl, Bool.false_eq_true, or0, jo_pi, jo_pl, jia_pi, jia_pl, jo_cpy, jia_cpy, cpy_r, m_X11_grant, m_X11_refuse, m_X13_good, m_X13_refused, reduceCtorEq, nI_add, nI_leI, nI_ltI, nI_eq, pk_mul, abs_nI, max_nI, min_nI, nI_m1, nI_m2, nI_le1, m1_lt, m2_lt, or_nI, an_nI, has_nI, bit_nI, bc_nI, bits_nI, lx0, lx1, lx2, lx3, lx4, lx5, lx6, lx7, lx8, lx9, lx10, lx11, lx16, lx20, lx40, lx60, lx90, lx99, lx100, lx200, lx900, lx999, lx9999, jo_118 hW, ja_119 hW, ja_120 hW, ja_121 hW, ja_122 hW, ja_123 hW, ja_124 hW, ja_125 hW, ja_126 hW, ja_127 hW, ja_128 hW, ja_129 hW, wr_118_5 hW, wr_118_15 hW, wr_118_16 hW, wr_118_17 hW, wr_118_18 hW, wr_118_21 hW, wr_118_22 hW, wr_118_23 hW, wr_118_25 hW, wr_118_26 hW, wr_118_27 hW, n_01, n_11, hS, m_X13_isPerson, m_X13_isPost, m_X13_changes, m_X13_denied]
    exact ZS_tr h0 _ (by decide)
  · obtain ⟨hS, hC, hV, hb, hn⟩ : τ.2.2.2 118 3 = some b ∧ MT B b τ ∧ MV B N τ ∧ bOk B ∧ nOk B N := hR
    have hb2 := hb.2.1
    have hb3 := hb.2.2.1
    have ePe := y_isPerson hS hC hb
    have ePo := y_isPost hS hC hb
    have hP : PM (B 8 3) na H ni I τ := hP
    have z5 : (∀ k, k < na → nOk B (H k)) ∧ ∀ i, i < ni → nOk B (I i) := z5
    show ZS _ (z_man (some (B, N), (na, H), (ni, I), (tl, tp), fl, wh, tr) q) τ
    unfold z_man
    unfold m_X13_changes
    rcases hj : ixN q (B 8 4) with _ | j
    · simp (disch := omega) only [jb_some, jli, jif, jd_q, jd_K0, jpi_s, jpi_l, jpi_p, jpl_s, jpl_i, jpl_p, if_true, if_false, if_pos, if_neg, not_true_eq_false, not_false_eq_true, ite_true, ite_false, Nat.not_lt_zero, eq_self, Nat.le_refl, Nat.lt_irrefl, Bool.false_eq_true, or0, jo_pi, jo_pl, jia_pi, jia_pl, jo_cpy, jia_cpy, cpy_r, m_X11_grant, m_X11_refuse, m_X13_good, m_X13_refused, reduceCtorEq, nI_add, nI_leI, nI_ltI, nI_eq, pk_mul, abs_nI, max_nI, min_nI, nI_m1, nI_m2, nI_le1, m1_lt, m2_lt, or_nI, an_nI, has_nI, bit_nI, bc_nI, bits_nI, lx0, lx1, lx2, lx3, lx4, lx5, lx6, lx7, lx8, lx9, lx10, lx11, lx16, lx20, lx40, lx60, lx90, lx99, lx100, lx200, lx900, lx999, lx9999, jo_118 hW, ja_119 hW, ja_120 hW, ja_121 hW, ja_122 hW, ja_123 hW, ja_124 hW, ja_125 hW, ja_126 hW, ja_127 hW, ja_128 hW, ja_129 hW, wr_118_5 hW, wr_118_15 hW, wr_118_16 hW, wr_118_17 hW, wr_118_18 hW, wr_118_21 hW, wr_118_22 hW, wr_118_23 hW, wr_118_25 hW, wr_118_26 hW, wr_118_27 hW, n_01, n_11, ePo, hj, Option.isSome, m_X13_denied]
      exact ZS_tr h0 _ (by decide)
    · obtain ⟨h1, rfl⟩ := ixN_some hj
      have e1 : τ.2.1 120 6 = nI (N 6) := hV.2.1
      have e2 := nOk6 hb hn
      by_cases h2 : (N 6).testBit j = true
      · simp (disch := omega) only [jb_some, jli, jif, jd_q, jd_K0, jpi_s, jpi_l, jpi_p, jpl_s, jpl_i, jpl_p, if_true, if_false, if_pos, if_neg, not_true_eq_false, not_false_eq_true, ite_true, ite_false, Nat.not_lt_zero, eq_self, Nat.le_refl, Nat.lt_irrefl, Bool.false_eq_true, or0, jo_pi, jo_pl, jia_pi, jia_pl, jo_cpy, jia_cpy, cpy_r, m_X11_grant, m_X11_refuse, m_X13_good, m_X13_refused, reduceCtorEq, nI_add, nI_leI, nI_ltI, nI_eq, pk_mul, abs_nI, max_nI, min_nI, nI_m1, nI_m2, nI_le1, m1_lt, m2_lt, or_nI, an_nI, has_nI, bit_nI, bc_nI, bits_nI, lx0, lx1, lx2, lx3, lx4, lx5, lx6, lx7, lx8, lx9, lx10, lx11, lx16, lx20, lx40, lx60, lx90, lx99, lx100, lx200, lx900, lx999, lx9999, jo_118 hW, ja_119 hW, ja_120 hW, ja_121 hW, ja_122 hW, ja_123 hW, ja_124 hW, ja_125 hW, ja_126 hW, ja_127 hW, ja_128 hW, ja_129 hW, wr_118_5 hW, wr_118_15 hW, wr_118_16 hW, wr_118_17 hW, wr_118_18 hW, wr_118_21 hW, wr_118_22 hW, wr_118_23 hW, wr_118_25 hW, wr_118_26 hW, wr_118_27 hW, n_01, n_11, ePo, hj, Option.isSome, m_X13_denied, e1, h2]
        exact ZS_tr h0 _ (by decide)
      · rw [Bool.not_eq_true] at h2
        obtain ⟨σ6, e6, hP6, F6⟩ := y_remembers hW hP (MV_sc hV) hb2 z1 z2
        have hW6 := Fr_Wd F6 hW
        have hV6 := MV_of hV fun k => F6.2.2.1 120 k (by unfold DR; omega)
        have m6 : σ6.2.1 120 6 = nI (N 6) := hV6.2.1
        have e7 := (fin_man _ (nOk6 hb hn) j (by omega) h2).2
        simp (disch := omega) only [jb_some, jli, jif, jd_q, jd_K0, jpi_s, jpi_l, jpi_p, jpl_s, jpl_i, jpl_p, if_true, if_false, if_pos, if_neg, not_true_eq_false, not_false_eq_true, ite_true, ite_false, Nat.not_lt_zero, eq_self, Nat.le_refl, Nat.lt_irrefl, Bool.false_eq_true, or0, jo_pi, jo_pl, jia_pi, jia_pl, jo_cpy, jia_cpy, cpy_r, m_X11_grant, m_X11_refuse, m_X13_good, m_X13_refused, reduceCtorEq, nI_add, nI_leI, nI_ltI, nI_eq, pk_mul, abs_nI, max_nI, min_nI, nI_m1, nI_m2, nI_le1, m1_lt, m2_lt, or_nI, an_nI, has_nI, bit_nI, bc_nI, bits_nI, lx0, lx1, lx2, lx3, lx4, lx5, lx6, lx7, lx8, lx9, lx10, lx11, lx16, lx20, lx40, lx60, lx90, lx99, lx100, lx200, lx900, lx999, lx9999, jo_118 hW, ja_119 hW, ja_120 hW, ja_121 hW, ja_122 hW, ja_123 hW, ja_124 hW, ja_125 hW, ja_126 hW, ja_127 hW, ja_128 hW, ja_129 hW, wr_118_5 hW, wr_118_15 hW, wr_118_16 hW, wr_118_17 hW, wr_118_18 hW, wr_118_21 hW, wr_118_22 hW, wr_118_23 hW, wr_118_25 hW, wr_118_26 hW, wr_118_27 hW, n_01, n_11, ePo, hj, Option.isSome, m_X13_granted, e1, h2, e6, m6, e7, ja_120 hW6, wr_118_15 hW6]
        exact MR_gd h0 (Fr_pi (Fr_mono F6 (fun a k h => DRN h) fun _ h => h) (by unfold DN; omega)) (fun _ _ h => h) (N' := uN N 6 (N 6 ||| 2 ^ j)) ⟨fun p hp => by
          rw [pi_ne _ _ (by omega), uN_n _ _ (by omega)]
          exact hV6.1 p hp, pi_eq _ _ _ _, (pi_ne _ _ (by omega)).trans hV6.2.2.1, (pi_ne _ _ (by omega)).trans hV6.2.2.2⟩ (nOk_6 hn (or_pow hn.2.1 h1)) (PM_of hP6 hb2 (pi_ne _ _ (by omega)) (pi_ne _ _ (by omega)) fun a k h => pi_ne _ _ (by omega)) _
set_option maxHeartbeats 2000000 in
theorem ZM_leave {z : Zt} {σ : jd_Hp} (h : MR z σ) (hz : HZ z) (q : Int32) : ZS (m_X13_leave 118 q σ) (z_leave z q) σ := by
  have h0 := MR_0 h
  have hz0 := hz
  unfold m_X13_leave
  rw [jli]
  refine ZS_0 ?_
  have e118 : (jd_pi σ 118 0 0).2.1 118 0 = nI 0 := pi_eq _ _ _ _
  generalize jd_pi σ 118 0 0 = τ at *
  clear h
  obtain ⟨o, ⟨na, H⟩, ⟨ni, I⟩, ⟨tl, tp⟩, fl, wh, tr⟩ := z
  have h1 := h0
  obtain ⟨b, ⟨hW, hR⟩, hP, hTM, f1, f2, f3⟩ := h1
  obtain ⟨z1, z2, z3, z4, z5⟩ := hz
  rcases o with _ | ⟨B, N⟩
  · have hS : τ.2.2.2 118 3 = none := hR
    obtain ⟨rfl, rfl⟩ : na = 0 ∧ ni = 0 := z5
    show ZS _ (z_leave (none, (0, H), (0, I), (tl, tp), fl, wh, tr) q) τ
    unfold z_leave
    simp (disch := omega) only [jb_some, jli, jif, jd_q, jd_K0, jpi_s, jpi_l, jpi_p, jpl_s, jpl_i, jpl_p, if_true, if_false, if_pos, if_neg, not_true_eq_false, not_false_eq_true, ite_true, ite_false, Nat.not_lt_zero, eq_self, Nat.le_refl, Nat.lt_irrefl, Bool.false_eq_true, or0, jo_pi, jo_pl, jia_pi, jia_pl, jo_cpy, jia_cpy, cpy_r, m_X11_grant, m_X11_refuse, m_X13_good, m_X13_refused, reduceCtorEq, nI_add, nI_leI, nI_ltI, nI_eq, pk_mul, abs_nI, max_nI, min_nI, nI_m1, nI_m2, nI_le1, m1_lt, m2_lt, or_nI, an_nI, has_nI, bit_nI, bc_nI, bits_nI, lx0, lx1, lx2, lx3, lx4, lx5, lx6, lx7, lx8, lx9, lx10, lx11, lx16, lx20, lx40, lx60, lx90, lx99, lx100, lx200, lx900, lx999, lx9999, jo_118 hW, ja_119 hW, ja_120 hW, ja_121 hW, ja_122 hW, ja_123 hW, ja_124 hW, ja_125 hW, ja_126 hW, ja_127 hW, ja_128 hW, ja_129 hW, wr_118_5 hW, wr_118_15 hW, wr_118_16 hW, wr_118_17 hW, wr_118_18 hW, wr_118_21 hW, wr_118_22 hW, wr_118_23 hW, wr_118_25 hW, wr_118_26 hW, wr_118_27 hW, n_01, n_11, hS, m_X13_isPerson, m_X13_isPost, m_X13_changes, m_X13_denied]
    exact ZS_tr h0 _ (by decide)
  · obtain ⟨hS, hC, hV, hb, hn⟩ : τ.2.2.2 118 3 = some b ∧ MT B b τ ∧ MV B N τ ∧ bOk B ∧ nOk B N := hR
    have hb2 := hb.2.1
    have hb3 := hb.2.2.1
    have ePe := y_isPerson hS hC hb
    have ePo := y_isPost hS hC hb
    have hP : PM (B 8 3) na H ni I τ := hP
    have z5 : (∀ k, k < na → nOk B (H k)) ∧ ∀ i, i < ni → nOk B (I i) := z5
    show ZS _ (z_leave (some (B, N), (na, H), (ni, I), (tl, tp), fl, wh, tr) q) τ
    unfold z_leave
    unfold m_X13_changes
    rcases hj : ixN q (B 8 4) with _ | j
    · simp (disch := omega) only [jb_some, jli, jif, jd_q, jd_K0, jpi_s, jpi_l, jpi_p, jpl_s, jpl_i, jpl_p, if_true, if_false, if_pos, if_neg, not_true_eq_false, not_false_eq_true, ite_true, ite_false, Nat.not_lt_zero, eq_self, Nat.le_refl, Nat.lt_irrefl, Bool.false_eq_true, or0, jo_pi, jo_pl, jia_pi, jia_pl, jo_cpy, jia_cpy, cpy_r, m_X11_grant, m_X11_refuse, m_X13_good, m_X13_refused, reduceCtorEq, nI_add, nI_leI, nI_ltI, nI_eq, pk_mul, abs_nI, max_nI, min_nI, nI_m1, nI_m2, nI_le1, m1_lt, m2_lt, or_nI, an_nI, has_nI, bit_nI, bc_nI, bits_nI, lx0, lx1, lx2, lx3, lx4, lx5, lx6, lx7, lx8, lx9, lx10, lx11, lx16, lx20, lx40, lx60, lx90, lx99, lx100, lx200, lx900, lx999, lx9999, jo_118 hW, ja_119 hW, ja_120 hW, ja_121 hW, ja_122 hW, ja_123 hW, ja_124 hW, ja_125 hW, ja_126 hW, ja_127 hW, ja_128 hW, ja_129 hW, wr_118_5 hW, wr_118_15 hW, wr_118_16 hW, wr_118_17 hW, wr_118_18 hW, wr_118_21 hW, wr_118_22 hW, wr_118_23 hW, wr_118_25 hW, wr_118_26 hW, wr_118_27 hW, n_01, n_11, ePo, hj, Option.isSome, m_X13_denied]
      exact ZS_tr h0 _ (by decide)
    · obtain ⟨h1, rfl⟩ := ixN_some hj
      have e1 : τ.2.1 120 6 = nI (N 6) := hV.2.1
      have e2 := nOk6 hb hn
      by_cases h2 : (N 6).testBit j = true
      · obtain ⟨σ6, e6, hP6, F6⟩ := y_remembers hW hP (MV_sc hV) hb2 z1 z2
        have hW6 := Fr_Wd F6 hW
        have hV6 := MV_of hV fun k => F6.2.2.1 120 k (by unfold DR; omega)
        have m6 : σ6.2.1 120 6 = nI (N 6) := hV6.2.1
        have e7 := (fin_leave _ (nOk6 hb hn) j (by omega) h2).2
        simp (disch := omega) only [jb_some, jli, jif, jd_q, jd_K0, jpi_s, jpi_l, jpi_p, jpl_s, jpl_i, jpl_p, if_true, if_false, if_pos, if_neg, not_true_eq_false, not_false_eq_true, ite_true, ite_false, Nat.not_lt_zero, eq_self, Nat.le_refl, Nat.lt_irrefl, Bool.false_eq_true, or0, jo_pi, jo_pl, jia_pi, jia_pl, jo_cpy, jia_cpy, cpy_r, m_X11_grant, m_X11_refuse, m_X13_good, m_X13_refused, reduceCtorEq, nI_add, nI_leI, nI_ltI, nI_eq, pk_mul, abs_nI, max_nI, min_nI, nI_m1, nI_m2, nI_le1, m1_lt, m2_lt, or_nI, an_nI, has_nI, bit_nI, bc_nI, bits_nI, lx0, lx1, lx2, lx3, lx4, lx5, lx6, lx7, lx8, lx9, lx10, lx11, lx16, lx20, lx40, lx60, lx90, lx99, lx100, lx200, lx900, lx999, lx9999, jo_118 hW, ja_119 hW, ja_120 hW, ja_121 hW, ja_122 hW, ja_123 hW, ja_124 hW, ja_125 hW, ja_126 hW, ja_127 hW, ja_128 hW, ja_129 hW, wr_118_5 hW, wr_118_15 hW, wr_118_16 hW, wr_118_17 hW, wr_118_18 hW, wr_118_21 hW, wr_118_22 hW, wr_118_23 hW, wr_118_25 hW, wr_118_26 hW, wr_118_27 hW, n_01, n_11, ePo, hj, Option.isSome, m_X13_granted, e1, h2, e6, m6, e7, ja_120 hW6, wr_118_15 hW6]
        exact MR_gd h0 (Fr_pi (Fr_mono F6 (fun a k h => DRN h) fun _ h => h) (by unfold DN; omega)) (fun _ _ h => h) (N' := uN N 6 (N 6 - 2 ^ j)) ⟨fun p hp => by
          rw [pi_ne _ _ (by omega), uN_n _ _ (by omega)]
          exact hV6.1 p hp, pi_eq _ _ _ _, (pi_ne _ _ (by omega)).trans hV6.2.2.1, (pi_ne _ _ (by omega)).trans hV6.2.2.2⟩ (nOk_6 hn (Nat.lt_of_le_of_lt (Nat.sub_le _ _) hn.2.1)) (PM_of hP6 hb2 (pi_ne _ _ (by omega)) (pi_ne _ _ (by omega)) fun a k h => pi_ne _ _ (by omega)) _
      · rw [Bool.not_eq_true] at h2
        simp (disch := omega) only [jb_some, jli, jif, jd_q, jd_K0, jpi_s, jpi_l, jpi_p, jpl_s, jpl_i, jpl_p, if_true, if_false, if_pos, if_neg, not_true_eq_false, not_false_eq_true, ite_true, ite_false, Nat.not_lt_zero, eq_self, Nat.le_refl, Nat.lt_irrefl, Bool.false_eq_true, or0, jo_pi, jo_pl, jia_pi, jia_pl, jo_cpy, jia_cpy, cpy_r, m_X11_grant, m_X11_refuse, m_X13_good, m_X13_refused, reduceCtorEq, nI_add, nI_leI, nI_ltI, nI_eq, pk_mul, abs_nI, max_nI, min_nI, nI_m1, nI_m2, nI_le1, m1_lt, m2_lt, or_nI, an_nI, has_nI, bit_nI, bc_nI, bits_nI, lx0, lx1, lx2, lx3, lx4, lx5, lx6, lx7, lx8, lx9, lx10, lx11, lx16, lx20, lx40, lx60, lx90, lx99, lx100, lx200, lx900, lx999, lx9999, jo_118 hW, ja_119 hW, ja_120 hW, ja_121 hW, ja_122 hW, ja_123 hW, ja_124 hW, ja_125 hW, ja_126 hW, ja_127 hW, ja_128 hW, ja_129 hW, wr_118_5 hW, wr_118_15 hW, wr_118_16 hW, wr_118_17 hW, wr_118_18 hW, wr_118_21 hW, wr_118_22 hW, wr_118_23 hW, wr_118_25 hW, wr_118_26 hW, wr_118_27 hW, n_01, n_11, ePo, hj, Option.isSome, m_X13_denied, e1, h2]
        exact ZS_tr h0 _ (by decide)
set_option maxHeartbeats 2000000 in
theorem ZM_seat {z : Zt} {σ : jd_Hp} (h : MR z σ) (hz : HZ z) (p : Int32) (pl : Int32) : ZS (m_X13_seat 118 p pl σ) (z_seat z p pl) σ := by
  have h0 := MR_0 h
  have hz0 := hz
  unfold m_X13_seat
  rw [jli]
  refine ZS_0 ?_
  have e118 : (jd_pi σ 118 0 0).2.1 118 0 = nI 0 := pi_eq _ _ _ _
  generalize jd_pi σ 118 0 0 = τ at *
  clear h
  obtain ⟨o, ⟨na, H⟩, ⟨ni, I⟩, ⟨tl, tp⟩, fl, wh, tr⟩ := z
  have h1 := h0
  obtain ⟨b, ⟨hW, hR⟩, hP, hTM, f1, f2, f3⟩ := h1
  obtain ⟨z1, z2, z3, z4, z5⟩ := hz
  rcases o with _ | ⟨B, N⟩
  · have hS : τ.2.2.2 118 3 = none := hR
    obtain ⟨rfl, rfl⟩ : na = 0 ∧ ni = 0 := z5
    show ZS _ (z_seat (none, (0, H), (0, I), (tl, tp), fl, wh, tr) p pl) τ
    unfold z_seat
    simp (disch := omega) only [jb_some, jli, jif, jd_q, jd_K0, jpi_s, jpi_l, jpi_p, jpl_s, jpl_i, jpl_p, if_true, if_false, if_pos, if_neg, not_true_eq_false, not_false_eq_true, ite_true, ite_false, Nat.not_lt_zero, eq_self, Nat.le_refl, Nat.lt_irrefl, Bool.false_eq_true, or0, jo_pi, jo_pl, jia_pi, jia_pl, jo_cpy, jia_cpy, cpy_r, m_X11_grant, m_X11_refuse, m_X13_good, m_X13_refused, reduceCtorEq, nI_add, nI_leI, nI_ltI, nI_eq, pk_mul, abs_nI, max_nI, min_nI, nI_m1, nI_m2, nI_le1, m1_lt, m2_lt, or_nI, an_nI, has_nI, bit_nI, bc_nI, bits_nI, lx0, lx1, lx2, lx3, lx4, lx5, lx6, lx7, lx8, lx9, lx10, lx11, lx16, lx20, lx40, lx60, lx90, lx99, lx100, lx200, lx900, lx999, lx9999, jo_118 hW, ja_119 hW, ja_120 hW, ja_121 hW, ja_122 hW, ja_123 hW, ja_124 hW, ja_125 hW, ja_126 hW, ja_127 hW, ja_128 hW, ja_129 hW, wr_118_5 hW, wr_118_15 hW, wr_118_16 hW, wr_118_17 hW, wr_118_18 hW, wr_118_21 hW, wr_118_22 hW, wr_118_23 hW, wr_118_25 hW, wr_118_26 hW, wr_118_27 hW, n_01, n_11, hS, m_X13_isPerson, m_X13_isPost, m_X13_changes, m_X13_denied]
    exact ZS_tr h0 _ (by decide)
  · obtain ⟨hS, hC, hV, hb, hn⟩ : τ.2.2.2 118 3 = some b ∧ MT B b τ ∧ MV B N τ ∧ bOk B ∧ nOk B N := hR
    have hb2 := hb.2.1
    have hb3 := hb.2.2.1
    have ePe := y_isPerson hS hC hb
    have ePo := y_isPost hS hC hb
    have hP : PM (B 8 3) na H ni I τ := hP
    have z5 : (∀ k, k < na → nOk B (H k)) ∧ ∀ i, i < ni → nOk B (I i) := z5
    show ZS _ (z_seat (some (B, N), (na, H), (ni, I), (tl, tp), fl, wh, tr) p pl) τ
    unfold z_seat
    rcases hj : ixN p (B 8 3) with _ | j
    · simp (disch := omega) only [jb_some, jli, jif, jd_q, jd_K0, jpi_s, jpi_l, jpi_p, jpl_s, jpl_i, jpl_p, if_true, if_false, if_pos, if_neg, not_true_eq_false, not_false_eq_true, ite_true, ite_false, Nat.not_lt_zero, eq_self, Nat.le_refl, Nat.lt_irrefl, Bool.false_eq_true, or0, jo_pi, jo_pl, jia_pi, jia_pl, jo_cpy, jia_cpy, cpy_r, m_X11_grant, m_X11_refuse, m_X13_good, m_X13_refused, reduceCtorEq, nI_add, nI_leI, nI_ltI, nI_eq, pk_mul, abs_nI, max_nI, min_nI, nI_m1, nI_m2, nI_le1, m1_lt, m2_lt, and_nI, or_nI, an_nI, has_nI, bit_nI, bc_nI, bits_nI, lx0, lx1, lx2, lx3, lx4, lx5, lx6, lx7, lx8, lx9, lx10, lx11, lx16, lx20, lx40, lx60, lx90, lx99, lx100, lx200, lx900, lx999, lx9999, jo_118 hW, ja_119 hW, ja_120 hW, ja_121 hW, ja_122 hW, ja_123 hW, ja_124 hW, ja_125 hW, ja_126 hW, ja_127 hW, ja_128 hW, ja_129 hW, wr_118_5 hW, wr_118_15 hW, wr_118_16 hW, wr_118_17 hW, wr_118_18 hW, wr_118_21 hW, wr_118_22 hW, wr_118_23 hW, wr_118_25 hW, wr_118_26 hW, wr_118_27 hW, ePe, hj, Option.isSome]
      exact ZS_tr h0 _ (by decide)
    · obtain ⟨h1, rfl⟩ := ixN_some hj
      have eI := fun (σ : jd_Hp) => y_in (σ := σ) pl 0 99 (by decide) (by decide)
      rcases hk : rgN pl 0 99 with _ | k
      · simp (disch := omega) only [jb_some, jli, jif, jd_q, jd_K0, jpi_s, jpi_l, jpi_p, jpl_s, jpl_i, jpl_p, if_true, if_false, if_pos, if_neg, not_true_eq_false, not_false_eq_true, ite_true, ite_false, Nat.not_lt_zero, eq_self, Nat.le_refl, Nat.lt_irrefl, Bool.false_eq_true, or0, jo_pi, jo_pl, jia_pi, jia_pl, jo_cpy, jia_cpy, cpy_r, m_X11_grant, m_X11_refuse, m_X13_good, m_X13_refused, reduceCtorEq, nI_add, nI_leI, nI_ltI, nI_eq, pk_mul, abs_nI, max_nI, min_nI, nI_m1, nI_m2, nI_le1, m1_lt, m2_lt, and_nI, or_nI, an_nI, has_nI, bit_nI, bc_nI, bits_nI, lx0, lx1, lx2, lx3, lx4, lx5, lx6, lx7, lx8, lx9, lx10, lx11, lx16, lx20, lx40, lx60, lx90, lx99, lx100, lx200, lx900, lx999, lx9999, jo_118 hW, ja_119 hW, ja_120 hW, ja_121 hW, ja_122 hW, ja_123 hW, ja_124 hW, ja_125 hW, ja_126 hW, ja_127 hW, ja_128 hW, ja_129 hW, wr_118_5 hW, wr_118_15 hW, wr_118_16 hW, wr_118_17 hW, wr_118_18 hW, wr_118_21 hW, wr_118_22 hW, wr_118_23 hW, wr_118_25 hW, wr_118_26 hW, wr_118_27 hW, ePe, hj, eI, hk, Option.isSome]
        exact ZS_tr h0 _ (by decide)
      · obtain ⟨rfl, -, h3⟩ := rgN_some (by decide) hk (by decide)
        have e1 : τ.2.1 120 j = nI (N j) := hV.1 j h1
        have e2 := hn.1 j (by omega)
        by_cases h4 : N j = k
        · simp (disch := omega) only [jb_some, jli, jif, jd_q, jd_K0, jpi_s, jpi_l, jpi_p, jpl_s, jpl_i, jpl_p, if_true, if_false, if_pos, if_neg, not_true_eq_false, not_false_eq_true, ite_true, ite_false, Nat.not_lt_zero, eq_self, Nat.le_refl, Nat.lt_irrefl, Bool.false_eq_true, or0, jo_pi, jo_pl, jia_pi, jia_pl, jo_cpy, jia_cpy, cpy_r, m_X11_grant, m_X11_refuse, m_X13_good, m_X13_refused, reduceCtorEq, nI_add, nI_leI, nI_ltI, nI_eq, pk_mul, abs_nI, max_nI, min_nI, nI_m1, nI_m2, nI_le1, m1_lt, m2_lt, and_nI, or_nI, an_nI, has_nI, bit_nI, bc_nI, bits_nI, lx0, lx1, lx2, lx3, lx4, lx5, lx6, lx7, lx8, lx9, lx10, lx11, lx16, lx20, lx40, lx60, lx90, lx99, lx100, lx200, lx900, lx999, lx9999, jo_118 hW, ja_119 hW, ja_120 hW, ja_121 hW, ja_122 hW, ja_123 hW, ja_124 hW, ja_125 hW, ja_126 hW, ja_127 hW, ja_128 hW, ja_129 hW, wr_118_5 hW, wr_118_15 hW, wr_118_16 hW, wr_118_17 hW, wr_118_18 hW, wr_118_21 hW, wr_118_22 hW, wr_118_23 hW, wr_118_25 hW, wr_118_26 hW, wr_118_27 hW, ePe, hj, eI, hk, Option.isSome, e1, h4]
          exact ZS_tr h0 _ (by decide)
        · obtain ⟨σ6, e6, hP6, F6⟩ := y_remembers hW hP (MV_sc hV) hb2 z1 z2
          have hV6 := MV_of hV fun k => F6.2.2.1 120 k (by unfold DR; omega)
          have F7 : Fr DN L0 τ (jd_pi σ6 120 j (nI k)) := Fr_pi (Fr_mono F6 (fun a k h => DRN h) fun _ h => h) (by unfold DN; omega)
          have hW6 := Fr_Wd F6 hW
          have hW7 := Fr_Wd F7 hW
          have hV7 : MV B (uN N j k) (jd_pi σ6 120 j (nI k)) := ⟨fun p hp => by
            by_cases hpj : p = j
            · rw [hpj, pi_eq, uN_e]
            · rw [pi_ne _ _ (by omega), uN_n _ _ hpj]
              exact hV6.1 p hp, by
            rw [pi_ne _ _ (by omega), uN_n _ _ (by omega)]
            exact hV6.2.1, by
            rw [pi_ne _ _ (by omega), uN_n _ _ (by omega)]
            exact hV6.2.2.1, by
            rw [pi_ne _ _ (by omega), uN_n _ _ (by omega)]
            exact hV6.2.2.2⟩
          have hn7 := nOk_p hn (j := j) (v := k) (by omega) h3
          have hC7 := MT_fr2 hC F7 fun _ _ h => h
          have hS7 : (jd_pi σ6 120 j (nI k)).2.2.2 118 3 = some b := by
            rw [F7.2.1]
            exact hS
          have hP7 : PM (B 8 3) (min (na + 1) 16) (hc N H) ni I (jd_pi σ6 120 j (nI k)) := PM_of hP6 hb2 (pi_ne _ _ (by omega)) (pi_ne _ _ (by omega)) fun a k h => pi_ne _ _ (by omega)
          simp (disch := omega) only [jb_some, jli, jif, jd_q, jd_K0, jpi_s, jpi_l, jpi_p, jpl_s, jpl_i, jpl_p, if_true, if_false, if_pos, if_neg, not_true_eq_false, not_false_eq_true, ite_true, ite_false, Nat.not_lt_zero, eq_self, Nat.le_refl, Nat.lt_irrefl, Bool.false_eq_true, or0, jo_pi, jo_pl, jia_pi, jia_pl, jo_cpy, jia_cpy, cpy_r, m_X11_grant, m_X11_refuse, m_X13_good, m_X13_refused, reduceCtorEq, nI_add, nI_leI, nI_ltI, nI_eq, pk_mul, abs_nI, max_nI, min_nI, nI_m1, nI_m2, nI_le1, m1_lt, m2_lt, and_nI, or_nI, an_nI, has_nI, bit_nI, bc_nI, bits_nI, lx0, lx1, lx2, lx3, lx4, lx5, lx6, lx7, lx8, lx9, lx10, lx11, lx16, lx20, lx40, lx60, lx90, lx99, lx100, lx200, lx900, lx999, lx9999, jo_118 hW, ja_119 hW, ja_120 hW, ja_121 hW, ja_122 hW, ja_123 hW, ja_124 hW, ja_125 hW, ja_126 hW, ja_127 hW, ja_128 hW, ja_129 hW, wr_118_5 hW, wr_118_15 hW, wr_118_16 hW, wr_118_17 hW, wr_118_18 hW, wr_118_21 hW, wr_118_22 hW, wr_118_23 hW, wr_118_25 hW, wr_118_26 hW, wr_118_27 hW, ePe, hj, eI, hk, Option.isSome, e1, h4, e6, ja_120 hW6, wr_118_15 hW6]
          generalize jd_pi σ6 120 j (nI k) = σ7 at *
          have eW := y_works hW7
          have hA := wk_MA hW7 hS7 hC7 hV7 hb
          have e8 := y_sinksAt hA hb hn7 h1
          have e9 : ∀ {σ : jd_Hp}, m_X13_orNobody (nI (mz (sink B (uN N j k) j))) σ = some (cs (sink B (uN N j k) j), σ) := fun {σ} => by
            unfold m_X13_orNobody
            rcases hs : sink B (uN N j k) j with _ | t
            · rfl
            · have := sink_le hb hs
              rw [jif]
              show (if ¬ nI t = 9999 then _ else _) = _
              rw [lx9999, if_pos (by rw [nI_eq (by omega) (by omega)]; omega)]
              rfl
          simp (disch := omega) only [jb_some, jli, jif, jd_q, jd_K0, jpi_s, jpi_l, jpi_p, jpl_s, jpl_i, jpl_p, if_true, if_false, if_pos, if_neg, not_true_eq_false, not_false_eq_true, ite_true, ite_false, Nat.not_lt_zero, eq_self, Nat.le_refl, Nat.lt_irrefl, Bool.false_eq_true, or0, jo_pi, jo_pl, jia_pi, jia_pl, jo_cpy, jia_cpy, cpy_r, m_X11_grant, m_X11_refuse, m_X13_good, m_X13_refused, reduceCtorEq, nI_add, nI_leI, nI_ltI, nI_eq, pk_mul, abs_nI, max_nI, min_nI, nI_m1, nI_m2, nI_le1, m1_lt, m2_lt, and_nI, or_nI, an_nI, has_nI, bit_nI, bc_nI, bits_nI, lx0, lx1, lx2, lx3, lx4, lx5, lx6, lx7, lx8, lx9, lx10, lx11, lx16, lx20, lx40, lx60, lx90, lx99, lx100, lx200, lx900, lx999, lx9999, jo_118 hW, ja_119 hW, ja_120 hW, ja_121 hW, ja_122 hW, ja_123 hW, ja_124 hW, ja_125 hW, ja_126 hW, ja_127 hW, ja_128 hW, ja_129 hW, wr_118_5 hW, wr_118_15 hW, wr_118_16 hW, wr_118_17 hW, wr_118_18 hW, wr_118_21 hW, wr_118_22 hW, wr_118_23 hW, wr_118_25 hW, wr_118_26 hW, wr_118_27 hW, eW, e8, e9]
          exact MR_gd h0 (Fr_tr F7 (Fr_mono (wk_fr2 σ7) (fun a k h => Or.inr (by omega)) fun _ h => h)) (fun _ _ h => h) (wk_MV hV7) hn7 (PM_wk hP7 hb2) _
set_option maxHeartbeats 2000000 in
theorem ZM_minute {z : Zt} {σ : jd_Hp} (h : MR z σ) (hz : HZ z) (n : Int32) : ZS (m_X13_minute 118 n σ) (z_minute z n) σ := by
  have h0 := MR_0 h
  have hz0 := hz
  unfold m_X13_minute
  rw [jli]
  refine ZS_0 ?_
  have e118 : (jd_pi σ 118 0 0).2.1 118 0 = nI 0 := pi_eq _ _ _ _
  generalize jd_pi σ 118 0 0 = τ at *
  clear h
  obtain ⟨o, ⟨na, H⟩, ⟨ni, I⟩, ⟨tl, tp⟩, fl, wh, tr⟩ := z
  have h1 := h0
  obtain ⟨b, ⟨hW, hR⟩, hP, hTM, f1, f2, f3⟩ := h1
  obtain ⟨z1, z2, z3, z4, z5⟩ := hz
  rcases o with _ | ⟨B, N⟩
  · have hS : τ.2.2.2 118 3 = none := hR
    obtain ⟨rfl, rfl⟩ : na = 0 ∧ ni = 0 := z5
    show ZS _ (z_minute (none, (0, H), (0, I), (tl, tp), fl, wh, tr) n) τ
    unfold z_minute
    simp (disch := omega) only [jb_some, jli, jif, jd_q, jd_K0, jpi_s, jpi_l, jpi_p, jpl_s, jpl_i, jpl_p, if_true, if_false, if_pos, if_neg, not_true_eq_false, not_false_eq_true, ite_true, ite_false, Nat.not_lt_zero, eq_self, Nat.le_refl, Nat.lt_irrefl, Bool.false_eq_true, or0, jo_pi, jo_pl, jia_pi, jia_pl, jo_cpy, jia_cpy, cpy_r, m_X11_grant, m_X11_refuse, m_X13_good, m_X13_refused, reduceCtorEq, nI_add, nI_leI, nI_ltI, nI_eq, pk_mul, abs_nI, max_nI, min_nI, nI_m1, nI_m2, nI_le1, m1_lt, m2_lt, or_nI, an_nI, has_nI, bit_nI, bc_nI, bits_nI, lx0, lx1, lx2, lx3, lx4, lx5, lx6, lx7, lx8, lx9, lx10, lx11, lx16, lx20, lx40, lx60, lx90, lx99, lx100, lx200, lx900, lx999, lx9999, jo_118 hW, ja_119 hW, ja_120 hW, ja_121 hW, ja_122 hW, ja_123 hW, ja_124 hW, ja_125 hW, ja_126 hW, ja_127 hW, ja_128 hW, ja_129 hW, wr_118_5 hW, wr_118_15 hW, wr_118_16 hW, wr_118_17 hW, wr_118_18 hW, wr_118_21 hW, wr_118_22 hW, wr_118_23 hW, wr_118_25 hW, wr_118_26 hW, wr_118_27 hW, n_01, n_11, hS, m_X13_isPerson, m_X13_isPost, m_X13_changes, m_X13_denied]
    exact ZS_tr h0 _ (by decide)
  · obtain ⟨hS, hC, hV, hb, hn⟩ : τ.2.2.2 118 3 = some b ∧ MT B b τ ∧ MV B N τ ∧ bOk B ∧ nOk B N := hR
    have hb2 := hb.2.1
    have hb3 := hb.2.2.1
    have ePe := y_isPerson hS hC hb
    have ePo := y_isPost hS hC hb
    have hP : PM (B 8 3) na H ni I τ := hP
    have z5 : (∀ k, k < na → nOk B (H k)) ∧ ∀ i, i < ni → nOk B (I i) := z5
    show ZS _ (z_minute (some (B, N), (na, H), (ni, I), (tl, tp), fl, wh, tr) n) τ
    unfold z_minute
    have eI := fun (σ : jd_Hp) => y_in (σ := σ) n 1 60 (by decide) (by decide)
    rcases hk : rgN n 1 60 with _ | k
    · simp (disch := omega) only [jb_some, jli, jif, jd_q, jd_K0, jpi_s, jpi_l, jpi_p, jpl_s, jpl_i, jpl_p, if_true, if_false, if_pos, if_neg, not_true_eq_false, not_false_eq_true, ite_true, ite_false, Nat.not_lt_zero, eq_self, Nat.le_refl, Nat.lt_irrefl, Bool.false_eq_true, or0, jo_pi, jo_pl, jia_pi, jia_pl, jo_cpy, jia_cpy, cpy_r, m_X11_grant, m_X11_refuse, m_X13_good, m_X13_refused, reduceCtorEq, nI_add, nI_leI, nI_ltI, nI_eq, pk_mul, abs_nI, max_nI, min_nI, nI_m1, nI_m2, nI_le1, m1_lt, m2_lt, and_nI, or_nI, an_nI, has_nI, bit_nI, bc_nI, bits_nI, lx0, lx1, lx2, lx3, lx4, lx5, lx6, lx7, lx8, lx9, lx10, lx11, lx16, lx20, lx40, lx60, lx90, lx99, lx100, lx200, lx900, lx999, lx9999, jo_118 hW, ja_119 hW, ja_120 hW, ja_121 hW, ja_122 hW, ja_123 hW, ja_124 hW, ja_125 hW, ja_126 hW, ja_127 hW, ja_128 hW, ja_129 hW, wr_118_5 hW, wr_118_15 hW, wr_118_16 hW, wr_118_17 hW, wr_118_18 hW, wr_118_21 hW, wr_118_22 hW, wr_118_23 hW, wr_118_25 hW, wr_118_26 hW, wr_118_27 hW, hS, reduceCtorEq, eI, hk, Option.isSome]
      exact ZS_tr h0 _ (by decide)
    · obtain ⟨rfl, h2, h3⟩ := rgN_some (by decide) hk (by decide)
      have e1 : τ.2.1 120 8 = nI (N 8) := hV.2.2.2
      have e2 := hn.2.2.2
      by_cases h4 : N 8 + k ≤ 999
      · obtain ⟨σ6, e6, hP6, F6⟩ := y_remembers hW hP (MV_sc hV) hb2 z1 z2
        have hV6 := MV_of hV fun k => F6.2.2.1 120 k (by unfold DR; omega)
        have m6 : σ6.2.1 120 8 = nI (N 8) := hV6.2.2.2
        have F7 : Fr DN L0 τ (jd_pi σ6 120 8 (nI (N 8 + k))) := Fr_pi (Fr_mono F6 (fun a k h => DRN h) fun _ h => h) (by unfold DN; omega)
        have hW6 := Fr_Wd F6 hW
        have hW7 := Fr_Wd F7 hW
        have hV7 : MV B (uN N 8 (N 8 + k)) (jd_pi σ6 120 8 (nI (N 8 + k))) := ⟨fun p hp => by
          rw [pi_ne _ _ (by omega), uN_n _ _ (by omega)]
          exact hV6.1 p hp, (pi_ne _ _ (by omega)).trans hV6.2.1, (pi_ne _ _ (by omega)).trans hV6.2.2.1, pi_eq _ _ _ _⟩
        have hn7 := nOk_8 hn h4
        have hC7 := MT_fr2 hC F7 fun _ _ h => h
        have hS7 : (jd_pi σ6 120 8 (nI (N 8 + k))).2.2.2 118 3 = some b := by
          rw [F7.2.1]
          exact hS
        have hP7 : PM (B 8 3) (min (na + 1) 16) (hc N H) ni I (jd_pi σ6 120 8 (nI (N 8 + k))) := PM_of hP6 hb2 (pi_ne _ _ (by omega)) (pi_ne _ _ (by omega)) fun a k h => pi_ne _ _ (by omega)
        simp (disch := omega) only [jb_some, jli, jif, jd_q, jd_K0, jpi_s, jpi_l, jpi_p, jpl_s, jpl_i, jpl_p, if_true, if_false, if_pos, if_neg, not_true_eq_false, not_false_eq_true, ite_true, ite_false, Nat.not_lt_zero, eq_self, Nat.le_refl, Nat.lt_irrefl, Bool.false_eq_true, or0, jo_pi, jo_pl, jia_pi, jia_pl, jo_cpy, jia_cpy, cpy_r, m_X11_grant, m_X11_refuse, m_X13_good, m_X13_refused, reduceCtorEq, nI_add, nI_leI, nI_ltI, nI_eq, pk_mul, abs_nI, max_nI, min_nI, nI_m1, nI_m2, nI_le1, m1_lt, m2_lt, and_nI, or_nI, an_nI, has_nI, bit_nI, bc_nI, bits_nI, lx0, lx1, lx2, lx3, lx4, lx5, lx6, lx7, lx8, lx9, lx10, lx11, lx16, lx20, lx40, lx60, lx90, lx99, lx100, lx200, lx900, lx999, lx9999, jo_118 hW, ja_119 hW, ja_120 hW, ja_121 hW, ja_122 hW, ja_123 hW, ja_124 hW, ja_125 hW, ja_126 hW, ja_127 hW, ja_128 hW, ja_129 hW, wr_118_5 hW, wr_118_15 hW, wr_118_16 hW, wr_118_17 hW, wr_118_18 hW, wr_118_21 hW, wr_118_22 hW, wr_118_23 hW, wr_118_25 hW, wr_118_26 hW, wr_118_27 hW, hS, reduceCtorEq, eI, hk, Option.isSome, e1, h4, e6, m6, ja_120 hW6, wr_118_15 hW6]
        generalize jd_pi σ6 120 8 (nI (N 8 + k)) = σ7 at *
        have eW := y_works hW7
        have hA := wk_MA hW7 hS7 hC7 hV7 hb
        have e8 := y_underAt hA hb hn7 (m := N 8 + k) (by omega)
        have m8 : (wk σ7).2.1 120 8 = nI (N 8 + k) := (wk_MV hV7).2.2.2
        have hW8 := hA.1
        simp (disch := omega) only [jb_some, jli, jif, jd_q, jd_K0, jpi_s, jpi_l, jpi_p, jpl_s, jpl_i, jpl_p, if_true, if_false, if_pos, if_neg, not_true_eq_false, not_false_eq_true, ite_true, ite_false, Nat.not_lt_zero, eq_self, Nat.le_refl, Nat.lt_irrefl, Bool.false_eq_true, or0, jo_pi, jo_pl, jia_pi, jia_pl, jo_cpy, jia_cpy, cpy_r, m_X11_grant, m_X11_refuse, m_X13_good, m_X13_refused, reduceCtorEq, nI_add, nI_leI, nI_ltI, nI_eq, pk_mul, abs_nI, max_nI, min_nI, nI_m1, nI_m2, nI_le1, m1_lt, m2_lt, and_nI, or_nI, an_nI, has_nI, bit_nI, bc_nI, bits_nI, lx0, lx1, lx2, lx3, lx4, lx5, lx6, lx7, lx8, lx9, lx10, lx11, lx16, lx20, lx40, lx60, lx90, lx99, lx100, lx200, lx900, lx999, lx9999, jo_118 hW, ja_119 hW, ja_120 hW, ja_121 hW, ja_122 hW, ja_123 hW, ja_124 hW, ja_125 hW, ja_126 hW, ja_127 hW, ja_128 hW, ja_129 hW, wr_118_5 hW, wr_118_15 hW, wr_118_16 hW, wr_118_17 hW, wr_118_18 hW, wr_118_21 hW, wr_118_22 hW, wr_118_23 hW, wr_118_25 hW, wr_118_26 hW, wr_118_27 hW, eW, m8, e8, ja_120 hW8, wr_118_15 hW8]
        exact MR_gd h0 (Fr_tr F7 (Fr_mono (wk_fr2 σ7) (fun a k h => Or.inr (by omega)) fun _ h => h)) (fun _ _ h => h) (wk_MV hV7) hn7 (PM_wk hP7 hb2) _
      · simp (disch := omega) only [jb_some, jli, jif, jd_q, jd_K0, jpi_s, jpi_l, jpi_p, jpl_s, jpl_i, jpl_p, if_true, if_false, if_pos, if_neg, not_true_eq_false, not_false_eq_true, ite_true, ite_false, Nat.not_lt_zero, eq_self, Nat.le_refl, Nat.lt_irrefl, Bool.false_eq_true, or0, jo_pi, jo_pl, jia_pi, jia_pl, jo_cpy, jia_cpy, cpy_r, m_X11_grant, m_X11_refuse, m_X13_good, m_X13_refused, reduceCtorEq, nI_add, nI_leI, nI_ltI, nI_eq, pk_mul, abs_nI, max_nI, min_nI, nI_m1, nI_m2, nI_le1, m1_lt, m2_lt, and_nI, or_nI, an_nI, has_nI, bit_nI, bc_nI, bits_nI, lx0, lx1, lx2, lx3, lx4, lx5, lx6, lx7, lx8, lx9, lx10, lx11, lx16, lx20, lx40, lx60, lx90, lx99, lx100, lx200, lx900, lx999, lx9999, jo_118 hW, ja_119 hW, ja_120 hW, ja_121 hW, ja_122 hW, ja_123 hW, ja_124 hW, ja_125 hW, ja_126 hW, ja_127 hW, ja_128 hW, ja_129 hW, wr_118_5 hW, wr_118_15 hW, wr_118_16 hW, wr_118_17 hW, wr_118_18 hW, wr_118_21 hW, wr_118_22 hW, wr_118_23 hW, wr_118_25 hW, wr_118_26 hW, wr_118_27 hW, hS, reduceCtorEq, eI, hk, Option.isSome, e1, h4]
        exact ZS_tr h0 _ (by decide)
set_option maxHeartbeats 2000000 in
theorem ZM_lift {z : Zt} {σ : jd_Hp} (h : MR z σ) (hz : HZ z) (p : Int32) : ZS (m_X13_lift 118 p σ) (z_lift z p) σ := by
  have h0 := MR_0 h
  have hz0 := hz
  unfold m_X13_lift
  rw [jli]
  refine ZS_0 ?_
  have e118 : (jd_pi σ 118 0 0).2.1 118 0 = nI 0 := pi_eq _ _ _ _
  generalize jd_pi σ 118 0 0 = τ at *
  clear h
  obtain ⟨o, ⟨na, H⟩, ⟨ni, I⟩, ⟨tl, tp⟩, fl, wh, tr⟩ := z
  have h1 := h0
  obtain ⟨b, ⟨hW, hR⟩, hP, hTM, f1, f2, f3⟩ := h1
  obtain ⟨z1, z2, z3, z4, z5⟩ := hz
  rcases o with _ | ⟨B, N⟩
  · have hS : τ.2.2.2 118 3 = none := hR
    obtain ⟨rfl, rfl⟩ : na = 0 ∧ ni = 0 := z5
    show ZS _ (z_lift (none, (0, H), (0, I), (tl, tp), fl, wh, tr) p) τ
    unfold z_lift
    simp (disch := omega) only [jb_some, jli, jif, jd_q, jd_K0, jpi_s, jpi_l, jpi_p, jpl_s, jpl_i, jpl_p, if_true, if_false, if_pos, if_neg, not_true_eq_false, not_false_eq_true, ite_true, ite_false, Nat.not_lt_zero, eq_self, Nat.le_refl, Nat.lt_irrefl, Bool.false_eq_true, or0, jo_pi, jo_pl, jia_pi, jia_pl, jo_cpy, jia_cpy, cpy_r, m_X11_grant, m_X11_refuse, m_X13_good, m_X13_refused, reduceCtorEq, nI_add, nI_leI, nI_ltI, nI_eq, pk_mul, abs_nI, max_nI, min_nI, nI_m1, nI_m2, nI_le1, m1_lt, m2_lt, or_nI, an_nI, has_nI, bit_nI, bc_nI, bits_nI, lx0, lx1, lx2, lx3, lx4, lx5, lx6, lx7, lx8, lx9, lx10, lx11, lx16, lx20, lx40, lx60, lx90, lx99, lx100, lx200, lx900, lx999, lx9999, jo_118 hW, ja_119 hW, ja_120 hW, ja_121 hW, ja_122 hW, ja_123 hW, ja_124 hW, ja_125 hW, ja_126 hW, ja_127 hW, ja_128 hW, ja_129 hW, wr_118_5 hW, wr_118_15 hW, wr_118_16 hW, wr_118_17 hW, wr_118_18 hW, wr_118_21 hW, wr_118_22 hW, wr_118_23 hW, wr_118_25 hW, wr_118_26 hW, wr_118_27 hW, n_01, n_11, hS, m_X13_isPerson, m_X13_isPost, m_X13_changes, m_X13_denied]
    exact ZS_tr h0 _ (by decide)
  · obtain ⟨hS, hC, hV, hb, hn⟩ : τ.2.2.2 118 3 = some b ∧ MT B b τ ∧ MV B N τ ∧ bOk B ∧ nOk B N := hR
    have hb2 := hb.2.1
    have hb3 := hb.2.2.1
    have ePe := y_isPerson hS hC hb
    have ePo := y_isPost hS hC hb
    have hP : PM (B 8 3) na H ni I τ := hP
    have z5 : (∀ k, k < na → nOk B (H k)) ∧ ∀ i, i < ni → nOk B (I i) := z5
    show ZS _ (z_lift (some (B, N), (na, H), (ni, I), (tl, tp), fl, wh, tr) p) τ
    unfold z_lift
    rcases hj : ixN p (B 8 3) with _ | j
    · simp (disch := omega) only [jb_some, jli, jif, jd_q, jd_K0, jpi_s, jpi_l, jpi_p, jpl_s, jpl_i, jpl_p, if_true, if_false, if_pos, if_neg, not_true_eq_false, not_false_eq_true, ite_true, ite_false, Nat.not_lt_zero, eq_self, Nat.le_refl, Nat.lt_irrefl, Bool.false_eq_true, or0, jo_pi, jo_pl, jia_pi, jia_pl, jo_cpy, jia_cpy, cpy_r, m_X11_grant, m_X11_refuse, m_X13_good, m_X13_refused, reduceCtorEq, nI_add, nI_leI, nI_ltI, nI_eq, pk_mul, abs_nI, max_nI, min_nI, nI_m1, nI_m2, nI_le1, m1_lt, m2_lt, and_nI, or_nI, an_nI, has_nI, bit_nI, bc_nI, bits_nI, lx0, lx1, lx2, lx3, lx4, lx5, lx6, lx7, lx8, lx9, lx10, lx11, lx16, lx20, lx40, lx60, lx90, lx99, lx100, lx200, lx900, lx999, lx9999, jo_118 hW, ja_119 hW, ja_120 hW, ja_121 hW, ja_122 hW, ja_123 hW, ja_124 hW, ja_125 hW, ja_126 hW, ja_127 hW, ja_128 hW, ja_129 hW, wr_118_5 hW, wr_118_15 hW, wr_118_16 hW, wr_118_17 hW, wr_118_18 hW, wr_118_21 hW, wr_118_22 hW, wr_118_23 hW, wr_118_25 hW, wr_118_26 hW, wr_118_27 hW, ePe, hj, Option.isSome]
      exact ZS_tr h0 _ (by decide)
    · obtain ⟨h1, rfl⟩ := ixN_some hj
      have e2 := hn.2.2.2
      have eW := y_works hW
      have hA := wk_MA hW hS hC hV hb
      have hV8 := wk_MV hV
      have hP8 := PM_wk hP hb2
      have F8 : Fr DM L0 τ (wk τ) := wk_fr τ
      have F82 : Fr DN L0 τ (wk τ) := Fr_mono (wk_fr2 τ) (fun a k h => Or.inr (by omega)) fun _ h => h
      have e3 := y_underAt hA hb hn (m := N 8) (by omega)
      have e4 := y_nearestTo hA hV8 hb hn h1
      have e5 := fun q hq => y_timeTo hA hb hn (q := q) hq h1
      simp (disch := omega) only [jb_some, jli, jif, jd_q, jd_K0, jpi_s, jpi_l, jpi_p, jpl_s, jpl_i, jpl_p, if_true, if_false, if_pos, if_neg, not_true_eq_false, not_false_eq_true, ite_true, ite_false, Nat.not_lt_zero, eq_self, Nat.le_refl, Nat.lt_irrefl, Bool.false_eq_true, or0, jo_pi, jo_pl, jia_pi, jia_pl, jo_cpy, jia_cpy, cpy_r, m_X11_grant, m_X11_refuse, m_X13_good, m_X13_refused, reduceCtorEq, nI_add, nI_leI, nI_ltI, nI_eq, pk_mul, abs_nI, max_nI, min_nI, nI_m1, nI_m2, nI_le1, m1_lt, m2_lt, and_nI, or_nI, an_nI, has_nI, bit_nI, bc_nI, bits_nI, lx0, lx1, lx2, lx3, lx4, lx5, lx6, lx7, lx8, lx9, lx10, lx11, lx16, lx20, lx40, lx60, lx90, lx99, lx100, lx200, lx900, lx999, lx9999, jo_118 hW, ja_119 hW, ja_120 hW, ja_121 hW, ja_122 hW, ja_123 hW, ja_124 hW, ja_125 hW, ja_126 hW, ja_127 hW, ja_128 hW, ja_129 hW, wr_118_5 hW, wr_118_15 hW, wr_118_16 hW, wr_118_17 hW, wr_118_18 hW, wr_118_21 hW, wr_118_22 hW, wr_118_23 hW, wr_118_25 hW, wr_118_26 hW, wr_118_27 hW, ePe, hj, Option.isSome, eW]
      have hz8 : ∀ (v : Int32) (t : Nat), ¬ t = 4 → ZS (some (v, jd_pi (jd_pi (wk τ) 118 1 (nI t)) 118 2 (- nI 1))) (v, sTr (some (B, N), (na, H), (ni, I), (tl, tp), fl, wh, tr) t) τ := fun v t h4 => ZS_q h0 (r := (v, t)) (OM_of F8) h4
      generalize wk τ = σ8 at *
      obtain ⟨hW8, hS8, hC8, -⟩ := hA
      have m8 : σ8.2.1 120 8 = nI (N 8) := hV8.2.2.2
      have e31 := bN_64 (underC B N (N 8)) hb2
      have e32 : (bN (underC B N (N 8)) (B 8 3)).testBit j = underC B N (N 8) j := by
        rw [bN_test _ hb2 (by omega)]
        simp [h1]
      by_cases h2 : underC B N (N 8) j = true
      · rcases hx : nrO B N j with _ | x
        · rw [hx] at e4
          simp (disch := omega) only [jb_some, jli, jif, jd_q, jd_K0, jpi_s, jpi_l, jpi_p, jpl_s, jpl_i, jpl_p, if_true, if_false, if_pos, if_neg, not_true_eq_false, not_false_eq_true, ite_true, ite_false, Nat.not_lt_zero, eq_self, Nat.le_refl, Nat.lt_irrefl, Bool.false_eq_true, or0, jo_pi, jo_pl, jia_pi, jia_pl, jo_cpy, jia_cpy, cpy_r, m_X11_grant, m_X11_refuse, m_X13_good, m_X13_refused, reduceCtorEq, nI_add, nI_leI, nI_ltI, nI_eq, pk_mul, abs_nI, max_nI, min_nI, nI_m1, nI_m2, nI_le1, m1_lt, m2_lt, and_nI, or_nI, an_nI, has_nI, bit_nI, bc_nI, bits_nI, lx0, lx1, lx2, lx3, lx4, lx5, lx6, lx7, lx8, lx9, lx10, lx11, lx16, lx20, lx40, lx60, lx90, lx99, lx100, lx200, lx900, lx999, lx9999, m8, e3, e32, h2, e4, hx, oI, Option.elim, ja_120 hW8, wr_118_15 hW8]
          exact hz8 _ _ (by decide)
        · rw [hx] at e4
          obtain ⟨r1, r2, r3⟩ := nr_le hb hn h1 hx
          have e6 := e5 x.1 r1
          rw [← r2] at e6
          have e7 : σ8.2.1 b 0 = nI (B 8 0) := mb_s0 hC8
          have b5 := hb.2.2.2.2.1
          by_cases h3 : x.2 ≤ B 8 0
          · obtain ⟨σ9, e9, hP9, F9⟩ := y_remembers hW8 hP8 (MV_sc hV8) hb2 z1 z2
            have hW9 := Fr_Wd F9 hW8
            have hV9 := MV_of hV8 fun k => F9.2.2.1 120 k (by unfold DR; omega)
            have m9 : σ9.2.1 120 7 = nI (N 7) := hV9.2.2.1
            have e10 := fin_lift _ (nOk7 hb hn) j (by omega)
            simp (disch := omega) only [jb_some, jli, jif, jd_q, jd_K0, jpi_s, jpi_l, jpi_p, jpl_s, jpl_i, jpl_p, if_true, if_false, if_pos, if_neg, not_true_eq_false, not_false_eq_true, ite_true, ite_false, Nat.not_lt_zero, eq_self, Nat.le_refl, Nat.lt_irrefl, Bool.false_eq_true, or0, jo_pi, jo_pl, jia_pi, jia_pl, jo_cpy, jia_cpy, cpy_r, m_X11_grant, m_X11_refuse, m_X13_good, m_X13_refused, reduceCtorEq, nI_add, nI_leI, nI_ltI, nI_eq, pk_mul, abs_nI, max_nI, min_nI, nI_m1, nI_m2, nI_le1, m1_lt, m2_lt, and_nI, or_nI, an_nI, has_nI, bit_nI, bc_nI, bits_nI, lx0, lx1, lx2, lx3, lx4, lx5, lx6, lx7, lx8, lx9, lx10, lx11, lx16, lx20, lx40, lx60, lx90, lx99, lx100, lx200, lx900, lx999, lx9999, m8, e3, e32, h2, e4, hx, oI, Option.elim, e6, hS8, e7, h3, e9, m9, e10, mb_o hC8, ja_120 hW8, wr_118_15 hW8, ja_120 hW9, wr_118_15 hW9]
            exact MR_gd h0 (Fr_pi (Fr_tr F82 (Fr_mono F9 (fun a k h => DRN h) fun _ h => h)) (by unfold DN; omega)) (fun _ _ h => h) (N' := uN N 7 (N 7 ||| 2 ^ j)) ⟨fun p hp => by
              rw [pi_ne _ _ (by omega), uN_n _ _ (by omega)]
              exact hV9.1 p hp, (pi_ne _ _ (by omega)).trans hV9.2.1, pi_eq _ _ _ _, (pi_ne _ _ (by omega)).trans hV9.2.2.2⟩ (nOk_7 hn (or_pow hn.2.2.1 h1)) (PM_of hP9 hb2 (pi_ne _ _ (by omega)) (pi_ne _ _ (by omega)) fun a k h => pi_ne _ _ (by omega)) _
          · simp (disch := omega) only [jb_some, jli, jif, jd_q, jd_K0, jpi_s, jpi_l, jpi_p, jpl_s, jpl_i, jpl_p, if_true, if_false, if_pos, if_neg, not_true_eq_false, not_false_eq_true, ite_true, ite_false, Nat.not_lt_zero, eq_self, Nat.le_refl, Nat.lt_irrefl, Bool.false_eq_true, or0, jo_pi, jo_pl, jia_pi, jia_pl, jo_cpy, jia_cpy, cpy_r, m_X11_grant, m_X11_refuse, m_X13_good, m_X13_refused, reduceCtorEq, nI_add, nI_leI, nI_ltI, nI_eq, pk_mul, abs_nI, max_nI, min_nI, nI_m1, nI_m2, nI_le1, m1_lt, m2_lt, and_nI, or_nI, an_nI, has_nI, bit_nI, bc_nI, bits_nI, lx0, lx1, lx2, lx3, lx4, lx5, lx6, lx7, lx8, lx9, lx10, lx11, lx16, lx20, lx40, lx60, lx90, lx99, lx100, lx200, lx900, lx999, lx9999, m8, e3, e32, h2, e4, hx, oI, Option.elim, e6, hS8, e7, h3, mb_o hC8, ja_120 hW8, wr_118_15 hW8]
            exact hz8 _ _ (by decide)
      · rw [Bool.not_eq_true] at h2
        simp (disch := omega) only [jb_some, jli, jif, jd_q, jd_K0, jpi_s, jpi_l, jpi_p, jpl_s, jpl_i, jpl_p, if_true, if_false, if_pos, if_neg, not_true_eq_false, not_false_eq_true, ite_true, ite_false, Nat.not_lt_zero, eq_self, Nat.le_refl, Nat.lt_irrefl, Bool.false_eq_true, or0, jo_pi, jo_pl, jia_pi, jia_pl, jo_cpy, jia_cpy, cpy_r, m_X11_grant, m_X11_refuse, m_X13_good, m_X13_refused, reduceCtorEq, nI_add, nI_leI, nI_ltI, nI_eq, pk_mul, abs_nI, max_nI, min_nI, nI_m1, nI_m2, nI_le1, m1_lt, m2_lt, and_nI, or_nI, an_nI, has_nI, bit_nI, bc_nI, bits_nI, lx0, lx1, lx2, lx3, lx4, lx5, lx6, lx7, lx8, lx9, lx10, lx11, lx16, lx20, lx40, lx60, lx90, lx99, lx100, lx200, lx900, lx999, lx9999, m8, e3, e32, h2, ja_120 hW8, wr_118_15 hW8]
        exact hz8 _ _ (by decide)
set_option maxHeartbeats 2000000 in
theorem ZM_undo {z : Zt} {σ : jd_Hp} (h : MR z σ) (hz : HZ z)  : ZS (m_X13_undo 118 σ) (z_undo z) σ := by
  have h0 := MR_0 h
  have hz0 := hz
  unfold m_X13_undo
  rw [jli]
  refine ZS_0 ?_
  have e118 : (jd_pi σ 118 0 0).2.1 118 0 = nI 0 := pi_eq _ _ _ _
  generalize jd_pi σ 118 0 0 = τ at *
  clear h
  obtain ⟨o, ⟨na, H⟩, ⟨ni, I⟩, ⟨tl, tp⟩, fl, wh, tr⟩ := z
  have h1 := h0
  obtain ⟨b, ⟨hW, hR⟩, hP, hTM, f1, f2, f3⟩ := h1
  obtain ⟨z1, z2, z3, z4, z5⟩ := hz
  rcases o with _ | ⟨B, N⟩
  · have hS : τ.2.2.2 118 3 = none := hR
    obtain ⟨rfl, rfl⟩ : na = 0 ∧ ni = 0 := z5
    show ZS _ (z_undo (none, (0, H), (0, I), (tl, tp), fl, wh, tr)) τ
    unfold z_undo
    simp (disch := omega) only [jb_some, jli, jif, jd_q, jd_K0, jpi_s, jpi_l, jpi_p, jpl_s, jpl_i, jpl_p, if_true, if_false, if_pos, if_neg, not_true_eq_false, not_false_eq_true, ite_true, ite_false, Nat.not_lt_zero, eq_self, Nat.le_refl, Nat.lt_irrefl, Bool.false_eq_true, or0, jo_pi, jo_pl, jia_pi, jia_pl, jo_cpy, jia_cpy, cpy_r, m_X11_grant, m_X11_refuse, m_X13_good, m_X13_refused, reduceCtorEq, nI_add, nI_leI, nI_ltI, nI_eq, pk_mul, abs_nI, max_nI, min_nI, nI_m1, nI_m2, nI_le1, m1_lt, m2_lt, or_nI, an_nI, has_nI, bit_nI, bc_nI, bits_nI, lx0, lx1, lx2, lx3, lx4, lx5, lx6, lx7, lx8, lx9, lx10, lx11, lx16, lx20, lx40, lx60, lx90, lx99, lx100, lx200, lx900, lx999, lx9999, jo_118 hW, ja_119 hW, ja_120 hW, ja_121 hW, ja_122 hW, ja_123 hW, ja_124 hW, ja_125 hW, ja_126 hW, ja_127 hW, ja_128 hW, ja_129 hW, wr_118_5 hW, wr_118_15 hW, wr_118_16 hW, wr_118_17 hW, wr_118_18 hW, wr_118_21 hW, wr_118_22 hW, wr_118_23 hW, wr_118_25 hW, wr_118_26 hW, wr_118_27 hW, n_01, n_11, hS, m_X13_isPerson, m_X13_isPost, m_X13_changes, m_X13_denied]
    exact ZS_tr h0 _ (by decide)
  · obtain ⟨hS, hC, hV, hb, hn⟩ : τ.2.2.2 118 3 = some b ∧ MT B b τ ∧ MV B N τ ∧ bOk B ∧ nOk B N := hR
    have hb2 := hb.2.1
    have hb3 := hb.2.2.1
    have ePe := y_isPerson hS hC hb
    have ePo := y_isPost hS hC hb
    have hP : PM (B 8 3) na H ni I τ := hP
    have z5 : (∀ k, k < na → nOk B (H k)) ∧ ∀ i, i < ni → nOk B (I i) := z5
    show ZS _ (z_undo (some (B, N), (na, H), (ni, I), (tl, tp), fl, wh, tr)) τ
    unfold z_undo
    have e1 : τ.2.1 118 19 = nI na := hP.1
    by_cases h1 : na = 0
    · subst h1
      simp (disch := omega) only [jb_some, jli, jif, jd_q, jd_K0, jpi_s, jpi_l, jpi_p, jpl_s, jpl_i, jpl_p, if_true, if_false, if_pos, if_neg, not_true_eq_false, not_false_eq_true, ite_true, ite_false, Nat.not_lt_zero, eq_self, Nat.le_refl, Nat.lt_irrefl, Bool.false_eq_true, or0, jo_pi, jo_pl, jia_pi, jia_pl, jo_cpy, jia_cpy, cpy_r, m_X11_grant, m_X11_refuse, m_X13_good, m_X13_refused, reduceCtorEq, nI_add, nI_leI, nI_ltI, nI_eq, pk_mul, abs_nI, max_nI, min_nI, nI_m1, nI_m2, nI_le1, m1_lt, m2_lt, or_nI, an_nI, has_nI, bit_nI, bc_nI, bits_nI, lx0, lx1, lx2, lx3, lx4, lx5, lx6, lx7, lx8, lx9, lx10, lx11, lx16, lx20, lx40, lx60, lx90, lx99, lx100, lx200, lx900, lx999, lx9999, jo_118 hW, ja_119 hW, ja_120 hW, ja_121 hW, ja_122 hW, ja_123 hW, ja_124 hW, ja_125 hW, ja_126 hW, ja_127 hW, ja_128 hW, ja_129 hW, wr_118_5 hW, wr_118_15 hW, wr_118_16 hW, wr_118_17 hW, wr_118_18 hW, wr_118_21 hW, wr_118_22 hW, wr_118_23 hW, wr_118_25 hW, wr_118_26 hW, wr_118_27 hW, n_01, n_11, hS, reduceCtorEq, e1, m_X13_denied]
      exact ZS_tr h0 _ (by decide)
    · have e2 : nI na - nI 1 = nI (na - 1) := nI_sub (by omega)
      simp (disch := omega) only [jb_some, jli, jif, jd_q, jd_K0, jpi_s, jpi_l, jpi_p, jpl_s, jpl_i, jpl_p, if_true, if_false, if_pos, if_neg, not_true_eq_false, not_false_eq_true, ite_true, ite_false, Nat.not_lt_zero, eq_self, Nat.le_refl, Nat.lt_irrefl, Bool.false_eq_true, or0, jo_pi, jo_pl, jia_pi, jia_pl, jo_cpy, jia_cpy, cpy_r, m_X11_grant, m_X11_refuse, m_X13_good, m_X13_refused, reduceCtorEq, nI_add, nI_leI, nI_ltI, nI_eq, pk_mul, abs_nI, max_nI, min_nI, nI_m1, nI_m2, nI_le1, m1_lt, m2_lt, or_nI, an_nI, has_nI, bit_nI, bc_nI, bits_nI, lx0, lx1, lx2, lx3, lx4, lx5, lx6, lx7, lx8, lx9, lx10, lx11, lx16, lx20, lx40, lx60, lx90, lx99, lx100, lx200, lx900, lx999, lx9999, jo_118 hW, ja_119 hW, ja_120 hW, ja_121 hW, ja_122 hW, ja_123 hW, ja_124 hW, ja_125 hW, ja_126 hW, ja_127 hW, ja_128 hW, ja_129 hW, wr_118_5 hW, wr_118_15 hW, wr_118_16 hW, wr_118_17 hW, wr_118_18 hW, wr_118_21 hW, wr_118_22 hW, wr_118_23 hW, wr_118_25 hW, wr_118_26 hW, wr_118_27 hW, n_01, n_11, hS, reduceCtorEq, e1, h1, e2]
      have c0 : (jd_pi τ 118 19 (nI (na - 1))).2.1 118 19 = nI (na - 1) := pi_eq _ _ _ _
      have F1 : Fr DN L0 τ (jd_pi τ 118 19 (nI (na - 1))) := Fr_pi (Fr_refl τ) (Or.inl ⟨rfl, by omega⟩)
      have g1 : ∀ a k, ¬ (a = 118 ∧ k = 19) → (jd_pi τ 118 19 (nI (na - 1))).2.1 a k = τ.2.1 a k := fun a k h => pi_ne _ _ h
      have hW1 := Fr_Wd F1 hW
      generalize jd_pi τ 118 19 (nI (na - 1)) = σ1 at *
      have e19 : ∀ i, (cpy σ1 120 (fun k => σ1.2.1 122 (9 * (na - 1) + k)) i).2.1 118 19 = nI (na - 1) := fun i => by
        rw [cpy_i, if_neg (by omega), c0]
      rw [jlp_h 9 (fun i => nI i) (fun i => cpy σ1 120 (fun k => σ1.2.1 122 (9 * (na - 1) + k)) i) () (cpy σ1 120 (fun k => σ1.2.1 122 (9 * (na - 1) + k)) 9) (jfu (by omega)) ?_ ?_ ?_ ?_]
      · have F2 : Fr DN L0 τ (cpy σ1 120 (fun k => σ1.2.1 122 (9 * (na - 1) + k)) 9) := Fr_tr F1 (Fr_mono (cpy_fr _ _ _ _) (fun a k h => Or.inr (by omega)) fun _ h => h)
        simp (disch := omega) only [jb_some, jli, jif, jd_q, jd_K0, jpi_s, jpi_l, jpi_p, jpl_s, jpl_i, jpl_p, if_true, if_false, if_pos, if_neg, not_true_eq_false, not_false_eq_true, ite_true, ite_false, Nat.not_lt_zero, eq_self, Nat.le_refl, Nat.lt_irrefl, Bool.false_eq_true, or0, jo_pi, jo_pl, jia_pi, jia_pl, jo_cpy, jia_cpy, cpy_r, m_X11_grant, m_X11_refuse, m_X13_good, m_X13_refused, reduceCtorEq, nI_add, nI_leI, nI_ltI, nI_eq, pk_mul, abs_nI, max_nI, min_nI, nI_m1, nI_m2, nI_le1, m1_lt, m2_lt, or_nI, an_nI, has_nI, bit_nI, bc_nI, bits_nI, lx0, lx1, lx2, lx3, lx4, lx5, lx6, lx7, lx8, lx9, lx10, lx11, lx16, lx20, lx40, lx60, lx90, lx99, lx100, lx200, lx900, lx999, lx9999, n_01, n_11, jo_cpy, m_X13_granted, jo_118 hW1]
        refine MR_gd h0 F2 (fun _ _ h => h) (sc_MV (ScM_mv (hP.2.2.1 0 (by omega)) hb2 fun k hk => ?_)) (z5.1 0 (by omega)) ⟨e19 _, ?_, fun k hk => ?_, fun i hi => ?_⟩ _
        · rw [cpy_i, if_pos ⟨rfl, by omega⟩]
          exact (g1 _ _ (by omega)).trans (congrArg (τ.2.1 122) (by omega))
        · rw [cpy_i, if_neg (by omega), g1 _ _ (by omega)]
          exact hP.2.1
        · refine ScM_mv (hP.2.2.1 (k + 1) (by omega)) hb2 fun j hj => ?_
          rw [cpy_i, if_neg (by omega), g1 _ _ (by omega)]
          exact congrArg (τ.2.1 122) (by omega)
        · refine ScM_mv (hP.2.2.2 i hi) hb2 fun j hj => ?_
          rw [cpy_i, if_neg (by omega), g1 _ _ (by omega)]
      · rfl
      · exact (cpy_0 _ _ _).symm
      · intro i hi
        have h6 : ¬ 9 ≤ i := by omega
        simp (disch := omega) only [jb_some, jli, jif, jd_q, jd_K0, jpi_s, jpi_l, jpi_p, jpl_s, jpl_i, jpl_p, if_true, if_false, if_pos, if_neg, not_true_eq_false, not_false_eq_true, ite_true, ite_false, Nat.not_lt_zero, eq_self, Nat.le_refl, Nat.lt_irrefl, Bool.false_eq_true, or0, jo_pi, jo_pl, jia_pi, jia_pl, jo_cpy, jia_cpy, cpy_r, m_X11_grant, m_X11_refuse, m_X13_good, m_X13_refused, reduceCtorEq, nI_add, nI_leI, nI_ltI, nI_eq, pk_mul, abs_nI, max_nI, min_nI, nI_m1, nI_m2, nI_le1, m1_lt, m2_lt, and_nI, or_nI, an_nI, has_nI, bit_nI, bc_nI, bits_nI, lx0, lx1, lx2, lx3, lx4, lx5, lx6, lx7, lx8, lx9, lx10, lx11, lx16, lx20, lx40, lx60, lx90, lx99, lx100, lx200, lx900, lx999, lx9999, h6, jo_cpy, jia_cpy, cpy_r, e19, jo_118 hW1, ja_120 hW1, ja_122 hW1, wr_118_15 hW1, wr_118_17 hW1]
        rw [← cpy_s, cpy_i, if_neg (by omega)]
      · simp (disch := omega) only [jb_some, jli, jif, jd_q, jd_K0, jpi_s, jpi_l, jpi_p, jpl_s, jpl_i, jpl_p, if_true, if_false, if_pos, if_neg, not_true_eq_false, not_false_eq_true, ite_true, ite_false, Nat.not_lt_zero, eq_self, Nat.le_refl, Nat.lt_irrefl, Bool.false_eq_true, or0, jo_pi, jo_pl, jia_pi, jia_pl, jo_cpy, jia_cpy, cpy_r, m_X11_grant, m_X11_refuse, m_X13_good, m_X13_refused, reduceCtorEq, nI_add, nI_leI, nI_ltI, nI_eq, pk_mul, abs_nI, max_nI, min_nI, nI_m1, nI_m2, nI_le1, m1_lt, m2_lt, and_nI, or_nI, an_nI, has_nI, bit_nI, bc_nI, bits_nI, lx0, lx1, lx2, lx3, lx4, lx5, lx6, lx7, lx8, lx9, lx10, lx11, lx16, lx20, lx40, lx60, lx90, lx99, lx100, lx200, lx900, lx999, lx9999]
set_option maxHeartbeats 2000000 in
theorem ZM_image {z : Zt} {σ : jd_Hp} (h : MR z σ) (hz : HZ z)  : ZS (m_X13_image 118 σ) (z_image z) σ := by
  have h0 := MR_0 h
  have hz0 := hz
  unfold m_X13_image
  rw [jli]
  refine ZS_0 ?_
  have e118 : (jd_pi σ 118 0 0).2.1 118 0 = nI 0 := pi_eq _ _ _ _
  generalize jd_pi σ 118 0 0 = τ at *
  clear h
  obtain ⟨o, ⟨na, H⟩, ⟨ni, I⟩, ⟨tl, tp⟩, fl, wh, tr⟩ := z
  have h1 := h0
  obtain ⟨b, ⟨hW, hR⟩, hP, hTM, f1, f2, f3⟩ := h1
  obtain ⟨z1, z2, z3, z4, z5⟩ := hz
  rcases o with _ | ⟨B, N⟩
  · have hS : τ.2.2.2 118 3 = none := hR
    obtain ⟨rfl, rfl⟩ : na = 0 ∧ ni = 0 := z5
    show ZS _ (z_image (none, (0, H), (0, I), (tl, tp), fl, wh, tr)) τ
    unfold z_image
    simp (disch := omega) only [jb_some, jli, jif, jd_q, jd_K0, jpi_s, jpi_l, jpi_p, jpl_s, jpl_i, jpl_p, if_true, if_false, if_pos, if_neg, not_true_eq_false, not_false_eq_true, ite_true, ite_false, Nat.not_lt_zero, eq_self, Nat.le_refl, Nat.lt_irrefl, Bool.false_eq_true, or0, jo_pi, jo_pl, jia_pi, jia_pl, jo_cpy, jia_cpy, cpy_r, m_X11_grant, m_X11_refuse, m_X13_good, m_X13_refused, reduceCtorEq, nI_add, nI_leI, nI_ltI, nI_eq, pk_mul, abs_nI, max_nI, min_nI, nI_m1, nI_m2, nI_le1, m1_lt, m2_lt, or_nI, an_nI, has_nI, bit_nI, bc_nI, bits_nI, lx0, lx1, lx2, lx3, lx4, lx5, lx6, lx7, lx8, lx9, lx10, lx11, lx16, lx20, lx40, lx60, lx90, lx99, lx100, lx200, lx900, lx999, lx9999, jo_118 hW, ja_119 hW, ja_120 hW, ja_121 hW, ja_122 hW, ja_123 hW, ja_124 hW, ja_125 hW, ja_126 hW, ja_127 hW, ja_128 hW, ja_129 hW, wr_118_5 hW, wr_118_15 hW, wr_118_16 hW, wr_118_17 hW, wr_118_18 hW, wr_118_21 hW, wr_118_22 hW, wr_118_23 hW, wr_118_25 hW, wr_118_26 hW, wr_118_27 hW, n_01, n_11, hS, m_X13_isPerson, m_X13_isPost, m_X13_changes, m_X13_denied]
    exact ZS_tr h0 _ (by decide)
  · obtain ⟨hS, hC, hV, hb, hn⟩ : τ.2.2.2 118 3 = some b ∧ MT B b τ ∧ MV B N τ ∧ bOk B ∧ nOk B N := hR
    have hb2 := hb.2.1
    have hb3 := hb.2.2.1
    have ePe := y_isPerson hS hC hb
    have ePo := y_isPost hS hC hb
    have hP : PM (B 8 3) na H ni I τ := hP
    have z5 : (∀ k, k < na → nOk B (H k)) ∧ ∀ i, i < ni → nOk B (I i) := z5
    show ZS _ (z_image (some (B, N), (na, H), (ni, I), (tl, tp), fl, wh, tr)) τ
    unfold z_image
    have e1 : τ.2.1 118 20 = nI ni := hP.2.1
    by_cases h1 : ni < 3
    · have h3 : ¬ ni = 3 := by omega
      simp (disch := omega) only [jb_some, jli, jif, jd_q, jd_K0, jpi_s, jpi_l, jpi_p, jpl_s, jpl_i, jpl_p, if_true, if_false, if_pos, if_neg, not_true_eq_false, not_false_eq_true, ite_true, ite_false, Nat.not_lt_zero, eq_self, Nat.le_refl, Nat.lt_irrefl, Bool.false_eq_true, or0, jo_pi, jo_pl, jia_pi, jia_pl, jo_cpy, jia_cpy, cpy_r, m_X11_grant, m_X11_refuse, m_X13_good, m_X13_refused, reduceCtorEq, nI_add, nI_leI, nI_ltI, nI_eq, pk_mul, abs_nI, max_nI, min_nI, nI_m1, nI_m2, nI_le1, m1_lt, m2_lt, and_nI, or_nI, an_nI, has_nI, bit_nI, bc_nI, bits_nI, lx0, lx1, lx2, lx3, lx4, lx5, lx6, lx7, lx8, lx9, lx10, lx11, lx16, lx20, lx40, lx60, lx90, lx99, lx100, lx200, lx900, lx999, lx9999, jo_118 hW, ja_119 hW, ja_120 hW, ja_121 hW, ja_122 hW, ja_123 hW, ja_124 hW, ja_125 hW, ja_126 hW, ja_127 hW, ja_128 hW, ja_129 hW, wr_118_5 hW, wr_118_15 hW, wr_118_16 hW, wr_118_17 hW, wr_118_18 hW, wr_118_21 hW, wr_118_22 hW, wr_118_23 hW, wr_118_25 hW, wr_118_26 hW, wr_118_27 hW, hS, reduceCtorEq, e1, h1, h3]
      have e20 : ∀ i, (cpo τ 123 (9 * ni) (τ.2.1 120) i).2.1 118 20 = nI ni := fun i => by
        rw [cpo_i, if_neg (by omega), e1]
      rw [jlp_h 9 (fun i => nI i) (fun i => cpo τ 123 (9 * ni) (τ.2.1 120) i) () (cpo τ 123 (9 * ni) (τ.2.1 120) 9) (jfu (by omega)) ?_ ?_ ?_ ?_]
      · have e21 := e20 9
        simp (disch := omega) only [jb_some, jli, jif, jd_q, jd_K0, jpi_s, jpi_l, jpi_p, jpl_s, jpl_i, jpl_p, if_true, if_false, if_pos, if_neg, not_true_eq_false, not_false_eq_true, ite_true, ite_false, Nat.not_lt_zero, eq_self, Nat.le_refl, Nat.lt_irrefl, Bool.false_eq_true, or0, jo_pi, jo_pl, jia_pi, jia_pl, jo_cpy, jia_cpy, cpy_r, m_X11_grant, m_X11_refuse, m_X13_good, m_X13_refused, reduceCtorEq, nI_add, nI_leI, nI_ltI, nI_eq, pk_mul, abs_nI, max_nI, min_nI, nI_m1, nI_m2, nI_le1, m1_lt, m2_lt, and_nI, or_nI, an_nI, has_nI, bit_nI, bc_nI, bits_nI, lx0, lx1, lx2, lx3, lx4, lx5, lx6, lx7, lx8, lx9, lx10, lx11, lx16, lx20, lx40, lx60, lx90, lx99, lx100, lx200, lx900, lx999, lx9999, jo_cpo, e21, pi_eq, nI_s1, jo_118 hW]
        refine MR_gd h0 (Fr_pi (Fr_mono (cpo_fr _ _ _ _ _) (fun a k h => Or.inr (by omega)) fun _ h => h) (Or.inl ⟨rfl, by omega⟩)) (fun _ _ h => h) (MV_of hV fun k => ?_) hn ⟨?_, pi_eq _ _ _ _, fun k hk => ?_, fun i hi => ?_⟩ _
        · rw [pi_ne _ _ (by omega), cpo_i, if_neg (by omega)]
        · rw [pi_ne _ _ (by omega), cpo_i, if_neg (by omega)]
          exact hP.1
        · refine ScM_mv (hP.2.2.1 k hk) hb2 fun j hj => ?_
          rw [pi_ne _ _ (by omega), cpo_i, if_neg (by omega)]
        · show ScM (B 8 3) (imA I ni N i) 123 (9 * i) _
          unfold imA
          by_cases h : i = ni
          · rw [if_pos h, h]
            refine ScM_mv (MV_sc hV) hb2 fun j hj => ?_
            rw [pi_ne _ _ (by omega), cpo_i, if_pos ⟨rfl, by omega, by omega⟩]
            exact congrArg (τ.2.1 120) (by omega)
          · rw [if_neg h]
            refine ScM_mv (hP.2.2.2 i (by omega)) hb2 fun j hj => ?_
            rw [pi_ne _ _ (by omega), cpo_i, if_neg (by omega)]
      · rfl
      · exact (cpo_0 _ _ _ _).symm
      · intro i hi
        have h6 : ¬ 9 ≤ i := by omega
        simp (disch := omega) only [jb_some, jli, jif, jd_q, jd_K0, jpi_s, jpi_l, jpi_p, jpl_s, jpl_i, jpl_p, if_true, if_false, if_pos, if_neg, not_true_eq_false, not_false_eq_true, ite_true, ite_false, Nat.not_lt_zero, eq_self, Nat.le_refl, Nat.lt_irrefl, Bool.false_eq_true, or0, jo_pi, jo_pl, jia_pi, jia_pl, jo_cpy, jia_cpy, cpy_r, m_X11_grant, m_X11_refuse, m_X13_good, m_X13_refused, reduceCtorEq, nI_add, nI_leI, nI_ltI, nI_eq, pk_mul, abs_nI, max_nI, min_nI, nI_m1, nI_m2, nI_le1, m1_lt, m2_lt, and_nI, or_nI, an_nI, has_nI, bit_nI, bc_nI, bits_nI, lx0, lx1, lx2, lx3, lx4, lx5, lx6, lx7, lx8, lx9, lx10, lx11, lx16, lx20, lx40, lx60, lx90, lx99, lx100, lx200, lx900, lx999, lx9999, h6, jo_cpo, jia_cpo, cpo_r, e20, jo_118 hW, ja_120 hW, ja_123 hW, wr_118_15 hW, wr_118_18 hW]
        rw [← cpo_s, cpo_i, if_neg (by omega)]
      · simp (disch := omega) only [jb_some, jli, jif, jd_q, jd_K0, jpi_s, jpi_l, jpi_p, jpl_s, jpl_i, jpl_p, if_true, if_false, if_pos, if_neg, not_true_eq_false, not_false_eq_true, ite_true, ite_false, Nat.not_lt_zero, eq_self, Nat.le_refl, Nat.lt_irrefl, Bool.false_eq_true, or0, jo_pi, jo_pl, jia_pi, jia_pl, jo_cpy, jia_cpy, cpy_r, m_X11_grant, m_X11_refuse, m_X13_good, m_X13_refused, reduceCtorEq, nI_add, nI_leI, nI_ltI, nI_eq, pk_mul, abs_nI, max_nI, min_nI, nI_m1, nI_m2, nI_le1, m1_lt, m2_lt, and_nI, or_nI, an_nI, has_nI, bit_nI, bc_nI, bits_nI, lx0, lx1, lx2, lx3, lx4, lx5, lx6, lx7, lx8, lx9, lx10, lx11, lx16, lx20, lx40, lx60, lx90, lx99, lx100, lx200, lx900, lx999, lx9999]
    · obtain rfl : ni = 3 := by omega
      simp (disch := omega) only [jb_some, jli, jif, jd_q, jd_K0, jpi_s, jpi_l, jpi_p, jpl_s, jpl_i, jpl_p, if_true, if_false, if_pos, if_neg, not_true_eq_false, not_false_eq_true, ite_true, ite_false, Nat.not_lt_zero, eq_self, Nat.le_refl, Nat.lt_irrefl, Bool.false_eq_true, or0, jo_pi, jo_pl, jia_pi, jia_pl, jo_cpy, jia_cpy, cpy_r, m_X11_grant, m_X11_refuse, m_X13_good, m_X13_refused, reduceCtorEq, nI_add, nI_leI, nI_ltI, nI_eq, pk_mul, abs_nI, max_nI, min_nI, nI_m1, nI_m2, nI_le1, m1_lt, m2_lt, and_nI, or_nI, an_nI, has_nI, bit_nI, bc_nI, bits_nI, lx0, lx1, lx2, lx3, lx4, lx5, lx6, lx7, lx8, lx9, lx10, lx11, lx16, lx20, lx40, lx60, lx90, lx99, lx100, lx200, lx900, lx999, lx9999, jo_118 hW, ja_119 hW, ja_120 hW, ja_121 hW, ja_122 hW, ja_123 hW, ja_124 hW, ja_125 hW, ja_126 hW, ja_127 hW, ja_128 hW, ja_129 hW, wr_118_5 hW, wr_118_15 hW, wr_118_16 hW, wr_118_17 hW, wr_118_18 hW, wr_118_21 hW, wr_118_22 hW, wr_118_23 hW, wr_118_25 hW, wr_118_26 hW, wr_118_27 hW, hS, reduceCtorEq, e1, h1]
      exact ZS_tr h0 _ (by decide)
set_option maxHeartbeats 2000000 in
theorem ZM_back {z : Zt} {σ : jd_Hp} (h : MR z σ) (hz : HZ z) (i : Int32) : ZS (m_X13_back 118 i σ) (z_back z i) σ := by
  have h0 := MR_0 h
  have hz0 := hz
  unfold m_X13_back
  rw [jli]
  refine ZS_0 ?_
  have e118 : (jd_pi σ 118 0 0).2.1 118 0 = nI 0 := pi_eq _ _ _ _
  generalize jd_pi σ 118 0 0 = τ at *
  clear h
  obtain ⟨o, ⟨na, H⟩, ⟨ni, I⟩, ⟨tl, tp⟩, fl, wh, tr⟩ := z
  have h1 := h0
  obtain ⟨b, ⟨hW, hR⟩, hP, hTM, f1, f2, f3⟩ := h1
  obtain ⟨z1, z2, z3, z4, z5⟩ := hz
  rcases o with _ | ⟨B, N⟩
  · have hS : τ.2.2.2 118 3 = none := hR
    obtain ⟨rfl, rfl⟩ : na = 0 ∧ ni = 0 := z5
    show ZS _ (z_back (none, (0, H), (0, I), (tl, tp), fl, wh, tr) i) τ
    unfold z_back
    simp (disch := omega) only [jb_some, jli, jif, jd_q, jd_K0, jpi_s, jpi_l, jpi_p, jpl_s, jpl_i, jpl_p, if_true, if_false, if_pos, if_neg, not_true_eq_false, not_false_eq_true, ite_true, ite_false, Nat.not_lt_zero, eq_self, Nat.le_refl, Nat.lt_irrefl, Bool.false_eq_true, or0, jo_pi, jo_pl, jia_pi, jia_pl, jo_cpy, jia_cpy, cpy_r, m_X11_grant, m_X11_refuse, m_X13_good, m_X13_refused, reduceCtorEq, nI_add, nI_leI, nI_ltI, nI_eq, pk_mul, abs_nI, max_nI, min_nI, nI_m1, nI_m2, nI_le1, m1_lt, m2_lt, or_nI, an_nI, has_nI, bit_nI, bc_nI, bits_nI, lx0, lx1, lx2, lx3, lx4, lx5, lx6, lx7, lx8, lx9, lx10, lx11, lx16, lx20, lx40, lx60, lx90, lx99, lx100, lx200, lx900, lx999, lx9999, jo_118 hW, ja_119 hW, ja_120 hW, ja_121 hW, ja_122 hW, ja_123 hW, ja_124 hW, ja_125 hW, ja_126 hW, ja_127 hW, ja_128 hW, ja_129 hW, wr_118_5 hW, wr_118_15 hW, wr_118_16 hW, wr_118_17 hW, wr_118_18 hW, wr_118_21 hW, wr_118_22 hW, wr_118_23 hW, wr_118_25 hW, wr_118_26 hW, wr_118_27 hW, n_01, n_11, hS, m_X13_isPerson, m_X13_isPost, m_X13_changes, m_X13_denied]
    exact ZS_tr h0 _ (by decide)
  · obtain ⟨hS, hC, hV, hb, hn⟩ : τ.2.2.2 118 3 = some b ∧ MT B b τ ∧ MV B N τ ∧ bOk B ∧ nOk B N := hR
    have hb2 := hb.2.1
    have hb3 := hb.2.2.1
    have ePe := y_isPerson hS hC hb
    have ePo := y_isPost hS hC hb
    have hP : PM (B 8 3) na H ni I τ := hP
    have z5 : (∀ k, k < na → nOk B (H k)) ∧ ∀ i, i < ni → nOk B (I i) := z5
    show ZS _ (z_back (some (B, N), (na, H), (ni, I), (tl, tp), fl, wh, tr) i) τ
    unfold z_back
    have e1 : τ.2.1 118 20 = nI ni := hP.2.1
    rcases hj : ixN i ni with _ | j
    · rcases ixN_none (by omega) hj with h1 | ⟨h1, h2⟩
      · simp (disch := omega) only [jb_some, jli, jif, jd_q, jd_K0, jpi_s, jpi_l, jpi_p, jpl_s, jpl_i, jpl_p, if_true, if_false, if_pos, if_neg, not_true_eq_false, not_false_eq_true, ite_true, ite_false, Nat.not_lt_zero, eq_self, Nat.le_refl, Nat.lt_irrefl, Bool.false_eq_true, or0, jo_pi, jo_pl, jia_pi, jia_pl, jo_cpy, jia_cpy, cpy_r, m_X11_grant, m_X11_refuse, m_X13_good, m_X13_refused, reduceCtorEq, nI_add, nI_leI, nI_ltI, nI_eq, pk_mul, abs_nI, max_nI, min_nI, nI_m1, nI_m2, nI_le1, m1_lt, m2_lt, or_nI, an_nI, has_nI, bit_nI, bc_nI, bits_nI, lx0, lx1, lx2, lx3, lx4, lx5, lx6, lx7, lx8, lx9, lx10, lx11, lx16, lx20, lx40, lx60, lx90, lx99, lx100, lx200, lx900, lx999, lx9999, jo_118 hW, ja_119 hW, ja_120 hW, ja_121 hW, ja_122 hW, ja_123 hW, ja_124 hW, ja_125 hW, ja_126 hW, ja_127 hW, ja_128 hW, ja_129 hW, wr_118_5 hW, wr_118_15 hW, wr_118_16 hW, wr_118_17 hW, wr_118_18 hW, wr_118_21 hW, wr_118_22 hW, wr_118_23 hW, wr_118_25 hW, wr_118_26 hW, wr_118_27 hW, n_01, n_11, hS, reduceCtorEq, e1, h1, m_X13_denied]
        exact ZS_tr h0 _ (by decide)
      · have h2' := Int32.not_lt.mpr h2
        simp (disch := omega) only [jb_some, jli, jif, jd_q, jd_K0, jpi_s, jpi_l, jpi_p, jpl_s, jpl_i, jpl_p, if_true, if_false, if_pos, if_neg, not_true_eq_false, not_false_eq_true, ite_true, ite_false, Nat.not_lt_zero, eq_self, Nat.le_refl, Nat.lt_irrefl, Bool.false_eq_true, or0, jo_pi, jo_pl, jia_pi, jia_pl, jo_cpy, jia_cpy, cpy_r, m_X11_grant, m_X11_refuse, m_X13_good, m_X13_refused, reduceCtorEq, nI_add, nI_leI, nI_ltI, nI_eq, pk_mul, abs_nI, max_nI, min_nI, nI_m1, nI_m2, nI_le1, m1_lt, m2_lt, or_nI, an_nI, has_nI, bit_nI, bc_nI, bits_nI, lx0, lx1, lx2, lx3, lx4, lx5, lx6, lx7, lx8, lx9, lx10, lx11, lx16, lx20, lx40, lx60, lx90, lx99, lx100, lx200, lx900, lx999, lx9999, jo_118 hW, ja_119 hW, ja_120 hW, ja_121 hW, ja_122 hW, ja_123 hW, ja_124 hW, ja_125 hW, ja_126 hW, ja_127 hW, ja_128 hW, ja_129 hW, wr_118_5 hW, wr_118_15 hW, wr_118_16 hW, wr_118_17 hW, wr_118_18 hW, wr_118_21 hW, wr_118_22 hW, wr_118_23 hW, wr_118_25 hW, wr_118_26 hW, wr_118_27 hW, n_01, n_11, hS, reduceCtorEq, e1, h1, h2', m_X13_denied]
        exact ZS_tr h0 _ (by decide)
    · obtain ⟨h1, rfl⟩ := ixN_some hj
      simp (disch := omega) only [jb_some, jli, jif, jd_q, jd_K0, jpi_s, jpi_l, jpi_p, jpl_s, jpl_i, jpl_p, if_true, if_false, if_pos, if_neg, not_true_eq_false, not_false_eq_true, ite_true, ite_false, Nat.not_lt_zero, eq_self, Nat.le_refl, Nat.lt_irrefl, Bool.false_eq_true, or0, jo_pi, jo_pl, jia_pi, jia_pl, jo_cpy, jia_cpy, cpy_r, m_X11_grant, m_X11_refuse, m_X13_good, m_X13_refused, reduceCtorEq, nI_add, nI_leI, nI_ltI, nI_eq, pk_mul, abs_nI, max_nI, min_nI, nI_m1, nI_m2, nI_le1, m1_lt, m2_lt, or_nI, an_nI, has_nI, bit_nI, bc_nI, bits_nI, lx0, lx1, lx2, lx3, lx4, lx5, lx6, lx7, lx8, lx9, lx10, lx11, lx16, lx20, lx40, lx60, lx90, lx99, lx100, lx200, lx900, lx999, lx9999, jo_118 hW, ja_119 hW, ja_120 hW, ja_121 hW, ja_122 hW, ja_123 hW, ja_124 hW, ja_125 hW, ja_126 hW, ja_127 hW, ja_128 hW, ja_129 hW, wr_118_5 hW, wr_118_15 hW, wr_118_16 hW, wr_118_17 hW, wr_118_18 hW, wr_118_21 hW, wr_118_22 hW, wr_118_23 hW, wr_118_25 hW, wr_118_26 hW, wr_118_27 hW, n_01, n_11, hS, reduceCtorEq, e1, h1]
      rw [jlp_h 9 (fun i => nI i) (fun i => cpy τ 120 (fun k => τ.2.1 123 (9 * j + k)) i) () (cpy τ 120 (fun k => τ.2.1 123 (9 * j + k)) 9) (jfu (by omega)) ?_ ?_ ?_ ?_]
      · have F2 : Fr DN L0 τ (jd_pi (cpy τ 120 (fun k => τ.2.1 123 (9 * j + k)) 9) 118 19 (nI 0)) := Fr_pi (Fr_mono (cpy_fr _ _ _ _) (fun a k h => Or.inr (by omega)) fun _ h => h) (Or.inl ⟨rfl, by omega⟩)
        simp (disch := omega) only [jb_some, jli, jif, jd_q, jd_K0, jpi_s, jpi_l, jpi_p, jpl_s, jpl_i, jpl_p, if_true, if_false, if_pos, if_neg, not_true_eq_false, not_false_eq_true, ite_true, ite_false, Nat.not_lt_zero, eq_self, Nat.le_refl, Nat.lt_irrefl, Bool.false_eq_true, or0, jo_pi, jo_pl, jia_pi, jia_pl, jo_cpy, jia_cpy, cpy_r, m_X11_grant, m_X11_refuse, m_X13_good, m_X13_refused, reduceCtorEq, nI_add, nI_leI, nI_ltI, nI_eq, pk_mul, abs_nI, max_nI, min_nI, nI_m1, nI_m2, nI_le1, m1_lt, m2_lt, or_nI, an_nI, has_nI, bit_nI, bc_nI, bits_nI, lx0, lx1, lx2, lx3, lx4, lx5, lx6, lx7, lx8, lx9, lx10, lx11, lx16, lx20, lx40, lx60, lx90, lx99, lx100, lx200, lx900, lx999, lx9999, n_01, n_11, jo_cpy, m_X13_granted, jo_118 hW]
        refine MR_gd h0 F2 (fun _ _ h => h) (sc_MV (ScM_mv (hP.2.2.2 j h1) hb2 fun k hk => ?_)) (z5.2 j h1) ⟨pi_eq _ _ _ _, ?_, fun k hk => absurd hk (Nat.not_lt_zero k), fun i hi => ?_⟩ _
        · rw [pi_ne _ _ (by omega), cpy_i, if_pos ⟨rfl, by omega⟩]
          exact congrArg (τ.2.1 123) (by omega)
        · rw [pi_ne _ _ (by omega), cpy_i, if_neg (by omega)]
          exact hP.2.1
        · refine ScM_mv (hP.2.2.2 i hi) hb2 fun k hk => ?_
          rw [pi_ne _ _ (by omega), cpy_i, if_neg (by omega)]
      · rfl
      · exact (cpy_0 _ _ _).symm
      · intro i hi
        have h6 : ¬ 9 ≤ i := by omega
        simp (disch := omega) only [jb_some, jli, jif, jd_q, jd_K0, jpi_s, jpi_l, jpi_p, jpl_s, jpl_i, jpl_p, if_true, if_false, if_pos, if_neg, not_true_eq_false, not_false_eq_true, ite_true, ite_false, Nat.not_lt_zero, eq_self, Nat.le_refl, Nat.lt_irrefl, Bool.false_eq_true, or0, jo_pi, jo_pl, jia_pi, jia_pl, jo_cpy, jia_cpy, cpy_r, m_X11_grant, m_X11_refuse, m_X13_good, m_X13_refused, reduceCtorEq, nI_add, nI_leI, nI_ltI, nI_eq, pk_mul, abs_nI, max_nI, min_nI, nI_m1, nI_m2, nI_le1, m1_lt, m2_lt, and_nI, or_nI, an_nI, has_nI, bit_nI, bc_nI, bits_nI, lx0, lx1, lx2, lx3, lx4, lx5, lx6, lx7, lx8, lx9, lx10, lx11, lx16, lx20, lx40, lx60, lx90, lx99, lx100, lx200, lx900, lx999, lx9999, h6, jo_cpy, jia_cpy, cpy_r, jo_118 hW, ja_120 hW, ja_123 hW, wr_118_15 hW, wr_118_18 hW]
        rw [← cpy_s, cpy_i, if_neg (by omega)]
      · simp (disch := omega) only [jb_some, jli, jif, jd_q, jd_K0, jpi_s, jpi_l, jpi_p, jpl_s, jpl_i, jpl_p, if_true, if_false, if_pos, if_neg, not_true_eq_false, not_false_eq_true, ite_true, ite_false, Nat.not_lt_zero, eq_self, Nat.le_refl, Nat.lt_irrefl, Bool.false_eq_true, or0, jo_pi, jo_pl, jia_pi, jia_pl, jo_cpy, jia_cpy, cpy_r, m_X11_grant, m_X11_refuse, m_X13_good, m_X13_refused, reduceCtorEq, nI_add, nI_leI, nI_ltI, nI_eq, pk_mul, abs_nI, max_nI, min_nI, nI_m1, nI_m2, nI_le1, m1_lt, m2_lt, and_nI, or_nI, an_nI, has_nI, bit_nI, bc_nI, bits_nI, lx0, lx1, lx2, lx3, lx4, lx5, lx6, lx7, lx8, lx9, lx10, lx11, lx16, lx20, lx40, lx60, lx90, lx99, lx100, lx200, lx900, lx999, lx9999]
