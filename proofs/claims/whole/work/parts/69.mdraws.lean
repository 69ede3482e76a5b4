/-! P (19): afternoons, the reference -/
section
variable {B : Bch} {N : Nw} {b : Nat} {σ σ' τ : jd_Hp}
theorem MT_fr {L : Nat → Prop} (h : MT B b σ) (f : Fr DM L σ σ') : MT B b σ' := MT_of h f.1 f.2.1 fun a k ha => f.2.2.1 a k (by
  have := h.1
  unfold DM
  omega)
set_option maxHeartbeats 4000000 in
theorem y_afternoonsAll (hW : Wd τ) (hS : τ.2.2.2 118 3 = some b) (hC : MT B b τ) (hV : MV B N τ) (hb : bOk B) (hn : nOk B N) {s n : Nat} (hs : s < 65537) (hn9 : n ≤ 90) : ∃ σ', m_X13_afternoonsAll 118 (nI s) (nI n) τ = some ((), σ') ∧ Fr DM L0 τ σ' ∧ (∀ j, j < B 8 3 → σ'.2.1 129 j = nI (lc B N s j n)) ∧ σ'.2.1 118 28 = nI (wor B N s n) := by
  have b2 := hb.2.1
  have hA := wk_MA hW hS hC hV hb
  have FW := wk_fr τ
  have e1 := y_works hW
  have e2 := y_sinkersNow hA hb hn
  have e3 := y_unreached hA hb hn
  have s64 := sinkers_64 hb N
  have u64 := unr_64 hb N
  unfold m_X13_afternoonsAll
  rw [e1, jb_some, e2, jb_some, e3, jb_some, jli]
  generalize wk τ = ρ at *
  have F0 : Fr DM L0 τ (jd_pi ρ 118 28 0) := Fr_pi FW (Or.inl ⟨rfl, by omega⟩)
  have one := jlp_inv (body := fun (s5 : Int32) σ5 =>
jd_if (6 ≤ s5) (
some ((Sum.inr ()), σ5)) (
jd_o σ5 (13, 29) (some 118) fun a7 =>
jd_ia σ5 20 (σ5.2.2.2 a7 27) s5 fun a8 j8 =>
jd_li (jd_pi σ5 a8 j8 0) fun τ9 =>
some (Sum.inl (s5 + 1), τ9))) 6 (fun i st σ' => st = nI i ∧ Fr DM L0 τ σ' ∧ (∀ j, j < i → σ'.2.1 129 j = nI 0) ∧ σ'.2.1 118 28 = nI 0) (fun _ σ' => Fr DM L0 τ σ' ∧ (∀ j, j < 6 → σ'.2.1 129 j = nI 0) ∧ σ'.2.1 118 28 = nI 0) ?_ ?_ jd_fu (jfu (by omega)) 0 (jd_pi ρ 118 28 0) ⟨rfl, F0, fun j hj => absurd hj (Nat.not_lt_zero j), pi_eq _ _ _ _⟩
  · obtain ⟨_, σ6, h6, F6, z6, w6⟩ := one
    rw [h6, jb_some]
    have two := jlp_inv (body := fun (s10 : Int32 × Int32) σ10 =>
jd_if (nI n ≤ s10.2) (
some ((Sum.inr ()), σ10)) (
jd_b (jd_lp (S := Int32 × Int32 × Int32) (T := Int32 × Int32) (fun s12 σ12 =>
jd_o σ12 (13, 29) (some 118) fun a14 =>
jd_o σ12 (12, 20) (σ12.2.2.2 a14 3) fun a15 =>
jd_if ((σ12.2.1 a15 3) ≤ s12.2.2) (
some ((Sum.inr (s12.1, s12.2.1)), σ12)) (
jd_b (m_X13_bit (nI (sinkers B N)) s12.2.2 σ12) fun r16 σ16 =>
jd_if (¬ r16 = 0) (
jd_li ((((75 * s12.1.toInt64) + 74) - ((75 * s12.1.toInt64) + 74) / 65537 * 65537).toInt32) fun x17 =>
jd_o σ16 (12, 20) (σ16.2.2.2 a14 3) fun a18 =>
jd_ia σ16 20 (σ16.2.2.2 a18 12) s12.2.2 fun a19 j19 =>
jd_if ((x17 - x17 / 100 * 100) < (σ16.2.1 a19 j19)) (
jd_ia σ16 20 (σ16.2.2.2 a14 27) s12.2.2 fun a20 j20 =>
jd_b (m_X13_bit (nI (unr B N)) s12.2.2 σ16) fun r21 σ21 =>
jd_if (r21 = 0) (
jd_ia σ21 20 (σ16.2.2.2 a14 27) s12.2.2 fun a22 j22 =>
jd_li (jd_pi σ21 a22 j22 ((σ16.2.1 a20 j20) + 0)) fun τ23 =>
some (Sum.inl (x17, (s12.2.1 + 1), (s12.2.2 + 1)), τ23)) (
jd_ia σ21 20 (σ16.2.2.2 a14 27) s12.2.2 fun a24 j24 =>
jd_li (jd_pi σ21 a24 j24 ((σ16.2.1 a20 j20) + 1)) fun τ25 =>
some (Sum.inl (x17, (s12.2.1 + 1), (s12.2.2 + 1)), τ25))) (
some (Sum.inl (x17, s12.2.1, (s12.2.2 + 1)), σ16))) (
some (Sum.inl (s12.1, s12.2.1, (s12.2.2 + 1)), σ16)))) jd_fu (s10.1, 0, 0) σ10) fun t13 σ13 =>
jd_o σ13 (13, 29) (some 118) fun a26 =>
jd_if (t13.2 ≤ (σ13.2.1 a26 28)) (
some (Sum.inl (t13.1, (s10.2 + 1)), σ13)) (
jd_li (jd_pi σ13 a26 28 t13.2) fun τ27 =>
some (Sum.inl (t13.1, (s10.2 + 1)), τ27)))) n (fun k st σ' => st = (nI (sds B N s k), nI k) ∧ Fr DM L0 τ σ' ∧ (∀ j, j < B 8 3 → σ'.2.1 129 j = nI (lc B N s j k)) ∧ σ'.2.1 118 28 = nI (wor B N s k)) (fun _ σ' => Fr DM L0 τ σ' ∧ (∀ j, j < B 8 3 → σ'.2.1 129 j = nI (lc B N s j n)) ∧ σ'.2.1 118 28 = nI (wor B N s n)) ?_ ?_ jd_fu (jfu (by omega)) (nI s, 0) σ6 ⟨rfl, F6, fun j hj => z6 j (by omega), w6⟩
    · obtain ⟨_, σ7, h7, hR⟩ := two
      rw [h7, jb_some]
      exact ⟨σ7, rfl, hR⟩
    · rintro k st σ' hk ⟨rfl, hF, hl, hw⟩
      have sk := sds_lt (B := B) (N := N) hs k
      have w1 := wor_le (B := B) (N := N) (s := s) k
      have w2 := cnt_le (hit B N (sds B N s k)) (B 8 3)
      have nk : ¬ n ≤ k := by omega
      have inner := jlp_inv (body := fun (s12 : Int32 × Int32 × Int32) σ12 =>
jd_o σ12 (13, 29) (some 118) fun a14 =>
jd_o σ12 (12, 20) (σ12.2.2.2 a14 3) fun a15 =>
jd_if ((σ12.2.1 a15 3) ≤ s12.2.2) (
some ((Sum.inr (s12.1, s12.2.1)), σ12)) (
jd_b (m_X13_bit (nI (sinkers B N)) s12.2.2 σ12) fun r16 σ16 =>
jd_if (¬ r16 = 0) (
jd_li ((((75 * s12.1.toInt64) + 74) - ((75 * s12.1.toInt64) + 74) / 65537 * 65537).toInt32) fun x17 =>
jd_o σ16 (12, 20) (σ16.2.2.2 a14 3) fun a18 =>
jd_ia σ16 20 (σ16.2.2.2 a18 12) s12.2.2 fun a19 j19 =>
jd_if ((x17 - x17 / 100 * 100) < (σ16.2.1 a19 j19)) (
jd_ia σ16 20 (σ16.2.2.2 a14 27) s12.2.2 fun a20 j20 =>
jd_b (m_X13_bit (nI (unr B N)) s12.2.2 σ16) fun r21 σ21 =>
jd_if (r21 = 0) (
jd_ia σ21 20 (σ16.2.2.2 a14 27) s12.2.2 fun a22 j22 =>
jd_li (jd_pi σ21 a22 j22 ((σ16.2.1 a20 j20) + 0)) fun τ23 =>
some (Sum.inl (x17, (s12.2.1 + 1), (s12.2.2 + 1)), τ23)) (
jd_ia σ21 20 (σ16.2.2.2 a14 27) s12.2.2 fun a24 j24 =>
jd_li (jd_pi σ21 a24 j24 ((σ16.2.1 a20 j20) + 1)) fun τ25 =>
some (Sum.inl (x17, (s12.2.1 + 1), (s12.2.2 + 1)), τ25))) (
some (Sum.inl (x17, s12.2.1, (s12.2.2 + 1)), σ16))) (
some (Sum.inl (s12.1, s12.2.1, (s12.2.2 + 1)), σ16)))) (B 8 3) (fun i st σ' => st = (nI (sd B N (sds B N s k) i), nI (cnt (hit B N (sds B N s k)) i), nI i) ∧ Fr DM L0 τ σ' ∧ (∀ j, j < B 8 3 → σ'.2.1 129 j = nI (if j < i then lc B N s j (k + 1) else lc B N s j k)) ∧ σ'.2.1 118 28 = nI (wor B N s k)) (fun t σ' => t = (nI (sds B N s (k + 1)), nI (cnt (hit B N (sds B N s k)) (B 8 3))) ∧ Fr DM L0 τ σ' ∧ (∀ j, j < B 8 3 → σ'.2.1 129 j = nI (lc B N s j (k + 1))) ∧ σ'.2.1 118 28 = nI (wor B N s k)) ?_ ?_ jd_fu (jfu (by omega)) (nI (sds B N s k), 0, 0) σ' ⟨rfl, hF, fun j hj => by
        rw [if_neg (by omega)]
        exact hl j hj, hw⟩
      · obtain ⟨_, σ13, h13, rfl, F13, l13, w13⟩ := inner
        have hW' := Fr_Wd F13 hW
        have wn : wor B N s (k + 1) = max (wor B N s k) (cnt (hit B N (sds B N s k)) (B 8 3)) := rfl
        by_cases hc : cnt (hit B N (sds B N s k)) (B 8 3) ≤ wor B N s k
        · refine ⟨(nI (sds B N s (k + 1)), nI (k + 1)), σ13, ?_, rfl, F13, l13, ?_⟩
          · rw [jif, if_neg (fun h => nk ((nI_leI (by omega) (by omega)).mp h)), h13]
            simp (disch := omega) only [jb_some, jli, jif, jd_q, jd_K0, jpi_s, jpi_l, jpi_p, jpl_s, jpl_i, jpl_p, if_true, if_false, if_pos, if_neg, not_true_eq_false, not_false_eq_true, ite_true, ite_false, Nat.not_lt_zero, eq_self, Nat.le_refl, Nat.lt_irrefl, Bool.false_eq_true, or0, jo_pi, jo_pl, jia_pi, jia_pl, jo_cpy, jia_cpy, cpy_r, m_X11_grant, m_X11_refuse, m_X13_good, m_X13_refused, reduceCtorEq, nI_add, nI_leI, nI_ltI, nI_eq, pk_mul, abs_nI, max_nI, min_nI, nI_m1, nI_m2, nI_le1, m1_lt, m2_lt, and_nI, or_nI, an_nI, has_nI, bit_nI, bc_nI, bits_nI, lx0, lx1, lx2, lx3, lx4, lx5, lx6, lx7, lx8, lx9, lx10, lx11, lx16, lx20, lx40, lx60, lx90, lx99, lx100, lx200, lx900, lx999, lx9999, w13, hc, jo_118 hW']
          · rw [wn, Nat.max_eq_left hc]
            exact w13
        · refine ⟨(nI (sds B N s (k + 1)), nI (k + 1)), jd_pi σ13 118 28 (nI (wor B N s (k + 1))), ?_, rfl, Fr_pi F13 (Or.inl ⟨rfl, by omega⟩), fun j hj => (pi_ne _ _ (by omega)).trans (l13 j hj), pi_eq _ _ _ _⟩
          rw [jif, if_neg (fun h => nk ((nI_leI (by omega) (by omega)).mp h)), h13, wn, Nat.max_eq_right (by omega)]
          simp (disch := omega) only [jb_some, jli, jif, jd_q, jd_K0, jpi_s, jpi_l, jpi_p, jpl_s, jpl_i, jpl_p, if_true, if_false, if_pos, if_neg, not_true_eq_false, not_false_eq_true, ite_true, ite_false, Nat.not_lt_zero, eq_self, Nat.le_refl, Nat.lt_irrefl, Bool.false_eq_true, or0, jo_pi, jo_pl, jia_pi, jia_pl, jo_cpy, jia_cpy, cpy_r, m_X11_grant, m_X11_refuse, m_X13_good, m_X13_refused, reduceCtorEq, nI_add, nI_leI, nI_ltI, nI_eq, pk_mul, abs_nI, max_nI, min_nI, nI_m1, nI_m2, nI_le1, m1_lt, m2_lt, and_nI, or_nI, an_nI, has_nI, bit_nI, bc_nI, bits_nI, lx0, lx1, lx2, lx3, lx4, lx5, lx6, lx7, lx8, lx9, lx10, lx11, lx16, lx20, lx40, lx60, lx90, lx99, lx100, lx200, lx900, lx999, lx9999, w13, hc, jo_118 hW']
      · rintro i st σ5 hi ⟨rfl, hF5, hl5, hw5⟩
        have hW5 := Fr_Wd hF5 hW
        have hC5 := MT_fr hC hF5
        have hS5 : σ5.2.2.2 118 3 = some b := by rw [hF5.2.1]; exact hS
        have sd1 := sd_lt (B := B) (N := N) sk i
        have sd2 := sd_lt (B := B) (N := N) sk (i + 1)
        have st0 := sinkers_test (N := N) hb hi
        have ut := unr_test (N := N) hb hi
        have li := hl5 i hi
        rw [if_neg (by omega)] at li
        have e3 := ((hb.2.2.2.2.2.2.2.2.2.2) i).2.2.2.1
        have c1 := cnt_le (hit B N (sds B N s k)) i
        have lcl : lc B N s i k ≤ k := cnt_le _ _
        have keep : ∀ (σ9 : jd_Hp) (v : Int32), (∀ j, j ≠ i → σ9.2.1 129 j = σ5.2.1 129 j) → σ9.2.1 129 i = nI (lc B N s i (k + 1)) → ∀ j, j < B 8 3 → σ9.2.1 129 j = nI (if j < i + 1 then lc B N s j (k + 1) else lc B N s j k) := fun σ9 _ g1 g2 j hj => by
          by_cases hji : j = i
          · rw [hji, if_pos (by omega), g2]
          · rw [g1 j hji, hl5 j hj]
            by_cases hlt : j < i
            · rw [if_pos hlt, if_pos (by omega)]
            · rw [if_neg hlt, if_neg (by omega)]
        rcases hk2 : skC B N i with _ | _
        · rw [hk2] at st0
          have e2 : sd B N (sds B N s k) (i + 1) = sd B N (sds B N s k) i := by simp [sd, hk2]
          have hh : hit B N (sds B N s k) i = false := by simp [hit, hk2]
          have el : lc B N s i (k + 1) = lc B N s i k := cnt_f (by simp [hh])
          refine ⟨(nI (sd B N (sds B N s k) (i + 1)), nI (cnt (hit B N (sds B N s k)) (i + 1)), nI (i + 1)), σ5, ?_, rfl, hF5, keep σ5 0 (fun _ _ => rfl) (by rw [el]; exact li), hw5⟩
          rw [e2, cnt_f hh]
          simp (disch := omega) only [jb_some, jli, jif, jd_q, jd_K0, jpi_s, jpi_l, jpi_p, jpl_s, jpl_i, jpl_p, if_true, if_false, if_pos, if_neg, not_true_eq_false, not_false_eq_true, ite_true, ite_false, Nat.not_lt_zero, eq_self, Nat.le_refl, Nat.lt_irrefl, Bool.false_eq_true, or0, jo_pi, jo_pl, jia_pi, jia_pl, jo_cpy, jia_cpy, cpy_r, m_X11_grant, m_X11_refuse, m_X13_good, m_X13_refused, reduceCtorEq, nI_add, nI_leI, nI_ltI, nI_eq, pk_mul, abs_nI, max_nI, min_nI, nI_m1, nI_m2, nI_le1, m1_lt, m2_lt, and_nI, or_nI, an_nI, has_nI, bit_nI, bc_nI, bits_nI, lx0, lx1, lx2, lx3, lx4, lx5, lx6, lx7, lx8, lx9, lx10, lx11, lx16, lx20, lx40, lx60, lx90, lx99, lx100, lx200, lx900, lx999, lx9999, hS5, st0, jo_118 hW5, mb_o hC5, mb_s3 hC5]
        · rw [hk2] at st0
          have e2 : sd B N (sds B N s k) (i + 1) = (75 * sd B N (sds B N s k) i + 74) % 65537 := by simp [sd, hk2]
          have r1 := pk_lRem (a := 75 * sd B N (sds B N s k) i + 74) (b := 65537) (by omega) (by decide) (by decide)
          rw [← e2] at r1
          have r2 := pk_rem (a := sd B N (sds B N s k) (i + 1)) (d := 100) (by omega) (by decide) (by decide)
          have r3 := Nat.mod_lt (sd B N (sds B N s k) (i + 1)) (show 100 > 0 by decide)
          by_cases hc : sd B N (sds B N s k) (i + 1) % 100 < B 3 i
          · have hh : hit B N (sds B N s k) i = true := by simp [hit, hk2, hc]
            have el : lc B N s i (k + 1) = lc B N s i k + (if rsk B N i then 1 else 0) := by
              rcases hr : rsk B N i with _ | _
              · exact cnt_f (by simp [hr])
              · exact cnt_t (by simp [hh, hr])
            refine ⟨(nI (sd B N (sds B N s k) (i + 1)), nI (cnt (hit B N (sds B N s k)) (i + 1)), nI (i + 1)), jd_pi σ5 129 i (nI (lc B N s i (k + 1))), ?_, rfl, Fr_pi hF5 (Or.inr (Or.inr (by omega))), keep _ 0 (fun j hj => pi_ne _ _ (by omega)) (pi_eq _ _ _ _), (pi_ne _ _ (by omega)).trans hw5⟩
            rw [cnt_t hh, el]
            rcases hr : rsk B N i with _ | _
            · rw [hr] at ut
              simp (disch := omega) only [jb_some, jli, jif, jd_q, jd_K0, jpi_s, jpi_l, jpi_p, jpl_s, jpl_i, jpl_p, if_true, if_false, if_pos, if_neg, not_true_eq_false, not_false_eq_true, ite_true, ite_false, Nat.not_lt_zero, eq_self, Nat.le_refl, Nat.lt_irrefl, Bool.false_eq_true, or0, jo_pi, jo_pl, jia_pi, jia_pl, jo_cpy, jia_cpy, cpy_r, m_X11_grant, m_X11_refuse, m_X13_good, m_X13_refused, reduceCtorEq, nI_add, nI_leI, nI_ltI, nI_eq, pk_mul, abs_nI, max_nI, min_nI, nI_m1, nI_m2, nI_le1, m1_lt, m2_lt, and_nI, or_nI, an_nI, has_nI, bit_nI, bc_nI, bits_nI, lx0, lx1, lx2, lx3, lx4, lx5, lx6, lx7, lx8, lx9, lx10, lx11, lx16, lx20, lx40, lx60, lx90, lx99, lx100, lx200, lx900, lx999, lx9999, lN_add, lN_mul, nI_l, cl_le, cl_gt, cl_eq, pk_lEQ, ly0, ly1, ly2, ly100, hS5, st0, ut, li, hc, nI_l, ly74, ly75, ly65537, r1, lN_i, r2, jo_118 hW5, mb_o hC5, mb_s3 hC5, mb_r3 hC5, mb_j3 hC5, mb_a3 hC5, ja_129 hW5, wr_118_27 hW5]
            · rw [hr] at ut
              simp (disch := omega) only [jb_some, jli, jif, jd_q, jd_K0, jpi_s, jpi_l, jpi_p, jpl_s, jpl_i, jpl_p, if_true, if_false, if_pos, if_neg, not_true_eq_false, not_false_eq_true, ite_true, ite_false, Nat.not_lt_zero, eq_self, Nat.le_refl, Nat.lt_irrefl, Bool.false_eq_true, or0, jo_pi, jo_pl, jia_pi, jia_pl, jo_cpy, jia_cpy, cpy_r, m_X11_grant, m_X11_refuse, m_X13_good, m_X13_refused, reduceCtorEq, nI_add, nI_leI, nI_ltI, nI_eq, pk_mul, abs_nI, max_nI, min_nI, nI_m1, nI_m2, nI_le1, m1_lt, m2_lt, and_nI, or_nI, an_nI, has_nI, bit_nI, bc_nI, bits_nI, lx0, lx1, lx2, lx3, lx4, lx5, lx6, lx7, lx8, lx9, lx10, lx11, lx16, lx20, lx40, lx60, lx90, lx99, lx100, lx200, lx900, lx999, lx9999, lN_add, lN_mul, nI_l, cl_le, cl_gt, cl_eq, pk_lEQ, ly0, ly1, ly2, ly100, hS5, st0, ut, li, hc, nI_l, ly74, ly75, ly65537, r1, lN_i, r2, jo_118 hW5, mb_o hC5, mb_s3 hC5, mb_r3 hC5, mb_j3 hC5, mb_a3 hC5, ja_129 hW5, wr_118_27 hW5]
          · have hh : hit B N (sds B N s k) i = false := by simp [hit, hk2, hc]
            have el : lc B N s i (k + 1) = lc B N s i k := cnt_f (by simp [hh])
            refine ⟨(nI (sd B N (sds B N s k) (i + 1)), nI (cnt (hit B N (sds B N s k)) (i + 1)), nI (i + 1)), σ5, ?_, rfl, hF5, keep σ5 0 (fun _ _ => rfl) (by rw [el]; exact li), hw5⟩
            rw [cnt_f hh]
            simp (disch := omega) only [jb_some, jli, jif, jd_q, jd_K0, jpi_s, jpi_l, jpi_p, jpl_s, jpl_i, jpl_p, if_true, if_false, if_pos, if_neg, not_true_eq_false, not_false_eq_true, ite_true, ite_false, Nat.not_lt_zero, eq_self, Nat.le_refl, Nat.lt_irrefl, Bool.false_eq_true, or0, jo_pi, jo_pl, jia_pi, jia_pl, jo_cpy, jia_cpy, cpy_r, m_X11_grant, m_X11_refuse, m_X13_good, m_X13_refused, reduceCtorEq, nI_add, nI_leI, nI_ltI, nI_eq, pk_mul, abs_nI, max_nI, min_nI, nI_m1, nI_m2, nI_le1, m1_lt, m2_lt, and_nI, or_nI, an_nI, has_nI, bit_nI, bc_nI, bits_nI, lx0, lx1, lx2, lx3, lx4, lx5, lx6, lx7, lx8, lx9, lx10, lx11, lx16, lx20, lx40, lx60, lx90, lx99, lx100, lx200, lx900, lx999, lx9999, lN_add, lN_mul, nI_l, cl_le, cl_gt, cl_eq, pk_lEQ, ly0, ly1, ly2, ly100, hS5, st0, hc, nI_l, ly74, ly75, ly65537, r1, lN_i, r2, jo_118 hW5, mb_o hC5, mb_s3 hC5, mb_r3 hC5, mb_j3 hC5, mb_a3 hC5, ja_129 hW5, wr_118_27 hW5]
      · rintro st σ5 ⟨rfl, hF5, hl5, hw5⟩
        have hW5 := Fr_Wd hF5 hW
        have hC5 := MT_fr hC hF5
        have hS5 : σ5.2.2.2 118 3 = some b := by rw [hF5.2.1]; exact hS
        refine ⟨_, σ5, ?_, rfl, hF5, fun j hj => ?_, hw5⟩
        · simp (disch := omega) only [jb_some, jli, jif, jd_q, jd_K0, jpi_s, jpi_l, jpi_p, jpl_s, jpl_i, jpl_p, if_true, if_false, if_pos, if_neg, not_true_eq_false, not_false_eq_true, ite_true, ite_false, Nat.not_lt_zero, eq_self, Nat.le_refl, Nat.lt_irrefl, Bool.false_eq_true, or0, jo_pi, jo_pl, jia_pi, jia_pl, jo_cpy, jia_cpy, cpy_r, m_X11_grant, m_X11_refuse, m_X13_good, m_X13_refused, reduceCtorEq, nI_add, nI_leI, nI_ltI, nI_eq, pk_mul, abs_nI, max_nI, min_nI, nI_m1, nI_m2, nI_le1, m1_lt, m2_lt, and_nI, or_nI, an_nI, has_nI, bit_nI, bc_nI, bits_nI, lx0, lx1, lx2, lx3, lx4, lx5, lx6, lx7, lx8, lx9, lx10, lx11, lx16, lx20, lx40, lx60, lx90, lx99, lx100, lx200, lx900, lx999, lx9999, hS5, jo_118 hW5, mb_o hC5, mb_s3 hC5]
          rfl
        · rw [hl5 j hj, if_pos hj]
    · rintro st σ' ⟨rfl, hF, hl, hw⟩
      refine ⟨(), σ', ?_, hF, hl, hw⟩
      simp (disch := omega) only [jb_some, jli, jif, jd_q, jd_K0, jpi_s, jpi_l, jpi_p, jpl_s, jpl_i, jpl_p, if_true, if_false, if_pos, if_neg, not_true_eq_false, not_false_eq_true, ite_true, ite_false, Nat.not_lt_zero, eq_self, Nat.le_refl, Nat.lt_irrefl, Bool.false_eq_true, or0, jo_pi, jo_pl, jia_pi, jia_pl, jo_cpy, jia_cpy, cpy_r, m_X11_grant, m_X11_refuse, m_X13_good, m_X13_refused, reduceCtorEq, nI_add, nI_leI, nI_ltI, nI_eq, pk_mul, abs_nI, max_nI, min_nI, nI_m1, nI_m2, nI_le1, m1_lt, m2_lt, and_nI, or_nI, an_nI, has_nI, bit_nI, bc_nI, bits_nI, lx0, lx1, lx2, lx3, lx4, lx5, lx6, lx7, lx8, lx9, lx10, lx11, lx16, lx20, lx40, lx60, lx90, lx99, lx100, lx200, lx900, lx999, lx9999]
  · rintro i st σ' hi ⟨rfl, hF, hz, hw⟩
    have hW' := Fr_Wd hF hW
    have h6 : ¬ 6 ≤ i := by omega
    refine ⟨nI (i + 1), jd_pi σ' 129 i (nI 0), ?_, rfl, Fr_pi hF (Or.inr (Or.inr (by omega))), fun j hj => ?_, (pi_ne _ _ (by omega)).trans hw⟩
    · simp (disch := omega) only [jb_some, jli, jif, jd_q, jd_K0, jpi_s, jpi_l, jpi_p, jpl_s, jpl_i, jpl_p, if_true, if_false, if_pos, if_neg, not_true_eq_false, not_false_eq_true, ite_true, ite_false, Nat.not_lt_zero, eq_self, Nat.le_refl, Nat.lt_irrefl, Bool.false_eq_true, or0, jo_pi, jo_pl, jia_pi, jia_pl, jo_cpy, jia_cpy, cpy_r, m_X11_grant, m_X11_refuse, m_X13_good, m_X13_refused, reduceCtorEq, nI_add, nI_leI, nI_ltI, nI_eq, pk_mul, abs_nI, max_nI, min_nI, nI_m1, nI_m2, nI_le1, m1_lt, m2_lt, and_nI, or_nI, an_nI, has_nI, bit_nI, bc_nI, bits_nI, lx0, lx1, lx2, lx3, lx4, lx5, lx6, lx7, lx8, lx9, lx10, lx11, lx16, lx20, lx40, lx60, lx90, lx99, lx100, lx200, lx900, lx999, lx9999, h6, jo_118 hW', wr_118_27 hW', ja_129 hW']
    · by_cases hji : j = i
      · rw [hji, pi_eq]
      · rw [pi_ne _ _ (by omega)]
        exact hz j (by omega)
  · rintro st σ' ⟨rfl, hF, hz, hw⟩
    refine ⟨(), σ', ?_, hF, hz, hw⟩
    simp (disch := omega) only [jb_some, jli, jif, jd_q, jd_K0, jpi_s, jpi_l, jpi_p, jpl_s, jpl_i, jpl_p, if_true, if_false, if_pos, if_neg, not_true_eq_false, not_false_eq_true, ite_true, ite_false, Nat.not_lt_zero, eq_self, Nat.le_refl, Nat.lt_irrefl, Bool.false_eq_true, or0, jo_pi, jo_pl, jia_pi, jia_pl, jo_cpy, jia_cpy, cpy_r, m_X11_grant, m_X11_refuse, m_X13_good, m_X13_refused, reduceCtorEq, nI_add, nI_leI, nI_ltI, nI_eq, pk_mul, abs_nI, max_nI, min_nI, nI_m1, nI_m2, nI_le1, m1_lt, m2_lt, and_nI, or_nI, an_nI, has_nI, bit_nI, bc_nI, bits_nI, lx0, lx1, lx2, lx3, lx4, lx5, lx6, lx7, lx8, lx9, lx10, lx11, lx16, lx20, lx40, lx60, lx90, lx99, lx100, lx200, lx900, lx999, lx9999]
theorem y_refusesSeed (a : Nat) (s n : Int32) (ha : a ≤ 1) : m_X13_refusesSeed 118 (nI a) s n σ = some (if a = 0 then nI 1 else if (rgN s 0 65536).isSome && (rgN n 0 90).isSome then nI 0 else nI 2, σ) := by
  have e1 := y_in (σ := σ) s 0 65536 (by decide) (by decide)
  have e2 := y_in (σ := σ) n 0 90 (by decide) (by decide)
  unfold m_X13_refusesSeed
  have h : a = 0 ∨ a = 1 := by omega
  rcases h with rfl | rfl
  · simp (disch := omega) only [jb_some, jli, jif, jd_q, jd_K0, jpi_s, jpi_l, jpi_p, jpl_s, jpl_i, jpl_p, if_true, if_false, if_pos, if_neg, not_true_eq_false, not_false_eq_true, ite_true, ite_false, Nat.not_lt_zero, eq_self, Nat.le_refl, Nat.lt_irrefl, Bool.false_eq_true, or0, jo_pi, jo_pl, jia_pi, jia_pl, jo_cpy, jia_cpy, cpy_r, m_X11_grant, m_X11_refuse, m_X13_good, m_X13_refused, reduceCtorEq, nI_add, nI_leI, nI_ltI, nI_eq, pk_mul, abs_nI, max_nI, min_nI, nI_m1, nI_m2, nI_le1, m1_lt, m2_lt, and_nI, or_nI, an_nI, has_nI, bit_nI, bc_nI, bits_nI, lx0, lx1, lx2, lx3, lx4, lx5, lx6, lx7, lx8, lx9, lx10, lx11, lx16, lx20, lx40, lx60, lx90, lx99, lx100, lx200, lx900, lx999, lx9999]
  · rcases hi : rgN s 0 65536 with _ | i
    · simp (disch := omega) only [jb_some, jli, jif, jd_q, jd_K0, jpi_s, jpi_l, jpi_p, jpl_s, jpl_i, jpl_p, if_true, if_false, if_pos, if_neg, not_true_eq_false, not_false_eq_true, ite_true, ite_false, Nat.not_lt_zero, eq_self, Nat.le_refl, Nat.lt_irrefl, Bool.false_eq_true, or0, jo_pi, jo_pl, jia_pi, jia_pl, jo_cpy, jia_cpy, cpy_r, m_X11_grant, m_X11_refuse, m_X13_good, m_X13_refused, reduceCtorEq, nI_add, nI_leI, nI_ltI, nI_eq, pk_mul, abs_nI, max_nI, min_nI, nI_m1, nI_m2, nI_le1, m1_lt, m2_lt, and_nI, or_nI, an_nI, has_nI, bit_nI, bc_nI, bits_nI, lx0, lx1, lx2, lx3, lx4, lx5, lx6, lx7, lx8, lx9, lx10, lx11, lx16, lx20, lx40, lx60, lx90, lx99, lx100, lx200, lx900, lx999, lx9999, lx65536, e1, hi, Option.isSome, Bool.false_and]
    · rcases hj : rgN n 0 90 with _ | j
      · simp (disch := omega) only [jb_some, jli, jif, jd_q, jd_K0, jpi_s, jpi_l, jpi_p, jpl_s, jpl_i, jpl_p, if_true, if_false, if_pos, if_neg, not_true_eq_false, not_false_eq_true, ite_true, ite_false, Nat.not_lt_zero, eq_self, Nat.le_refl, Nat.lt_irrefl, Bool.false_eq_true, or0, jo_pi, jo_pl, jia_pi, jia_pl, jo_cpy, jia_cpy, cpy_r, m_X11_grant, m_X11_refuse, m_X13_good, m_X13_refused, reduceCtorEq, nI_add, nI_leI, nI_ltI, nI_eq, pk_mul, abs_nI, max_nI, min_nI, nI_m1, nI_m2, nI_le1, m1_lt, m2_lt, and_nI, or_nI, an_nI, has_nI, bit_nI, bc_nI, bits_nI, lx0, lx1, lx2, lx3, lx4, lx5, lx6, lx7, lx8, lx9, lx10, lx11, lx16, lx20, lx40, lx60, lx90, lx99, lx100, lx200, lx900, lx999, lx9999, lx65536, e1, e2, hi, hj, Option.isSome, Bool.and_false]
      · simp (disch := omega) only [jb_some, jli, jif, jd_q, jd_K0, jpi_s, jpi_l, jpi_p, jpl_s, jpl_i, jpl_p, if_true, if_false, if_pos, if_neg, not_true_eq_false, not_false_eq_true, ite_true, ite_false, Nat.not_lt_zero, eq_self, Nat.le_refl, Nat.lt_irrefl, Bool.false_eq_true, or0, jo_pi, jo_pl, jia_pi, jia_pl, jo_cpy, jia_cpy, cpy_r, m_X11_grant, m_X11_refuse, m_X13_good, m_X13_refused, reduceCtorEq, nI_add, nI_leI, nI_ltI, nI_eq, pk_mul, abs_nI, max_nI, min_nI, nI_m1, nI_m2, nI_le1, m1_lt, m2_lt, and_nI, or_nI, an_nI, has_nI, bit_nI, bc_nI, bits_nI, lx0, lx1, lx2, lx3, lx4, lx5, lx6, lx7, lx8, lx9, lx10, lx11, lx16, lx20, lx40, lx60, lx90, lx99, lx100, lx200, lx900, lx999, lx9999, lx65536, e1, e2, hi, hj, Option.isSome, Bool.and_self]
end
set_option maxHeartbeats 2000000 in
theorem M_afternoons {o : BO} {b : Nat} {σ : jd_Hp} (h : RMc o b σ) (p : Int32) (s : Int32) (n : Int32) : OM (m_X13_afternoons 118 p s n σ) (a_afternoons o p s n) σ := by
  have F1 : Fr DM L0 σ (jd_pi σ 118 0 0) := Fr_pi (Fr_refl σ) (Or.inl ⟨rfl, by omega⟩)
  have h1 := RMc_fr h F1
  unfold m_X13_afternoons
  rw [jli]
  generalize jd_pi σ 118 0 0 = τ at *
  obtain ⟨hW, h1⟩ := h1
  rcases o with _ | ⟨B, N⟩
  · have hS : τ.2.2.2 118 3 = none := h1
    simp (disch := omega) only [jb_some, jli, jif, jd_q, jd_K0, jpi_s, jpi_l, jpi_p, jpl_s, jpl_i, jpl_p, if_true, if_false, if_pos, if_neg, not_true_eq_false, not_false_eq_true, ite_true, ite_false, Nat.not_lt_zero, eq_self, Nat.le_refl, Nat.lt_irrefl, Bool.false_eq_true, or0, jo_pi, jo_pl, jia_pi, jia_pl, jo_cpy, jia_cpy, cpy_r, m_X11_grant, m_X11_refuse, m_X13_good, m_X13_refused, reduceCtorEq, nI_add, nI_leI, nI_ltI, nI_eq, pk_mul, abs_nI, max_nI, min_nI, nI_m1, nI_m2, nI_le1, m1_lt, m2_lt, and_nI, or_nI, an_nI, has_nI, bit_nI, bc_nI, bits_nI, lx0, lx1, lx2, lx3, lx4, lx5, lx6, lx7, lx8, lx9, lx10, lx11, lx16, lx20, lx40, lx60, lx90, lx99, lx100, lx200, lx900, lx999, lx9999, jo_118 hW, ja_119 hW, ja_120 hW, ja_121 hW, ja_122 hW, ja_123 hW, ja_124 hW, ja_125 hW, ja_126 hW, ja_127 hW, ja_128 hW, ja_129 hW, wr_118_5 hW, wr_118_15 hW, wr_118_16 hW, wr_118_17 hW, wr_118_18 hW, wr_118_21 hW, wr_118_22 hW, wr_118_23 hW, wr_118_25 hW, wr_118_26 hW, wr_118_27 hW, hS, m_X13_isPerson, m_X13_isPost, m_X13_refusesMinute, m_X13_refusesFear, m_X13_refusesSeed, m_X13_lostBy, m_X13_changes]
    exact OM_of F1
  · obtain ⟨hS, hC, hV, hb, hn⟩ : τ.2.2.2 118 3 = some b ∧ MT B b τ ∧ MV B N τ ∧ bOk B ∧ nOk B N := h1
    have hb2 := hb.2.1
    have hb3 := hb.2.2.1
    have ePe := y_isPerson hS hC hb
    have ePo := y_isPost hS hC hb
    have eW := y_works hW
    have hA := wk_MA hW hS hC hV hb
    have hA2 := wk_MV hV
    have FW := Fr_tr F1 (wk_fr τ)
    show OM _ (a_afternoons (some (B, N)) p s n) σ
    unfold a_afternoons
    have eR := fun a ha => y_refusesSeed (σ := τ) a s n ha
    rcases hj : ixN p (B 8 3) with _ | j
    · have e1 := eR 0 (by omega)
      simp (disch := omega) only [jb_some, jli, jif, jd_q, jd_K0, jpi_s, jpi_l, jpi_p, jpl_s, jpl_i, jpl_p, if_true, if_false, if_pos, if_neg, not_true_eq_false, not_false_eq_true, ite_true, ite_false, Nat.not_lt_zero, eq_self, Nat.le_refl, Nat.lt_irrefl, Bool.false_eq_true, or0, jo_pi, jo_pl, jia_pi, jia_pl, jo_cpy, jia_cpy, cpy_r, m_X11_grant, m_X11_refuse, m_X13_good, m_X13_refused, reduceCtorEq, nI_add, nI_leI, nI_ltI, nI_eq, pk_mul, abs_nI, max_nI, min_nI, nI_m1, nI_m2, nI_le1, m1_lt, m2_lt, and_nI, or_nI, an_nI, has_nI, bit_nI, bc_nI, bits_nI, lx0, lx1, lx2, lx3, lx4, lx5, lx6, lx7, lx8, lx9, lx10, lx11, lx16, lx20, lx40, lx60, lx90, lx99, lx100, lx200, lx900, lx999, lx9999, jo_118 hW, ja_119 hW, ja_120 hW, ja_121 hW, ja_122 hW, ja_123 hW, ja_124 hW, ja_125 hW, ja_126 hW, ja_127 hW, ja_128 hW, ja_129 hW, wr_118_5 hW, wr_118_15 hW, wr_118_16 hW, wr_118_17 hW, wr_118_18 hW, wr_118_21 hW, wr_118_22 hW, wr_118_23 hW, wr_118_25 hW, wr_118_26 hW, wr_118_27 hW, ePe, hj, Option.isSome, e1]
      exact OM_of F1
    · obtain ⟨h2, rfl⟩ := ixN_some hj
      have e1 := eR 1 (by omega)
      rcases hi : rgN s 0 65536 with _ | i
      · simp (disch := omega) only [jb_some, jli, jif, jd_q, jd_K0, jpi_s, jpi_l, jpi_p, jpl_s, jpl_i, jpl_p, if_true, if_false, if_pos, if_neg, not_true_eq_false, not_false_eq_true, ite_true, ite_false, Nat.not_lt_zero, eq_self, Nat.le_refl, Nat.lt_irrefl, Bool.false_eq_true, or0, jo_pi, jo_pl, jia_pi, jia_pl, jo_cpy, jia_cpy, cpy_r, m_X11_grant, m_X11_refuse, m_X13_good, m_X13_refused, reduceCtorEq, nI_add, nI_leI, nI_ltI, nI_eq, pk_mul, abs_nI, max_nI, min_nI, nI_m1, nI_m2, nI_le1, m1_lt, m2_lt, and_nI, or_nI, an_nI, has_nI, bit_nI, bc_nI, bits_nI, lx0, lx1, lx2, lx3, lx4, lx5, lx6, lx7, lx8, lx9, lx10, lx11, lx16, lx20, lx40, lx60, lx90, lx99, lx100, lx200, lx900, lx999, lx9999, jo_118 hW, ja_119 hW, ja_120 hW, ja_121 hW, ja_122 hW, ja_123 hW, ja_124 hW, ja_125 hW, ja_126 hW, ja_127 hW, ja_128 hW, ja_129 hW, wr_118_5 hW, wr_118_15 hW, wr_118_16 hW, wr_118_17 hW, wr_118_18 hW, wr_118_21 hW, wr_118_22 hW, wr_118_23 hW, wr_118_25 hW, wr_118_26 hW, wr_118_27 hW, ePe, hj, hi, Option.isSome, e1, Bool.false_and]
        exact OM_of F1
      · rcases hk : rgN n 0 90 with _ | k
        · simp (disch := omega) only [jb_some, jli, jif, jd_q, jd_K0, jpi_s, jpi_l, jpi_p, jpl_s, jpl_i, jpl_p, if_true, if_false, if_pos, if_neg, not_true_eq_false, not_false_eq_true, ite_true, ite_false, Nat.not_lt_zero, eq_self, Nat.le_refl, Nat.lt_irrefl, Bool.false_eq_true, or0, jo_pi, jo_pl, jia_pi, jia_pl, jo_cpy, jia_cpy, cpy_r, m_X11_grant, m_X11_refuse, m_X13_good, m_X13_refused, reduceCtorEq, nI_add, nI_leI, nI_ltI, nI_eq, pk_mul, abs_nI, max_nI, min_nI, nI_m1, nI_m2, nI_le1, m1_lt, m2_lt, and_nI, or_nI, an_nI, has_nI, bit_nI, bc_nI, bits_nI, lx0, lx1, lx2, lx3, lx4, lx5, lx6, lx7, lx8, lx9, lx10, lx11, lx16, lx20, lx40, lx60, lx90, lx99, lx100, lx200, lx900, lx999, lx9999, jo_118 hW, ja_119 hW, ja_120 hW, ja_121 hW, ja_122 hW, ja_123 hW, ja_124 hW, ja_125 hW, ja_126 hW, ja_127 hW, ja_128 hW, ja_129 hW, wr_118_5 hW, wr_118_15 hW, wr_118_16 hW, wr_118_17 hW, wr_118_18 hW, wr_118_21 hW, wr_118_22 hW, wr_118_23 hW, wr_118_25 hW, wr_118_26 hW, wr_118_27 hW, ePe, hj, hi, hk, Option.isSome, e1, Bool.and_false]
          exact OM_of F1
        · obtain ⟨rfl, h3, h4⟩ := rgN_some (by decide) hi (by decide)
          obtain ⟨rfl, h5, h6⟩ := rgN_some (by decide) hk (by decide)
          obtain ⟨σ', e2, F, l1, w1⟩ := y_afternoonsAll hW hS hC hV hb hn (s := i) (by omega) h6
          have l2 := l1 j h2
          have hW' := Fr_Wd F hW
          simp (disch := omega) only [jb_some, jli, jif, jd_q, jd_K0, jpi_s, jpi_l, jpi_p, jpl_s, jpl_i, jpl_p, if_true, if_false, if_pos, if_neg, not_true_eq_false, not_false_eq_true, ite_true, ite_false, Nat.not_lt_zero, eq_self, Nat.le_refl, Nat.lt_irrefl, Bool.false_eq_true, or0, jo_pi, jo_pl, jia_pi, jia_pl, jo_cpy, jia_cpy, cpy_r, m_X11_grant, m_X11_refuse, m_X13_good, m_X13_refused, reduceCtorEq, nI_add, nI_leI, nI_ltI, nI_eq, pk_mul, abs_nI, max_nI, min_nI, nI_m1, nI_m2, nI_le1, m1_lt, m2_lt, and_nI, or_nI, an_nI, has_nI, bit_nI, bc_nI, bits_nI, lx0, lx1, lx2, lx3, lx4, lx5, lx6, lx7, lx8, lx9, lx10, lx11, lx16, lx20, lx40, lx60, lx90, lx99, lx100, lx200, lx900, lx999, lx9999, jo_118 hW, ja_119 hW, ja_120 hW, ja_121 hW, ja_122 hW, ja_123 hW, ja_124 hW, ja_125 hW, ja_126 hW, ja_127 hW, ja_128 hW, ja_129 hW, wr_118_5 hW, wr_118_15 hW, wr_118_16 hW, wr_118_17 hW, wr_118_18 hW, wr_118_21 hW, wr_118_22 hW, wr_118_23 hW, wr_118_25 hW, wr_118_26 hW, wr_118_27 hW, ePe, hj, hi, hk, Option.isSome, e1, Bool.and_self, e2, l2, wr_118_27 hW', ja_129 hW']
          exact OM_of (Fr_tr F1 F)
set_option maxHeartbeats 2000000 in
theorem M_worst {o : BO} {b : Nat} {σ : jd_Hp} (h : RMc o b σ) (s : Int32) (n : Int32) : OM (m_X13_worst 118 s n σ) (a_worst o s n) σ := by
  have F1 : Fr DM L0 σ (jd_pi σ 118 0 0) := Fr_pi (Fr_refl σ) (Or.inl ⟨rfl, by omega⟩)
  have h1 := RMc_fr h F1
  unfold m_X13_worst
  rw [jli]
  generalize jd_pi σ 118 0 0 = τ at *
  obtain ⟨hW, h1⟩ := h1
  rcases o with _ | ⟨B, N⟩
  · have hS : τ.2.2.2 118 3 = none := h1
    simp (disch := omega) only [jb_some, jli, jif, jd_q, jd_K0, jpi_s, jpi_l, jpi_p, jpl_s, jpl_i, jpl_p, if_true, if_false, if_pos, if_neg, not_true_eq_false, not_false_eq_true, ite_true, ite_false, Nat.not_lt_zero, eq_self, Nat.le_refl, Nat.lt_irrefl, Bool.false_eq_true, or0, jo_pi, jo_pl, jia_pi, jia_pl, jo_cpy, jia_cpy, cpy_r, m_X11_grant, m_X11_refuse, m_X13_good, m_X13_refused, reduceCtorEq, nI_add, nI_leI, nI_ltI, nI_eq, pk_mul, abs_nI, max_nI, min_nI, nI_m1, nI_m2, nI_le1, m1_lt, m2_lt, and_nI, or_nI, an_nI, has_nI, bit_nI, bc_nI, bits_nI, lx0, lx1, lx2, lx3, lx4, lx5, lx6, lx7, lx8, lx9, lx10, lx11, lx16, lx20, lx40, lx60, lx90, lx99, lx100, lx200, lx900, lx999, lx9999, jo_118 hW, ja_119 hW, ja_120 hW, ja_121 hW, ja_122 hW, ja_123 hW, ja_124 hW, ja_125 hW, ja_126 hW, ja_127 hW, ja_128 hW, ja_129 hW, wr_118_5 hW, wr_118_15 hW, wr_118_16 hW, wr_118_17 hW, wr_118_18 hW, wr_118_21 hW, wr_118_22 hW, wr_118_23 hW, wr_118_25 hW, wr_118_26 hW, wr_118_27 hW, hS, m_X13_isPerson, m_X13_isPost, m_X13_refusesMinute, m_X13_refusesFear, m_X13_refusesSeed, m_X13_lostBy, m_X13_changes]
    exact OM_of F1
  · obtain ⟨hS, hC, hV, hb, hn⟩ : τ.2.2.2 118 3 = some b ∧ MT B b τ ∧ MV B N τ ∧ bOk B ∧ nOk B N := h1
    have hb2 := hb.2.1
    have hb3 := hb.2.2.1
    have ePe := y_isPerson hS hC hb
    have ePo := y_isPost hS hC hb
    have eW := y_works hW
    have hA := wk_MA hW hS hC hV hb
    have hA2 := wk_MV hV
    have FW := Fr_tr F1 (wk_fr τ)
    show OM _ (a_worst (some (B, N)) s n) σ
    unfold a_worst
    have e1 := y_refusesSeed (σ := τ) 1 s n (by omega)
    rcases hi : rgN s 0 65536 with _ | i
    · simp (disch := omega) only [jb_some, jli, jif, jd_q, jd_K0, jpi_s, jpi_l, jpi_p, jpl_s, jpl_i, jpl_p, if_true, if_false, if_pos, if_neg, not_true_eq_false, not_false_eq_true, ite_true, ite_false, Nat.not_lt_zero, eq_self, Nat.le_refl, Nat.lt_irrefl, Bool.false_eq_true, or0, jo_pi, jo_pl, jia_pi, jia_pl, jo_cpy, jia_cpy, cpy_r, m_X11_grant, m_X11_refuse, m_X13_good, m_X13_refused, reduceCtorEq, nI_add, nI_leI, nI_ltI, nI_eq, pk_mul, abs_nI, max_nI, min_nI, nI_m1, nI_m2, nI_le1, m1_lt, m2_lt, and_nI, or_nI, an_nI, has_nI, bit_nI, bc_nI, bits_nI, lx0, lx1, lx2, lx3, lx4, lx5, lx6, lx7, lx8, lx9, lx10, lx11, lx16, lx20, lx40, lx60, lx90, lx99, lx100, lx200, lx900, lx999, lx9999, jo_118 hW, ja_119 hW, ja_120 hW, ja_121 hW, ja_122 hW, ja_123 hW, ja_124 hW, ja_125 hW, ja_126 hW, ja_127 hW, ja_128 hW, ja_129 hW, wr_118_5 hW, wr_118_15 hW, wr_118_16 hW, wr_118_17 hW, wr_118_18 hW, wr_118_21 hW, wr_118_22 hW, wr_118_23 hW, wr_118_25 hW, wr_118_26 hW, wr_118_27 hW, hS, hi, Option.isSome, e1, Bool.false_and]
      exact OM_of F1
    · rcases hk : rgN n 0 90 with _ | k
      · simp (disch := omega) only [jb_some, jli, jif, jd_q, jd_K0, jpi_s, jpi_l, jpi_p, jpl_s, jpl_i, jpl_p, if_true, if_false, if_pos, if_neg, not_true_eq_false, not_false_eq_true, ite_true, ite_false, Nat.not_lt_zero, eq_self, Nat.le_refl, Nat.lt_irrefl, Bool.false_eq_true, or0, jo_pi, jo_pl, jia_pi, jia_pl, jo_cpy, jia_cpy, cpy_r, m_X11_grant, m_X11_refuse, m_X13_good, m_X13_refused, reduceCtorEq, nI_add, nI_leI, nI_ltI, nI_eq, pk_mul, abs_nI, max_nI, min_nI, nI_m1, nI_m2, nI_le1, m1_lt, m2_lt, and_nI, or_nI, an_nI, has_nI, bit_nI, bc_nI, bits_nI, lx0, lx1, lx2, lx3, lx4, lx5, lx6, lx7, lx8, lx9, lx10, lx11, lx16, lx20, lx40, lx60, lx90, lx99, lx100, lx200, lx900, lx999, lx9999, jo_118 hW, ja_119 hW, ja_120 hW, ja_121 hW, ja_122 hW, ja_123 hW, ja_124 hW, ja_125 hW, ja_126 hW, ja_127 hW, ja_128 hW, ja_129 hW, wr_118_5 hW, wr_118_15 hW, wr_118_16 hW, wr_118_17 hW, wr_118_18 hW, wr_118_21 hW, wr_118_22 hW, wr_118_23 hW, wr_118_25 hW, wr_118_26 hW, wr_118_27 hW, hS, hi, hk, Option.isSome, e1, Bool.and_false]
        exact OM_of F1
      · obtain ⟨rfl, h3, h4⟩ := rgN_some (by decide) hi (by decide)
        obtain ⟨rfl, h5, h6⟩ := rgN_some (by decide) hk (by decide)
        obtain ⟨σ', e2, F, l1, w1⟩ := y_afternoonsAll hW hS hC hV hb hn (s := i) (by omega) h6
        simp (disch := omega) only [jb_some, jli, jif, jd_q, jd_K0, jpi_s, jpi_l, jpi_p, jpl_s, jpl_i, jpl_p, if_true, if_false, if_pos, if_neg, not_true_eq_false, not_false_eq_true, ite_true, ite_false, Nat.not_lt_zero, eq_self, Nat.le_refl, Nat.lt_irrefl, Bool.false_eq_true, or0, jo_pi, jo_pl, jia_pi, jia_pl, jo_cpy, jia_cpy, cpy_r, m_X11_grant, m_X11_refuse, m_X13_good, m_X13_refused, reduceCtorEq, nI_add, nI_leI, nI_ltI, nI_eq, pk_mul, abs_nI, max_nI, min_nI, nI_m1, nI_m2, nI_le1, m1_lt, m2_lt, and_nI, or_nI, an_nI, has_nI, bit_nI, bc_nI, bits_nI, lx0, lx1, lx2, lx3, lx4, lx5, lx6, lx7, lx8, lx9, lx10, lx11, lx16, lx20, lx40, lx60, lx90, lx99, lx100, lx200, lx900, lx999, lx9999, jo_118 hW, ja_119 hW, ja_120 hW, ja_121 hW, ja_122 hW, ja_123 hW, ja_124 hW, ja_125 hW, ja_126 hW, ja_127 hW, ja_128 hW, ja_129 hW, wr_118_5 hW, wr_118_15 hW, wr_118_16 hW, wr_118_17 hW, wr_118_18 hW, wr_118_21 hW, wr_118_22 hW, wr_118_23 hW, wr_118_25 hW, wr_118_26 hW, wr_118_27 hW, hS, hi, hk, Option.isSome, e1, Bool.and_self, e2, w1]
        exact OM_of (Fr_tr F1 F)
