/-! P (43): the reference's other LINES -/
section
variable {tp : Nat → Nat} {n i r : Nat} {σ σ' σ1 : jd_Hp} {B : Bch} {α β : Type}
set_option maxHeartbeats 4000000 in
theorem y_readPost (h : MRd tp n B r i σ) : RW tp n r (if B 8 0 = 0 then .inl (6, tS tp n i) else if B 8 4 < 5 then e_post tp n B (tE tp n i) else .inl (5, tS tp n i)) (m_X13_readPost 118 σ) σ := by
  obtain ⟨hB, hQ, hK, hi, h12, hO, h9, hz⟩ := h
  have h131 := hQ.2.1
  have hj := (tE_le (tp := tp) hi).2
  obtain ⟨r1, r2, r3, -, -, -, -, r8, -⟩ := id hO
  have e3 : σ.2.1 r 4 = nI (B 8 4) := mq_s hQ (by decide)
  have sp : (if B 8 0 = 0 then (.inl (6, tS tp n i) : Fl ⊕ (Bch × Nat)) else if B 8 4 < 5 then e_post tp n B (tE tp n i) else .inl (5, tS tp n i)) = e_b (if B 8 4 = 5 then (.inl (5, tS tp n i) : Fl ⊕ Nat) else if B 8 0 = 0 then .inl (6, tS tp n i) else .inr (tE tp n i)) fun j => if B 8 4 < 5 ∧ ¬ B 8 0 = 0 then e_post tp n B j else .inl (0, 0) := by
    by_cases h0 : B 8 0 = 0
    · have := hz h0
      rw [if_pos h0, if_neg (by omega), if_pos h0]
      rfl
    · rw [if_neg h0]
      by_cases h6 : B 8 4 < 5
      · rw [if_pos h6, if_neg (by omega), if_neg h0]
        show _ = if B 8 4 < 5 ∧ ¬ B 8 0 = 0 then e_post tp n B (tE tp n i) else .inl (0, 0)
        rw [if_pos ⟨h6, h0⟩]
      · rw [if_neg h6, if_pos (by omega)]
        rfl
  rw [sp]
  unfold m_X13_readPost
  rw [hQ.1, mq_o hQ, e3]
  refine RW_b hB.1 hQ (y_lineBegins (a := B 8 4) (b := 5) hB hK hi hQ r3 (by omega) (by decide)) (fun v σ' h5 hW' hQ' => ?_) fun j v σ1 ej F1 c1 hK1 => ?_
  · simp (disch := omega) only [jb_some, jli, jif, jd_q, jd_K0, jpi_s, jpi_l, jpi_p, jpl_s, jpl_i, jpl_p, if_true, if_false, if_pos, if_neg, not_true_eq_false, not_false_eq_true, ite_true, ite_false, Nat.not_lt_zero, eq_self, Nat.le_refl, Nat.lt_irrefl, Bool.false_eq_true, or0, jo_pi, jo_pl, jia_pi, jia_pl, jo_cpy, jia_cpy, cpy_r, m_X11_grant, m_X11_refuse, m_X13_good, m_X13_refused, reduceCtorEq, nI_add, nI_leI, nI_ltI, nI_eq, pk_mul, abs_nI, max_nI, min_nI, nI_m1, nI_m2, nI_le1, m1_lt, m2_lt, and_nI, or_nI, an_nI, has_nI, bit_nI, bc_nI, bits_nI, lx0, lx1, lx2, lx3, lx4, lx5, lx6, lx7, lx8, lx9, lx10, lx11, lx16, lx20, lx40, lx60, lx90, lx99, lx100, lx200, lx900, lx999, lx9999, h5, jo_118 hW', ov_readFresh hW' h5 hQ' (show B 8 8 ≤ 11 by omega), ov_readPart hW' h5]
  have h6 : ¬ B 8 4 = 5 := fun h => by
    rw [if_pos h] at ej
    exact absurd ej (by simp)
  have h0 : ¬ B 8 0 = 0 := fun h => by
    rw [if_neg h6, if_pos h] at ej
    exact absurd ej (by simp)
  rw [if_neg h6, if_neg h0] at ej
  injection ej with ej
  subst ej
  rw [if_pos ⟨by omega, h0⟩]
  have hB1 := MB_y hB F1
  have hQ1 := MQr_y hQ F1
  unfold e_post
  refine RW_b hB1.1 hQ1 (y_readFresh hB1 hK1 hj hQ1 (by omega) h9) (fun v σ' h5 hW' hQ' => ?_) fun x v σ3 ex F3 c3 q3 => ?_
  · simp (disch := omega) only [jb_some, jli, jif, jd_q, jd_K0, jpi_s, jpi_l, jpi_p, jpl_s, jpl_i, jpl_p, if_true, if_false, if_pos, if_neg, not_true_eq_false, not_false_eq_true, ite_true, ite_false, Nat.not_lt_zero, eq_self, Nat.le_refl, Nat.lt_irrefl, Bool.false_eq_true, or0, jo_pi, jo_pl, jia_pi, jia_pl, jo_cpy, jia_cpy, cpy_r, m_X11_grant, m_X11_refuse, m_X13_good, m_X13_refused, reduceCtorEq, nI_add, nI_leI, nI_ltI, nI_eq, pk_mul, abs_nI, max_nI, min_nI, nI_m1, nI_m2, nI_le1, m1_lt, m2_lt, and_nI, or_nI, an_nI, has_nI, bit_nI, bc_nI, bits_nI, lx0, lx1, lx2, lx3, lx4, lx5, lx6, lx7, lx8, lx9, lx10, lx11, lx16, lx20, lx40, lx60, lx90, lx99, lx100, lx200, lx900, lx999, lx9999, h5, ov_readPart hW' h5]
  obtain ⟨rfl, hK3⟩ := q3
  obtain ⟨x1, x2, x3, x4, x5, x6⟩ := e_new_ok hj ex
  have hB3 := MB_y hB1 F3
  have hQ3 := MQr_y hQ1 F3
  refine RW_b hB3.1 hQ3 (y_readPart (w := 14) (lo := 0) (hh := 99) hB3 hK3 x6 (by decide) (by decide) (by decide)) (fun v σ' h5 hW' hQ' => ?_) fun y v σ5 ey F5 c5 q5 => ?_
  · simp (disch := omega) only [jb_some, jli, jif, jd_q, jd_K0, jpi_s, jpi_l, jpi_p, jpl_s, jpl_i, jpl_p, if_true, if_false, if_pos, if_neg, not_true_eq_false, not_false_eq_true, ite_true, ite_false, Nat.not_lt_zero, eq_self, Nat.le_refl, Nat.lt_irrefl, Bool.false_eq_true, or0, jo_pi, jo_pl, jia_pi, jia_pl, jo_cpy, jia_cpy, cpy_r, m_X11_grant, m_X11_refuse, m_X13_good, m_X13_refused, reduceCtorEq, nI_add, nI_leI, nI_ltI, nI_eq, pk_mul, abs_nI, max_nI, min_nI, nI_m1, nI_m2, nI_le1, m1_lt, m2_lt, and_nI, or_nI, an_nI, has_nI, bit_nI, bc_nI, bits_nI, lx0, lx1, lx2, lx3, lx4, lx5, lx6, lx7, lx8, lx9, lx10, lx11, lx16, lx20, lx40, lx60, lx90, lx99, lx100, lx200, lx900, lx999, lx9999, h5, ov_readPart hW' h5]
  obtain ⟨rfl, hK5⟩ := q5
  obtain ⟨y1, y2, y3, y4⟩ := e_lab_ok x6 ey
  have hB5 := MB_y hB3 F5
  have hQ5 := MQr_y hQ3 F5
  refine RW_b hB5.1 hQ5 (y_readPart (w := 17) (lo := 1) (hh := 40) hB5 hK5 y4 (by decide) (by decide) (by decide)) (fun v σ' h5 hW' hQ' => ?_) fun u v σ7 eu F7 c7 q7 => ?_
  · simp (disch := omega) only [jb_some, jli, jif, jd_q, jd_K0, jpi_s, jpi_l, jpi_p, jpl_s, jpl_i, jpl_p, if_true, if_false, if_pos, if_neg, not_true_eq_false, not_false_eq_true, ite_true, ite_false, Nat.not_lt_zero, eq_self, Nat.le_refl, Nat.lt_irrefl, Bool.false_eq_true, or0, jo_pi, jo_pl, jia_pi, jia_pl, jo_cpy, jia_cpy, cpy_r, m_X11_grant, m_X11_refuse, m_X13_good, m_X13_refused, reduceCtorEq, nI_add, nI_leI, nI_ltI, nI_eq, pk_mul, abs_nI, max_nI, min_nI, nI_m1, nI_m2, nI_le1, m1_lt, m2_lt, and_nI, or_nI, an_nI, has_nI, bit_nI, bc_nI, bits_nI, lx0, lx1, lx2, lx3, lx4, lx5, lx6, lx7, lx8, lx9, lx10, lx11, lx16, lx20, lx40, lx60, lx90, lx99, lx100, lx200, lx900, lx999, lx9999, h5]
  obtain ⟨rfl, hK7⟩ := q7
  obtain ⟨u1, u2, u3, u4⟩ := e_lab_ok y4 eu
  have hB7 := MB_y hB5 F7
  have hQ7 := MQr_y hQ5 F7
  have e73 : σ7.2.1 r 4 = nI (B 8 4) := mq_s hQ7 (by decide)
  obtain ⟨σ8, a8, hQ8, F8⟩ := y_names hQ7 (by omega) (w := x.1) (so := 1) (q := B 8 4)
  have p6 : B 8 4 < 5 := by omega
  have p1 := MQr_b hQ8 (k := 0) (q := B 8 4) (v := y.1) (by decide) p6
  have p2 := MQr_b p1 (k := 1) (q := B 8 4) (v := u.1) (by decide) p6
  have p5 := MQr_s p2 (i := 4) (v := B 8 4 + 1) (by decide)
  have e80 : σ8.2.1 r 4 = nI (B 8 4) := mq_s hQ8 (i := 4) (by decide)
  have e81 : (jd_pi σ8 (r + (0 + 7)) (B 8 4) (nI y.1)).2.1 r 4 = nI (B 8 4) := mq_s p1 (i := 4) (by decide)
  have e83 : (jd_pi (jd_pi σ8 (r + (0 + 7)) (B 8 4) (nI y.1)) (r + (1 + 7)) (B 8 4) (nI u.1)).2.1 r 4 = nI (B 8 4) := mq_s p2 (i := 4) (by decide)
  have F9 : Fr (DRr r) (LRr r) σ7 (jd_pi (jd_pi (jd_pi σ8 (r + (0 + 7)) (B 8 4) (nI y.1)) (r + (1 + 7)) (B 8 4) (nI u.1)) r 4 (nI (B 8 4 + 1))) := fr_w (fr_w (fr_w F8 (by omega)) (by omega)) (by omega)
  have e12 : (jd_pi (jd_pi (jd_pi σ8 (r + (0 + 7)) (B 8 4) (nI y.1)) (r + (1 + 7)) (B 8 4) (nI u.1)) r 4 (nI (B 8 4 + 1))).2.1 118 12 = nI 0 := by
    rw [F9.2.2.1 118 12 (by unfold DRr; omega), c7, c5, c3, c1]
    exact h12
  refine ⟨_, ?_, up_w F9, MB_w hB7 h131 F9, p5, MK_w hK7 h131 F9, u4, e12, rOk_Pos hO p6 y2 u2, fun k => ?_, fun hh => ?_⟩
  · rw [jif_t (show ¬ σ7.2.1 118 9 = 5 from MK_9 hK7), hQ7.1, mq_o hQ7, e73, show (1 : Int32) = nI 1 from rfl, a8, jb_some, hQ8.1, mq_o hQ8, mq_r15 hQ8, e80, mq_j7' hQ8 p6, jli]
    show jd_o (jd_pi σ8 (r + (0 + 7)) (B 8 4) (nI y.1)) (12, 20) ((jd_pi σ8 (r + (0 + 7)) (B 8 4) (nI y.1)).2.2.2 118 4) _ = _
    rw [p1.1, mq_o p1, mq_r16 p1, e81, mq_j8' p1 p6, jli]
    show jd_o (jd_pi (jd_pi σ8 (r + (0 + 7)) (B 8 4) (nI y.1)) (r + (1 + 7)) (B 8 4) (nI u.1)) (12, 20) ((jd_pi (jd_pi σ8 (r + (0 + 7)) (B 8 4) (nI y.1)) (r + (1 + 7)) (B 8 4) (nI u.1)).2.2.2 118 4) _ = _
    rw [p2.1, mq_o p2, e83, jli, nI_add]
  · show nPos B x.1 y.1 u.1 9 k < _
    rw [nPos_9]
    split
    · rw [x1]
      exact wv_lt (tok_W hj x3).1
    · exact h9 k
  · have hh : nPos B x.1 y.1 u.1 8 0 = 0 := hh
    rw [nPos_8, if_neg (by decide), if_neg (by decide)] at hh
    exact absurd hh h0
theorem lb_sp {g : Nat → Fl ⊕ (Bch × Nat)} : (if B 8 0 = 0 then (.inl (6, tS tp n i) : Fl ⊕ (Bch × Nat)) else g (tE tp n i)) = e_b (if 0 = 1 then (.inl (5, tS tp n i) : Fl ⊕ Nat) else if B 8 0 = 0 then .inl (6, tS tp n i) else .inr (tE tp n i)) g := by
  rw [if_neg (show ¬ (0 = 1) by decide)]
  by_cases h0 : B 8 0 = 0
  · rw [if_pos h0, if_pos h0]
    rfl
  · rw [if_neg h0, if_neg h0]
    rfl
theorem lb_in {j : Nat} (ej : (if 0 = 1 then (.inl (5, tS tp n i) : Fl ⊕ Nat) else if B 8 0 = 0 then .inl (6, tS tp n i) else .inr (tE tp n i)) = .inr j) : ¬ B 8 0 = 0 ∧ j = tE tp n i := by
  rw [if_neg (show ¬ (0 = 1) by decide)] at ej
  by_cases h0 : B 8 0 = 0
  · rw [if_pos h0] at ej
    exact absurd ej (by simp)
  · rw [if_neg h0] at ej
    injection ej with ej
    exact ⟨h0, ej.symm⟩
set_option maxHeartbeats 2000000 in
theorem y_readManned (h : MRd tp n B r i σ) : RW tp n r (if B 8 0 = 0 then .inl (6, tS tp n i) else e_manned tp n B (tE tp n i)) (m_X13_readManned 118 σ) σ := by
  obtain ⟨hB, hQ, hK, hi, h12, hO, h9, hz⟩ := h
  have h131 := hQ.2.1
  have hj := (tE_le (tp := tp) hi).2
  obtain ⟨r1, r2, r3, -, -, r6, -, r8, -, -, r11⟩ := id hO
  rw [lb_sp (g := fun j => e_manned tp n B j)]
  unfold m_X13_readManned
  refine RW_b hB.1 hQ (y_lineBegins (a := 0) (b := 1) hB hK hi hQ r3 (by decide) (by decide)) (fun v σ' h5 hW' hQ' => ?_) fun j v σ1 ej F1 c1 hK1 => ?_
  · simp (disch := omega) only [jb_some, jli, jif, jd_q, jd_K0, jpi_s, jpi_l, jpi_p, jpl_s, jpl_i, jpl_p, if_true, if_false, if_pos, if_neg, not_true_eq_false, not_false_eq_true, ite_true, ite_false, Nat.not_lt_zero, eq_self, Nat.le_refl, Nat.lt_irrefl, Bool.false_eq_true, or0, jo_pi, jo_pl, jia_pi, jia_pl, jo_cpy, jia_cpy, cpy_r, m_X11_grant, m_X11_refuse, m_X13_good, m_X13_refused, reduceCtorEq, nI_add, nI_leI, nI_ltI, nI_eq, pk_mul, abs_nI, max_nI, min_nI, nI_m1, nI_m2, nI_le1, m1_lt, m2_lt, and_nI, or_nI, an_nI, has_nI, bit_nI, bc_nI, bits_nI, lx0, lx1, lx2, lx3, lx4, lx5, lx6, lx7, lx8, lx9, lx10, lx11, lx16, lx20, lx40, lx60, lx90, lx99, lx100, lx200, lx900, lx999, lx9999, h5, jo_118 hW', ov_knownOne hW' h5 hQ' (show B 8 8 ≤ 11 by omega), ov_goesOn h5]
  obtain ⟨h0, rfl⟩ := lb_in ej
  have hB1 := MB_y hB F1
  have hQ1 := MQr_y hQ F1
  unfold e_manned
  refine RW_b hB1.1 hQ1 (y_knownOne (so := 1) hB1 hK1 hj hQ1 (by omega) h9 (fun k => (r11 k).1) (by decide)) (fun v σ' h5 hW' hQ' => ?_) fun x v σ2 ex F2 c2 q2 => ?_
  · simp (disch := omega) only [jb_some, jli, jif, jd_q, jd_K0, jpi_s, jpi_l, jpi_p, jpl_s, jpl_i, jpl_p, if_true, if_false, if_pos, if_neg, not_true_eq_false, not_false_eq_true, ite_true, ite_false, Nat.not_lt_zero, eq_self, Nat.le_refl, Nat.lt_irrefl, Bool.false_eq_true, or0, jo_pi, jo_pl, jia_pi, jia_pl, jo_cpy, jia_cpy, cpy_r, m_X11_grant, m_X11_refuse, m_X13_good, m_X13_refused, reduceCtorEq, nI_add, nI_leI, nI_ltI, nI_eq, pk_mul, abs_nI, max_nI, min_nI, nI_m1, nI_m2, nI_le1, m1_lt, m2_lt, and_nI, or_nI, an_nI, has_nI, bit_nI, bc_nI, bits_nI, lx0, lx1, lx2, lx3, lx4, lx5, lx6, lx7, lx8, lx9, lx10, lx11, lx16, lx20, lx40, lx60, lx90, lx99, lx100, lx200, lx900, lx999, lx9999, h5, jo_118 hW', ov_goesOn h5]
  obtain ⟨rfl, rfl, x9⟩ := q2
  obtain ⟨x1, x2, x3⟩ := e_told_ok hj ex
  have x4 := told_1 hO x1
  have e5 : σ2.2.1 r 5 = nI (B 8 5) := mq_s hQ1 (by decide)
  have b5 : B 8 5 < 64 := Nat.lt_of_lt_of_le r6 (pow6 (by omega))
  rw [jif_f (show ¬ σ2.2.1 118 9 = 5 from MK_9 hK1), hQ1.1, mq_o hQ1, e5, bit_nI b5 (by omega), jb_some]
  by_cases h1 : (B 8 5).testBit x.1 = true
  · have o5 := fl_OV (σ := σ2) (f := 3) (s := tS tp n (tE tp n i))
    have F5 := fl_fr (σ := σ2) (f := 3) (s := tS tp n (tE tp n i))
    rw [if_pos h1, if_pos h1, jif_f (by decide), show (3 : Int32) = nI 3 from rfl, y_flaw hK1, jb_some, jb_some]
    generalize jd_pi (jd_pi (jd_pi σ2 118 12 (nI 3)) 118 13 (nI (tS tp n (tE tp n i)))) 118 9 (nI 5) = τ at *
    have hW' := Fr_Wd F5 hB1.1
    have h5 := o5.1
    refine ⟨τ, ?_, up_r F5, o5⟩
    simp (disch := omega) only [jb_some, jli, jif, jd_q, jd_K0, jpi_s, jpi_l, jpi_p, jpl_s, jpl_i, jpl_p, if_true, if_false, if_pos, if_neg, not_true_eq_false, not_false_eq_true, ite_true, ite_false, Nat.not_lt_zero, eq_self, Nat.le_refl, Nat.lt_irrefl, Bool.false_eq_true, or0, jo_pi, jo_pl, jia_pi, jia_pl, jo_cpy, jia_cpy, cpy_r, m_X11_grant, m_X11_refuse, m_X13_good, m_X13_refused, reduceCtorEq, nI_add, nI_leI, nI_ltI, nI_eq, pk_mul, abs_nI, max_nI, min_nI, nI_m1, nI_m2, nI_le1, m1_lt, m2_lt, and_nI, or_nI, an_nI, has_nI, bit_nI, bc_nI, bits_nI, lx0, lx1, lx2, lx3, lx4, lx5, lx6, lx7, lx8, lx9, lx10, lx11, lx16, lx20, lx40, lx60, lx90, lx99, lx100, lx200, lx900, lx999, lx9999, h5, jo_118 hW', ov_goesOn h5]
  · obtain ⟨σ3, a3, hK3, F3, c3, hB3⟩ := y_go hB1 hK1 hj
    have hQ3 := MQr_y hQ1 F3
    have e53 : σ3.2.1 r 5 = nI (B 8 5) := mq_s hQ3 (by decide)
    have e4 := fin_lift (B 8 5) b5 x.1 (by omega)
    have p1 := MQr_s hQ3 (i := 5) (v := B 8 5 ||| 2 ^ x.1) (by decide)
    have F4 : Fr (DRr r) (LRr r) σ3 (jd_pi σ3 r 5 (nI (B 8 5 ||| 2 ^ x.1))) := fr_w (Fr_refl σ3) (by omega)
    rw [if_neg h1, if_neg h1, jif_t (by decide), jb_some, jo_118 hB1.1, a3, jb_some, jif_f (show ¬ σ3.2.1 118 9 = 5 from MK_9 hK3), hQ3.1, mq_o hQ3, e53, jli, lx1, e4]
    refine RW_tr (up_r F3) ?_
    have e12 : (jd_pi σ3 r 5 (nI (B 8 5 ||| 2 ^ x.1))).2.1 118 12 = nI 0 := by
      rw [F4.2.2.1 118 12 (by unfold DRr; omega), c3, c1]
      exact h12
    rw [← x9] at hK3
    refine ⟨_, rfl, up_w F4, MB_w hB3 h131 F4, p1, MK_w hK3 h131 F4, x3, e12, rOk_Man hO x4, fun k => ?_, fun hh => ?_⟩
    · show nMan B x.1 9 k < _
      rw [nMan_n _ _ (by decide)]
      exact h9 k
    · have hh : nMan B x.1 8 0 = 0 := hh
      rw [nMan_8, if_neg (by decide)] at hh
      exact absurd hh h0
set_option maxHeartbeats 2000000 in
theorem y_readSign (h : MRd tp n B r i σ) {s : Nat} (hs : 1 ≤ s) (hs2 : s ≤ 2) : RW tp n r (if B 8 0 = 0 then .inl (6, tS tp n i) else e_sign tp n B (tE tp n i) s) (m_X13_readSign 118 (nI s) σ) σ := by
  obtain ⟨hB, hQ, hK, hi, h12, hO, h9, hz⟩ := h
  have h131 := hQ.2.1
  have hj := (tE_le (tp := tp) hi).2
  obtain ⟨r1, r2, r3, -, -, r6, -, r8, -, r10, r11⟩ := id hO
  rw [lb_sp (g := fun j => e_sign tp n B j s)]
  unfold m_X13_readSign
  refine RW_b hB.1 hQ (y_lineBegins (a := 0) (b := 1) hB hK hi hQ r3 (by decide) (by decide)) (fun v σ' h5 hW' hQ' => ?_) fun j v σ1 ej F1 c1 hK1 => ?_
  · simp (disch := omega) only [jb_some, jli, jif, jd_q, jd_K0, jpi_s, jpi_l, jpi_p, jpl_s, jpl_i, jpl_p, if_true, if_false, if_pos, if_neg, not_true_eq_false, not_false_eq_true, ite_true, ite_false, Nat.not_lt_zero, eq_self, Nat.le_refl, Nat.lt_irrefl, Bool.false_eq_true, or0, jo_pi, jo_pl, jia_pi, jia_pl, jo_cpy, jia_cpy, cpy_r, m_X11_grant, m_X11_refuse, m_X13_good, m_X13_refused, reduceCtorEq, nI_add, nI_leI, nI_ltI, nI_eq, pk_mul, abs_nI, max_nI, min_nI, nI_m1, nI_m2, nI_le1, m1_lt, m2_lt, and_nI, or_nI, an_nI, has_nI, bit_nI, bc_nI, bits_nI, lx0, lx1, lx2, lx3, lx4, lx5, lx6, lx7, lx8, lx9, lx10, lx11, lx16, lx20, lx40, lx60, lx90, lx99, lx100, lx200, lx900, lx999, lx9999, h5, jo_118 hW', ov_knownOne hW' h5 hQ' (show B 8 8 ≤ 11 by omega), ov_goesOn h5]
  obtain ⟨h0, rfl⟩ := lb_in ej
  have hB1 := MB_y hB F1
  have hQ1 := MQr_y hQ F1
  unfold e_sign
  refine RW_b hB1.1 hQ1 (y_knownOne (so := 0) hB1 hK1 hj hQ1 (by omega) h9 (fun k => (r11 k).1) (by decide)) (fun v σ' h5 hW' hQ' => ?_) fun x v σ2 ex F2 c2 q2 => ?_
  · simp (disch := omega) only [jb_some, jli, jif, jd_q, jd_K0, jpi_s, jpi_l, jpi_p, jpl_s, jpl_i, jpl_p, if_true, if_false, if_pos, if_neg, not_true_eq_false, not_false_eq_true, ite_true, ite_false, Nat.not_lt_zero, eq_self, Nat.le_refl, Nat.lt_irrefl, Bool.false_eq_true, or0, jo_pi, jo_pl, jia_pi, jia_pl, jo_cpy, jia_cpy, cpy_r, m_X11_grant, m_X11_refuse, m_X13_good, m_X13_refused, reduceCtorEq, nI_add, nI_leI, nI_ltI, nI_eq, pk_mul, abs_nI, max_nI, min_nI, nI_m1, nI_m2, nI_le1, m1_lt, m2_lt, and_nI, or_nI, an_nI, has_nI, bit_nI, bc_nI, bits_nI, lx0, lx1, lx2, lx3, lx4, lx5, lx6, lx7, lx8, lx9, lx10, lx11, lx16, lx20, lx40, lx60, lx90, lx99, lx100, lx200, lx900, lx999, lx9999, h5, jo_118 hW', ov_goesOn h5]
  obtain ⟨rfl, rfl, x9⟩ := q2
  obtain ⟨x1, x2, x3⟩ := e_told_ok hj ex
  have x4 := told_0 hO x1
  have e6 : σ2.2.1 (r + 6) x.1 = nI (B 5 x.1) := mq_a hQ1 (k := 5) (p := x.1) (by decide) (by omega)
  have b5 := (r10 x.1).2.2.2.2.2.1
  rw [jif_f (show ¬ σ2.2.1 118 9 = 5 from MK_9 hK1), hQ1.1, mq_o hQ1, mq_r14 hQ1, mq_j6' hQ1 (by omega), e6]
  by_cases h1 : B 5 x.1 = 0
  · obtain ⟨σ3, a3, hK3, F3, c3, hB3⟩ := y_go hB1 hK1 hj
    have hQ3 := MQr_y hQ1 F3
    have p1 := MQr_a hQ3 (k := 5) (p := x.1) (v := s) (by decide) (by omega)
    have p2 := MQr_s p1 (i := 7) (v := B 8 7 + 1) (by decide)
    have e71 : (jd_pi σ3 (r + (5 + 1)) x.1 (nI s)).2.1 r 7 = nI (B 8 7) := mq_s p1 (i := 7) (by decide)
    have F4 : Fr (DRr r) (LRr r) σ3 (jd_pi (jd_pi σ3 (r + (5 + 1)) x.1 (nI s)) r 7 (nI (B 8 7 + 1))) := fr_w (fr_w (Fr_refl σ3) (by omega)) (by omega)
    rw [if_pos h1, jif_t (by rw [h1]; decide), jb_some, jo_118 hB1.1, a3, jb_some, jif_t (show ¬ σ3.2.1 118 9 = 5 from MK_9 hK3), hQ3.1, mq_o hQ3, mq_r14 hQ3, mq_j6' hQ3 (by omega), jli]
    refine RW_tr (up_r F3) ?_
    have e12 : (jd_pi (jd_pi σ3 (r + (5 + 1)) x.1 (nI s)) r 7 (nI (B 8 7 + 1))).2.1 118 12 = nI 0 := by
      rw [F4.2.2.1 118 12 (by unfold DRr; omega), c3, c1]
      exact h12
    rw [← x9] at hK3
    refine ⟨_, ?_, up_w F4, MB_w hB3 h131 F4, p2, MK_w hK3 h131 F4, x3, e12, rOk_Sig hO x4 h1 hs hs2, fun k => ?_, fun hh => ?_⟩
    · show jd_o (jd_pi σ3 (r + (5 + 1)) x.1 (nI s)) (12, 20) ((jd_pi σ3 (r + (5 + 1)) x.1 (nI s)).2.2.2 118 4) _ = _
      rw [p1.1, mq_o p1, e71, jli, lx1, nI_add]
    · show nSig B x.1 s 9 k < _
      rw [nSig_n _ _ _ (by decide) (by decide)]
      exact h9 k
    · have hh : nSig B x.1 s 8 0 = 0 := hh
      rw [nSig_8, if_neg (by decide)] at hh
      exact absurd hh h0
  · have o5 := fl_OV (σ := σ2) (f := 3) (s := tS tp n (tE tp n i))
    have F5 := fl_fr (σ := σ2) (f := 3) (s := tS tp n (tE tp n i))
    rw [if_neg h1, jif_f (by rw [lx0, nI_leI (by omega) (by omega)]; omega), show (3 : Int32) = nI 3 from rfl, y_flaw hK1, jb_some, jb_some]
    generalize jd_pi (jd_pi (jd_pi σ2 118 12 (nI 3)) 118 13 (nI (tS tp n (tE tp n i)))) 118 9 (nI 5) = τ at *
    have hW' := Fr_Wd F5 hB1.1
    have h5 := o5.1
    refine ⟨τ, ?_, up_r F5, o5⟩
    simp (disch := omega) only [jb_some, jli, jif, jd_q, jd_K0, jpi_s, jpi_l, jpi_p, jpl_s, jpl_i, jpl_p, if_true, if_false, if_pos, if_neg, not_true_eq_false, not_false_eq_true, ite_true, ite_false, Nat.not_lt_zero, eq_self, Nat.le_refl, Nat.lt_irrefl, Bool.false_eq_true, or0, jo_pi, jo_pl, jia_pi, jia_pl, jo_cpy, jia_cpy, cpy_r, m_X11_grant, m_X11_refuse, m_X13_good, m_X13_refused, reduceCtorEq, nI_add, nI_leI, nI_ltI, nI_eq, pk_mul, abs_nI, max_nI, min_nI, nI_m1, nI_m2, nI_le1, m1_lt, m2_lt, and_nI, or_nI, an_nI, has_nI, bit_nI, bc_nI, bits_nI, lx0, lx1, lx2, lx3, lx4, lx5, lx6, lx7, lx8, lx9, lx10, lx11, lx16, lx20, lx40, lx60, lx90, lx99, lx100, lx200, lx900, lx999, lx9999, h5, jo_118 hW', ov_goesOn h5]
set_option maxHeartbeats 4000000 in
theorem y_readKnows (h : MRd tp n B r i σ) : RW tp n r (if B 8 0 = 0 then .inl (6, tS tp n i) else if B 8 6 < 9 then e_knows tp n B (tE tp n i) else .inl (5, tS tp n i)) (m_X13_readKnows 118 σ) σ := by
  obtain ⟨hB, hQ, hK, hi, h12, hO, h9, hz⟩ := h
  have h131 := hQ.2.1
  have hj := (tE_le (tp := tp) hi).2
  obtain ⟨r1, r2, r3, -, -, -, r7, r8, -, r10, r11⟩ := id hO
  have e3 : σ.2.1 r 6 = nI (B 8 6) := mq_s hQ (by decide)
  have sp : (if B 8 0 = 0 then (.inl (6, tS tp n i) : Fl ⊕ (Bch × Nat)) else if B 8 6 < 9 then e_knows tp n B (tE tp n i) else .inl (5, tS tp n i)) = e_b (if B 8 6 = 9 then (.inl (5, tS tp n i) : Fl ⊕ Nat) else if B 8 0 = 0 then .inl (6, tS tp n i) else .inr (tE tp n i)) fun j => if B 8 6 < 9 ∧ ¬ B 8 0 = 0 then e_knows tp n B j else .inl (0, 0) := by
    by_cases h0 : B 8 0 = 0
    · have := hz h0
      rw [if_pos h0, if_neg (by omega), if_pos h0]
      rfl
    · rw [if_neg h0]
      by_cases h6 : B 8 6 < 9
      · rw [if_pos h6, if_neg (by omega), if_neg h0]
        show _ = if B 8 6 < 9 ∧ ¬ B 8 0 = 0 then e_knows tp n B (tE tp n i) else .inl (0, 0)
        rw [if_pos ⟨h6, h0⟩]
      · rw [if_neg h6, if_pos (by omega)]
        rfl
  rw [sp]
  unfold m_X13_readKnows
  rw [hQ.1, mq_o hQ, e3]
  refine RW_b hB.1 hQ (y_lineBegins (a := B 8 6) (b := 9) hB hK hi hQ r3 (by omega) (by decide)) (fun v σ' h5 hW' hQ' => ?_) fun j v σ1 ej F1 c1 hK1 => ?_
  · simp (disch := omega) only [jb_some, jli, jif, jd_q, jd_K0, jpi_s, jpi_l, jpi_p, jpl_s, jpl_i, jpl_p, if_true, if_false, if_pos, if_neg, not_true_eq_false, not_false_eq_true, ite_true, ite_false, Nat.not_lt_zero, eq_self, Nat.le_refl, Nat.lt_irrefl, Bool.false_eq_true, or0, jo_pi, jo_pl, jia_pi, jia_pl, jo_cpy, jia_cpy, cpy_r, m_X11_grant, m_X11_refuse, m_X13_good, m_X13_refused, reduceCtorEq, nI_add, nI_leI, nI_ltI, nI_eq, pk_mul, abs_nI, max_nI, min_nI, nI_m1, nI_m2, nI_le1, m1_lt, m2_lt, and_nI, or_nI, an_nI, has_nI, bit_nI, bc_nI, bits_nI, lx0, lx1, lx2, lx3, lx4, lx5, lx6, lx7, lx8, lx9, lx10, lx11, lx16, lx20, lx40, lx60, lx90, lx99, lx100, lx200, lx900, lx999, lx9999, h5, jo_118 hW', ov_knownOne hW' h5 hQ' (show B 8 8 ≤ 11 by omega), ov_goesOn h5]
  have h6 : ¬ B 8 6 = 9 := fun h => by
    rw [if_pos h] at ej
    exact absurd ej (by simp)
  have h0 : ¬ B 8 0 = 0 := fun h => by
    rw [if_neg h6, if_pos h] at ej
    exact absurd ej (by simp)
  rw [if_neg h6, if_neg h0] at ej
  injection ej with ej
  subst ej
  rw [if_pos ⟨by omega, h0⟩]
  have hB1 := MB_y hB F1
  have hQ1 := MQr_y hQ F1
  unfold e_knows
  refine RW_b hB1.1 hQ1 (y_knownOne (so := 0) hB1 hK1 hj hQ1 (by omega) h9 (fun k => (r11 k).1) (by decide)) (fun v σ' h5 hW' hQ' => ?_) fun x v σ2 ex F2 c2 q2 => ?_
  · simp (disch := omega) only [jb_some, jli, jif, jd_q, jd_K0, jpi_s, jpi_l, jpi_p, jpl_s, jpl_i, jpl_p, if_true, if_false, if_pos, if_neg, not_true_eq_false, not_false_eq_true, ite_true, ite_false, Nat.not_lt_zero, eq_self, Nat.le_refl, Nat.lt_irrefl, Bool.false_eq_true, or0, jo_pi, jo_pl, jia_pi, jia_pl, jo_cpy, jia_cpy, cpy_r, m_X11_grant, m_X11_refuse, m_X13_good, m_X13_refused, reduceCtorEq, nI_add, nI_leI, nI_ltI, nI_eq, pk_mul, abs_nI, max_nI, min_nI, nI_m1, nI_m2, nI_le1, m1_lt, m2_lt, and_nI, or_nI, an_nI, has_nI, bit_nI, bc_nI, bits_nI, lx0, lx1, lx2, lx3, lx4, lx5, lx6, lx7, lx8, lx9, lx10, lx11, lx16, lx20, lx40, lx60, lx90, lx99, lx100, lx200, lx900, lx999, lx9999, h5, jo_118 hW', ov_knownOne hW' h5 hQ' (show B 8 8 ≤ 11 by omega), ov_goesOn h5]
  obtain ⟨rfl, rfl, x9⟩ := q2
  obtain ⟨x1, x2, x3⟩ := e_told_ok hj ex
  have x4 := told_0 hO x1
  obtain ⟨σ3, a3, hK3, F3, c3, hB3⟩ := y_go hB1 hK1 hj
  rw [← x9] at hK3
  have hQ3 := MQr_y hQ1 F3
  rw [a3, jb_some]
  refine RW_tr (up_r F3) ?_
  refine RW_b hB3.1 hQ3 (y_knownOne (so := 0) hB3 hK3 x3 hQ3 (by omega) h9 (fun k => (r11 k).1) (by decide)) (fun v σ' h5 hW' hQ' => ?_) fun y v σ4 ey F4 c4 q4 => ?_
  · simp (disch := omega) only [jb_some, jli, jif, jd_q, jd_K0, jpi_s, jpi_l, jpi_p, jpl_s, jpl_i, jpl_p, if_true, if_false, if_pos, if_neg, not_true_eq_false, not_false_eq_true, ite_true, ite_false, Nat.not_lt_zero, eq_self, Nat.le_refl, Nat.lt_irrefl, Bool.false_eq_true, or0, jo_pi, jo_pl, jia_pi, jia_pl, jo_cpy, jia_cpy, cpy_r, m_X11_grant, m_X11_refuse, m_X13_good, m_X13_refused, reduceCtorEq, nI_add, nI_leI, nI_ltI, nI_eq, pk_mul, abs_nI, max_nI, min_nI, nI_m1, nI_m2, nI_le1, m1_lt, m2_lt, and_nI, or_nI, an_nI, has_nI, bit_nI, bc_nI, bits_nI, lx0, lx1, lx2, lx3, lx4, lx5, lx6, lx7, lx8, lx9, lx10, lx11, lx16, lx20, lx40, lx60, lx90, lx99, lx100, lx200, lx900, lx999, lx9999, h5, jo_118 hW', ov_goesOn h5]
  obtain ⟨rfl, rfl, y9⟩ := q4
  obtain ⟨y1, y2, y3⟩ := e_told_ok x3 ey
  have y4 := told_0 hO y1
  have e5 : σ4.2.1 (r + 5) x.1 = nI (B 4 x.1) := mq_a hQ3 (k := 4) (p := x.1) (by decide) (by omega)
  have b4 : B 4 x.1 < 64 := Nat.lt_of_lt_of_le (r10 x.1).2.2.2.2.1 (pow6 r1)
  have o5 := fl_OV (σ := σ4) (f := 3) (s := tS tp n x.2)
  have F5 := fl_fr (σ := σ4) (f := 3) (s := tS tp n x.2)
  have ef := y_flaw hK3 (f := 3)
  rw [jif_f (show ¬ σ4.2.1 118 9 = 5 from MK_9 hK3)]
  by_cases h1 : y.1 = x.1
  · rw [if_pos h1, jif_t (show nI x.1 = nI y.1 by rw [h1]), show (3 : Int32) = nI 3 from rfl, ef, jb_some, jb_some]
    generalize jd_pi (jd_pi (jd_pi σ4 118 12 (nI 3)) 118 13 (nI (tS tp n x.2))) 118 9 (nI 5) = τ at *
    have hW' := Fr_Wd F5 hB3.1
    have h5 := o5.1
    refine ⟨τ, ?_, up_r F5, o5⟩
    simp (disch := omega) only [jb_some, jli, jif, jd_q, jd_K0, jpi_s, jpi_l, jpi_p, jpl_s, jpl_i, jpl_p, if_true, if_false, if_pos, if_neg, not_true_eq_false, not_false_eq_true, ite_true, ite_false, Nat.not_lt_zero, eq_self, Nat.le_refl, Nat.lt_irrefl, Bool.false_eq_true, or0, jo_pi, jo_pl, jia_pi, jia_pl, jo_cpy, jia_cpy, cpy_r, m_X11_grant, m_X11_refuse, m_X13_good, m_X13_refused, reduceCtorEq, nI_add, nI_leI, nI_ltI, nI_eq, pk_mul, abs_nI, max_nI, min_nI, nI_m1, nI_m2, nI_le1, m1_lt, m2_lt, and_nI, or_nI, an_nI, has_nI, bit_nI, bc_nI, bits_nI, lx0, lx1, lx2, lx3, lx4, lx5, lx6, lx7, lx8, lx9, lx10, lx11, lx16, lx20, lx40, lx60, lx90, lx99, lx100, lx200, lx900, lx999, lx9999, h5, jo_118 hW', ov_goesOn h5]
  · rw [if_neg h1, jif_f (show ¬ nI x.1 = nI y.1 by rw [nI_eq (by omega) (by omega)]; exact fun h => h1 h.symm), hQ3.1, mq_o hQ3, mq_r13 hQ3, mq_j5' hQ3 (by omega), e5, bit_nI b4 (by omega), jb_some]
    by_cases h2 : (B 4 x.1).testBit y.1 = true
    · rw [if_pos h2, if_pos h2, jif_f (by decide), show (3 : Int32) = nI 3 from rfl, ef, jb_some, jb_some]
      generalize jd_pi (jd_pi (jd_pi σ4 118 12 (nI 3)) 118 13 (nI (tS tp n x.2))) 118 9 (nI 5) = τ at *
      have hW' := Fr_Wd F5 hB3.1
      have h5 := o5.1
      refine ⟨τ, ?_, up_r F5, o5⟩
      simp (disch := omega) only [jb_some, jli, jif, jd_q, jd_K0, jpi_s, jpi_l, jpi_p, jpl_s, jpl_i, jpl_p, if_true, if_false, if_pos, if_neg, not_true_eq_false, not_false_eq_true, ite_true, ite_false, Nat.not_lt_zero, eq_self, Nat.le_refl, Nat.lt_irrefl, Bool.false_eq_true, or0, jo_pi, jo_pl, jia_pi, jia_pl, jo_cpy, jia_cpy, cpy_r, m_X11_grant, m_X11_refuse, m_X13_good, m_X13_refused, reduceCtorEq, nI_add, nI_leI, nI_ltI, nI_eq, pk_mul, abs_nI, max_nI, min_nI, nI_m1, nI_m2, nI_le1, m1_lt, m2_lt, and_nI, or_nI, an_nI, has_nI, bit_nI, bc_nI, bits_nI, lx0, lx1, lx2, lx3, lx4, lx5, lx6, lx7, lx8, lx9, lx10, lx11, lx16, lx20, lx40, lx60, lx90, lx99, lx100, lx200, lx900, lx999, lx9999, h5, jo_118 hW', ov_goesOn h5]
    · obtain ⟨σ5, a5, hK5, F6, c6, hB5⟩ := y_go hB3 hK3 x3
      rw [← y9] at hK5
      have hQ5 := MQr_y hQ3 F6
      have e55 : σ5.2.1 (r + 5) x.1 = nI (B 4 x.1) := mq_a hQ5 (k := 4) (p := x.1) (by decide) (by omega)
      have e4 := fin_lift (B 4 x.1) b4 y.1 (by omega)
      have p1 := MQr_a hQ5 (k := 4) (p := x.1) (v := B 4 x.1 ||| 2 ^ y.1) (by decide) (by omega)
      have p2 := MQr_s p1 (i := 6) (v := B 8 6 + 1) (by decide)
      have e61 : (jd_pi σ5 (r + (4 + 1)) x.1 (nI (B 4 x.1 ||| 2 ^ y.1))).2.1 r 6 = nI (B 8 6) := mq_s p1 (i := 6) (by decide)
      have F7 : Fr (DRr r) (LRr r) σ5 (jd_pi (jd_pi σ5 (r + (4 + 1)) x.1 (nI (B 4 x.1 ||| 2 ^ y.1))) r 6 (nI (B 8 6 + 1))) := fr_w (fr_w (Fr_refl σ5) (by omega)) (by omega)
      rw [if_neg h2, if_neg h2, jif_t (by decide), jb_some, jo_118 hB3.1, a5, jb_some, jif_t (show ¬ σ5.2.1 118 9 = 5 from MK_9 hK5), hQ5.1, mq_o hQ5, mq_r13 hQ5, mq_j5' hQ5 (by omega), mq_j5' hQ5 (by omega), e55, lx1, e4, jli]
      refine RW_tr (up_r F6) ?_
      have e12 : (jd_pi (jd_pi σ5 (r + (4 + 1)) x.1 (nI (B 4 x.1 ||| 2 ^ y.1))) r 6 (nI (B 8 6 + 1))).2.1 118 12 = nI 0 := by
        rw [F7.2.2.1 118 12 (by unfold DRr; omega), c6, c3, c1]
        exact h12
      refine ⟨_, ?_, up_w F7, MB_w hB5 h131 F7, p2, MK_w hK5 h131 F7, y3, e12, rOk_Kno hO (by omega) y4, fun k => ?_, fun hh => ?_⟩
      · show jd_o (jd_pi σ5 (r + (4 + 1)) x.1 (nI (B 4 x.1 ||| 2 ^ y.1))) (12, 20) ((jd_pi σ5 (r + (4 + 1)) x.1 (nI (B 4 x.1 ||| 2 ^ y.1))).2.2.2 118 4) _ = _
        rw [p1.1, mq_o p1, e61, jli, nI_add]
      · show nKno B x.1 y.1 9 k < _
        rw [nKno_n _ _ _ (by decide) (by decide)]
        exact h9 k
      · have hh : nKno B x.1 y.1 8 0 = 0 := hh
        rw [nKno_8, if_neg (by decide)] at hh
        exact absurd hh h0
theorem RW_1 {x : Fl ⊕ (Bch × Nat)} {c : Option (Unit × jd_Hp)} (h : RW tp n r x c σ) : RW tp n r x (jd_b c fun _ σ1 => some ((), σ1)) σ := by
  rcases x with f | a
  · obtain ⟨σ', h1, h2, h3⟩ := h
    refine ⟨σ', ?_, h2, h3⟩
    rw [h1]
    rfl
  · obtain ⟨σ', h1, h2, h3⟩ := h
    refine ⟨σ', ?_, h2, h3⟩
    rw [h1]
    rfl
theorem y_readLine (h : MRd tp n B r i σ) : RW tp n r (e_line tp n B i) (m_X13_readLine 118 σ) σ := by
  have h' := h
  obtain ⟨hB, hQ, hK, hi, h12, hO, h9, hz⟩ := h'
  have e := fun (w : Nat) hw => y_isWord hi hK (w := w) hw
  have s1 := RW_1 (y_readBeach h)
  have s2 := RW_1 (y_readPerson h)
  have s3 := RW_1 (y_readPost h)
  have s4 := RW_1 (y_readManned h)
  have s5 := RW_1 (y_readKnows h)
  have s6 := RW_1 (y_readSign h (s := 1) (by decide) (by decide))
  have s7 := RW_1 (y_readSign h (s := 2) (by decide) (by decide))
  have s8 : RW tp n r (.inl (1, tS tp n i)) (jd_b (m_X13_flaw 118 1 σ) fun _ σ8 => some ((), σ8)) σ := by
    rw [show (1 : Int32) = nI 1 from rfl, y_flaw hK, jb_some]
    exact RW_f rfl
  unfold m_X13_readLine e_line isLW
  simp only [jb_some, e 0 (by decide), e 1 (by decide), e 2 (by decide), e 3 (by decide), e 4 (by decide), e 5 (by decide), e 6 (by decide)]
  rcases isWd tp n i 0 with _ | _
  · rcases isWd tp n i 1 with _ | _
    · rcases isWd tp n i 2 with _ | _
      · rcases isWd tp n i 3 with _ | _
        · rcases isWd tp n i 4 with _ | _
          · rcases isWd tp n i 5 with _ | _
            · rcases isWd tp n i 6 with _ | _
              · exact s8
              · exact s7
            · exact s6
          · exact s5
        · exact s4
      · exact s3
    · exact s2
  · exact s1
end
