/-! P (42): the reference's LINES -/
def zOk (B : Bch) : Prop := B 8 0 = 0 → B 8 3 = 0 ∧ B 8 4 = 0 ∧ B 8 6 = 0
def MRd (tp : Nat → Nat) (n : Nat) (B : Bch) (r i : Nat) (σ : jd_Hp) : Prop := MB tp n σ ∧ MQr B r σ ∧ MK tp n i σ ∧ i ≤ n ∧ σ.2.1 118 12 = nI 0 ∧ rOk B ∧ (∀ k, B 9 k < 2 ^ 40) ∧ zOk B
def RW (tp : Nat → Nat) (n r : Nat) (x : Fl ⊕ (Bch × Nat)) (c : Option (Unit × jd_Hp)) (σ : jd_Hp) : Prop := match x with
  | .inl f => ∃ σ', c = some ((), σ') ∧ Fr (DYr r) (LYr r) σ σ' ∧ OV f σ'
  | .inr a => ∃ σ', c = some ((), σ') ∧ Fr (DYr r) (LYr r) σ σ' ∧ MRd tp n a.1 r a.2 σ'
section
variable {tp : Nat → Nat} {n i r : Nat} {σ σ' σ1 : jd_Hp} {B : Bch} {α β : Type}
theorem RW_tr {x : Fl ⊕ (Bch × Nat)} {c : Option (Unit × jd_Hp)} (f : Fr (DYr r) (LYr r) σ σ1) (h : RW tp n r x c σ1) : RW tp n r x c σ := by
  rcases x with e | a
  · obtain ⟨σ', h1, h2, h3⟩ := h
    exact ⟨σ', h1, Fr_tr f h2, h3⟩
  · obtain ⟨σ', h1, h2, h3⟩ := h
    exact ⟨σ', h1, Fr_tr f h2, h3⟩
theorem up_r (f : Fr DY LY σ σ1) : Fr (DYr r) (LYr r) σ σ1 := Fr_mono f (fun a k h => Or.inl h) fun a h => Or.inl h
theorem up_w (f : Fr (DRr r) (LRr r) σ σ1) : Fr (DYr r) (LYr r) σ σ1 := Fr_mono f (fun a k h => Or.inr h) fun a h => Or.inr h
theorem MQr_y (h : MQr B r σ) (f : Fr DY LY σ σ1) : MQr B r σ1 := MQr_fr h f (fun a k h => by unfold DY at h; omega) fun a h => by unfold LY at h; omega
theorem MB_y (h : MB tp n σ) (f : Fr DY LY σ σ1) : MB tp n σ1 := MB_fr h f (fun k => by unfold DY; omega) (by unfold DY; omega)
theorem MB_w (h : MB tp n σ) (hr : 131 ≤ r) (f : Fr (DRr r) (LRr r) σ σ1) : MB tp n σ1 := MB_fr h f (fun k => by unfold DRr; omega) (by unfold DRr; omega)
theorem MK_w (h : MK tp n i σ) (hr : 131 ≤ r) (f : Fr (DRr r) (LRr r) σ σ1) : MK tp n i σ1 := by
  have g : ∀ k, σ1.2.1 118 k = σ.2.1 118 k := fun k => f.2.2.1 118 k (by unfold DRr; omega)
  have gl : ∀ k, σ1.2.2.1 118 k = σ.2.2.1 118 k := fun k => f.2.2.2 118 k (by unfold LRr; omega)
  exact ⟨(g _).trans h.1, (g _).trans h.2.1, (g _).trans h.2.2.1, fun e => (gl _).trans (h.2.2.2.1 e), fun e => (g _).trans (h.2.2.2.2 e)⟩
theorem RW_b {x : Fl ⊕ α} {g : α → Fl ⊕ (Bch × Nat)} {c : Option (β × jd_Hp)} {K : β → jd_Hp → Option (Unit × jd_Hp)} {Q : α → β → jd_Hp → Prop} (hW : Wd σ) (hQ : MQr B r σ) (h : RZ x c σ Q) (t : ∀ v σ', σ'.2.1 118 9 = nI 5 → Wd σ' → MQr B r σ' → K v σ' = some ((), σ')) (k : ∀ a v σ', x = .inr a → Fr DY LY σ σ' → σ'.2.1 118 12 = σ.2.1 118 12 → Q a v σ' → RW tp n r (g a) (K v σ') σ') : RW tp n r (e_b x g) (jd_b c K) σ := by
  rcases x with e | a
  · obtain ⟨v, σ', h1, h2, h3⟩ := h
    refine ⟨σ', ?_, up_r h2, h3⟩
    rw [h1, jb_some]
    exact t v σ' h3.1 (Fr_Wd h2 hW) (MQr_y hQ h2)
  · obtain ⟨v, σ', h1, h2, h3, h4⟩ := h
    rw [h1, jb_some]
    exact RW_tr (up_r h2) (k a v σ' rfl h2 h3 h4)
theorem RW_f {x : Fl ⊕ (Bch × Nat)} {f s : Nat} (hx : x = .inl (f, s)) : RW tp n r x (some ((), jd_pi (jd_pi (jd_pi σ 118 12 (nI f)) 118 13 (nI s)) 118 9 (nI 5))) σ := by
  subst hx
  exact ⟨_, rfl, up_r fl_fr, fl_OV⟩
theorem fr_w {a k : Nat} {v : Int32} (f : Fr (DRr r) (LRr r) σ σ1) (h : r ≤ a ∧ a ≤ r + 11) : Fr (DRr r) (LRr r) σ (jd_pi σ1 a k v) := Fr_pi f h
set_option maxHeartbeats 2000000 in
theorem y_readBeach (h : MRd tp n B r i σ) : RW tp n r (if B 8 0 = 0 then e_beach tp n B (tE tp n i) else .inl (3, tS tp n i)) (m_X13_readBeach 118 σ) σ := by
  obtain ⟨hB, hQ, hK, hi, h12, hO, h9, hz⟩ := h
  have h131 := hQ.2.1
  have hj := (tE_le (tp := tp) hi).2
  have e0 : σ.2.1 r 0 = nI (B 8 0) := mq_s hQ (by decide)
  have b60 := hO.2.2.1
  unfold m_X13_readBeach
  rw [hQ.1, mq_o hQ, e0]
  by_cases h0 : B 8 0 = 0
  · rw [if_pos h0, jif_t (by rw [h0]; decide), jb_some, jo_118 hB.1]
    obtain ⟨σ1, a1, hK1, F1, c1, hB1⟩ := y_go hB hK hi
    have hQ1 := MQr_y hQ F1
    rw [a1, jb_some]
    refine RW_tr (up_r F1) ?_
    unfold e_beach
    refine RW_b hB1.1 hQ1 (y_readPart (w := 7) (lo := 1) (hh := 60) hB1 hK1 hj (by decide) (by decide) (by decide)) (fun v σ' h5 hW' hQ' => ?_) fun x v σ2 ex F2 c2 q2 => ?_
    · simp (disch := omega) only [jb_some, jli, jif, jd_q, jd_K0, jpi_s, jpi_l, jpi_p, jpl_s, jpl_i, jpl_p, if_true, if_false, if_pos, if_neg, not_true_eq_false, not_false_eq_true, ite_true, ite_false, Nat.not_lt_zero, eq_self, Nat.le_refl, Nat.lt_irrefl, Bool.false_eq_true, or0, jo_pi, jo_pl, jia_pi, jia_pl, jo_cpy, jia_cpy, cpy_r, m_X11_grant, m_X11_refuse, m_X13_good, m_X13_refused, reduceCtorEq, nI_add, nI_leI, nI_ltI, nI_eq, pk_mul, abs_nI, max_nI, min_nI, nI_m1, nI_m2, nI_le1, m1_lt, m2_lt, and_nI, or_nI, an_nI, has_nI, bit_nI, bc_nI, bits_nI, lx0, lx1, lx2, lx3, lx4, lx5, lx6, lx7, lx8, lx9, lx10, lx11, lx16, lx20, lx40, lx60, lx90, lx99, lx100, lx200, lx900, lx999, lx9999, h5, ov_readPart hW' h5]
    obtain ⟨rfl, hK2⟩ := q2
    obtain ⟨x1, x2, x3, x4⟩ := e_lab_ok hj ex
    have hB2 := MB_y hB1 F2
    have hQ2 := MQr_y hQ1 F2
    refine RW_b hB2.1 hQ2 (y_readPart (w := 8) (lo := 0) (hh := 9) hB2 hK2 x4 (by decide) (by decide) (by decide)) (fun v σ' h5 hW' hQ' => ?_) fun y v σ3 ey F3 c3 q3 => ?_
    · simp (disch := omega) only [jb_some, jli, jif, jd_q, jd_K0, jpi_s, jpi_l, jpi_p, jpl_s, jpl_i, jpl_p, if_true, if_false, if_pos, if_neg, not_true_eq_false, not_false_eq_true, ite_true, ite_false, Nat.not_lt_zero, eq_self, Nat.le_refl, Nat.lt_irrefl, Bool.false_eq_true, or0, jo_pi, jo_pl, jia_pi, jia_pl, jo_cpy, jia_cpy, cpy_r, m_X11_grant, m_X11_refuse, m_X13_good, m_X13_refused, reduceCtorEq, nI_add, nI_leI, nI_ltI, nI_eq, pk_mul, abs_nI, max_nI, min_nI, nI_m1, nI_m2, nI_le1, m1_lt, m2_lt, and_nI, or_nI, an_nI, has_nI, bit_nI, bc_nI, bits_nI, lx0, lx1, lx2, lx3, lx4, lx5, lx6, lx7, lx8, lx9, lx10, lx11, lx16, lx20, lx40, lx60, lx90, lx99, lx100, lx200, lx900, lx999, lx9999, h5, ov_readPart hW' h5]
    obtain ⟨rfl, hK3⟩ := q3
    obtain ⟨y1, y2, y3, y4⟩ := e_lab_ok x4 ey
    have hB3 := MB_y hB2 F3
    have hQ3 := MQr_y hQ2 F3
    refine RW_b hB3.1 hQ3 (y_readPart (w := 9) (lo := 0) (hh := 100) hB3 hK3 y4 (by decide) (by decide) (by decide)) (fun v σ' h5 hW' hQ' => ?_) fun u v σ4 eu F4 c4 q4 => ?_
    · simp (disch := omega) only [jb_some, jli, jif, jd_q, jd_K0, jpi_s, jpi_l, jpi_p, jpl_s, jpl_i, jpl_p, if_true, if_false, if_pos, if_neg, not_true_eq_false, not_false_eq_true, ite_true, ite_false, Nat.not_lt_zero, eq_self, Nat.le_refl, Nat.lt_irrefl, Bool.false_eq_true, or0, jo_pi, jo_pl, jia_pi, jia_pl, jo_cpy, jia_cpy, cpy_r, m_X11_grant, m_X11_refuse, m_X13_good, m_X13_refused, reduceCtorEq, nI_add, nI_leI, nI_ltI, nI_eq, pk_mul, abs_nI, max_nI, min_nI, nI_m1, nI_m2, nI_le1, m1_lt, m2_lt, and_nI, or_nI, an_nI, has_nI, bit_nI, bc_nI, bits_nI, lx0, lx1, lx2, lx3, lx4, lx5, lx6, lx7, lx8, lx9, lx10, lx11, lx16, lx20, lx40, lx60, lx90, lx99, lx100, lx200, lx900, lx999, lx9999, h5]
    obtain ⟨rfl, hK4⟩ := q4
    obtain ⟨u1, u2, u3, u4⟩ := e_lab_ok y4 eu
    have hB4 := MB_y hB3 F4
    have hQ4 := MQr_y hQ3 F4
    have p1 := MQr_s hQ4 (i := 0) (v := x.1) (by decide)
    have p2 := MQr_s p1 (i := 1) (v := y.1) (by decide)
    have p3 := MQr_s p2 (i := 2) (v := u.1) (by decide)
    have F5 : Fr (DRr r) (LRr r) σ4 (jd_pi (jd_pi (jd_pi σ4 r 0 (nI x.1)) r 1 (nI y.1)) r 2 (nI u.1)) := fr_w (fr_w (fr_w (Fr_refl σ4) (by omega)) (by omega)) (by omega)
    rw [jif_t (show ¬ σ4.2.1 118 9 = 5 from MK_9 hK4), hQ4.1, mq_o hQ4, jli, p1.1, mq_o p1, jli, p2.1, mq_o p2, jli]
    have e12 : (jd_pi (jd_pi (jd_pi σ4 r 0 (nI x.1)) r 1 (nI y.1)) r 2 (nI u.1)).2.1 118 12 = nI 0 := by
      rw [F5.2.2.1 118 12 (by unfold DRr; omega), c4, c3, c2, c1]
      exact h12
    have n8 := nBea_8 B x.1 y.1 u.1
    refine ⟨_, rfl, up_w F5, MB_w hB4 h131 F5, p3, MK_w hK4 h131 F5, u4, e12, rOk_Bea hO x2 y2 u2, fun k => ?_, fun hh => ?_⟩
    · show nBea B x.1 y.1 u.1 9 k < _
      rw [nBea_n _ _ _ _ (by decide)]
      exact h9 k
    · have hh : nBea B x.1 y.1 u.1 8 0 = 0 := hh
      rw [n8, if_pos rfl] at hh
      omega
  · have o5 := fl_OV (σ := σ) (f := 3) (s := tS tp n i)
    have F5 := fl_fr (σ := σ) (f := 3) (s := tS tp n i)
    rw [if_neg h0, jif_f (by rw [lx0, nI_leI (by omega) (by omega)]; omega), show (3 : Int32) = nI 3 from rfl, y_flaw hK, jb_some, jb_some]
    generalize jd_pi (jd_pi (jd_pi σ 118 12 (nI 3)) 118 13 (nI (tS tp n i))) 118 9 (nI 5) = τ at *
    have hW' := Fr_Wd F5 hB.1
    have h5 := o5.1
    refine ⟨τ, ?_, up_r F5, o5⟩
    simp (disch := omega) only [jb_some, jli, jif, jd_q, jd_K0, jpi_s, jpi_l, jpi_p, jpl_s, jpl_i, jpl_p, if_true, if_false, if_pos, if_neg, not_true_eq_false, not_false_eq_true, ite_true, ite_false, Nat.not_lt_zero, eq_self, Nat.le_refl, Nat.lt_irrefl, Bool.false_eq_true, or0, jo_pi, jo_pl, jia_pi, jia_pl, jo_cpy, jia_cpy, cpy_r, m_X11_grant, m_X11_refuse, m_X13_good, m_X13_refused, reduceCtorEq, nI_add, nI_leI, nI_ltI, nI_eq, pk_mul, abs_nI, max_nI, min_nI, nI_m1, nI_m2, nI_le1, m1_lt, m2_lt, and_nI, or_nI, an_nI, has_nI, bit_nI, bc_nI, bits_nI, lx0, lx1, lx2, lx3, lx4, lx5, lx6, lx7, lx8, lx9, lx10, lx11, lx16, lx20, lx40, lx60, lx90, lx99, lx100, lx200, lx900, lx999, lx9999, h5, jo_118 hW', ov_goesOn h5, ov_readPart hW' h5]
theorem y_kind (hi : i ≤ n) (hK : MK tp n i σ) (K : Int32 → jd_Hp → Option (β × jd_Hp)) : (jd_b (m_X13_isWord 118 (some 10) σ) fun r4 σ4 =>
jd_b (α := Int32) (
jd_if (r4 = 0) (
jd_b (m_X13_isWord 118 (some 11) σ4) fun r9 σ9 =>
jd_if (r9 = 0) (
jd_b (m_X13_isWord 118 (some 12) σ9) fun r10 σ10 =>
jd_if (r10 = 0) (
jd_b (m_X13_isWord 118 (some 13) σ10) fun r11 σ11 =>
jd_if (r11 = 0) (
some ((-1), σ11)) (
some (3, σ11))) (
some (2, σ10))) (
some (1, σ9))) (
some (0, σ4))) K) = K ((kdO tp n i).elim (- nI 1) nI) σ := by
  have e := fun (w : Nat) hw => y_isWord hi hK (w := w) hw
  unfold kdO
  simp only [jb_some, e 10 (by decide), e 11 (by decide), e 12 (by decide), e 13 (by decide)]
  rcases isWd tp n i 10 with _ | _
  · rcases isWd tp n i 11 with _ | _
    · rcases isWd tp n i 12 with _ | _
      · rcases isWd tp n i 13 with _ | _ <;> rfl
      · rfl
    · rfl
  · rfl
set_option maxHeartbeats 4000000 in
theorem y_readPerson (h : MRd tp n B r i σ) : RW tp n r (if B 8 0 = 0 then .inl (6, tS tp n i) else if B 8 3 < 6 then e_person tp n B (tE tp n i) else .inl (5, tS tp n i)) (m_X13_readPerson 118 σ) σ := by
  obtain ⟨hB, hQ, hK, hi, h12, hO, h9, hz⟩ := h
  have h131 := hQ.2.1
  have hj := (tE_le (tp := tp) hi).2
  obtain ⟨r1, r2, r3, -, -, -, -, r8, -⟩ := id hO
  have e3 : σ.2.1 r 3 = nI (B 8 3) := mq_s hQ (by decide)
  have sp : (if B 8 0 = 0 then (.inl (6, tS tp n i) : Fl ⊕ (Bch × Nat)) else if B 8 3 < 6 then e_person tp n B (tE tp n i) else .inl (5, tS tp n i)) = e_b (if B 8 3 = 6 then (.inl (5, tS tp n i) : Fl ⊕ Nat) else if B 8 0 = 0 then .inl (6, tS tp n i) else .inr (tE tp n i)) fun j => if B 8 3 < 6 ∧ ¬ B 8 0 = 0 then e_person tp n B j else .inl (0, 0) := by
    by_cases h0 : B 8 0 = 0
    · have := hz h0
      rw [if_pos h0, if_neg (by omega), if_pos h0]
      rfl
    · rw [if_neg h0]
      by_cases h6 : B 8 3 < 6
      · rw [if_pos h6, if_neg (by omega), if_neg h0]
        show _ = if B 8 3 < 6 ∧ ¬ B 8 0 = 0 then e_person tp n B (tE tp n i) else .inl (0, 0)
        rw [if_pos ⟨h6, h0⟩]
      · rw [if_neg h6, if_pos (by omega)]
        rfl
  rw [sp]
  unfold m_X13_readPerson
  rw [hQ.1, mq_o hQ, e3]
  refine RW_b hB.1 hQ (y_lineBegins (a := B 8 3) (b := 6) hB hK hi hQ r3 (by omega) (by decide)) (fun v σ' h5 hW' hQ' => ?_) fun j v σ1 ej F1 c1 hK1 => ?_
  · simp (disch := omega) only [jb_some, jli, jif, jd_q, jd_K0, jpi_s, jpi_l, jpi_p, jpl_s, jpl_i, jpl_p, if_true, if_false, if_pos, if_neg, not_true_eq_false, not_false_eq_true, ite_true, ite_false, Nat.not_lt_zero, eq_self, Nat.le_refl, Nat.lt_irrefl, Bool.false_eq_true, or0, jo_pi, jo_pl, jia_pi, jia_pl, jo_cpy, jia_cpy, cpy_r, m_X11_grant, m_X11_refuse, m_X13_good, m_X13_refused, reduceCtorEq, nI_add, nI_leI, nI_ltI, nI_eq, pk_mul, abs_nI, max_nI, min_nI, nI_m1, nI_m2, nI_le1, m1_lt, m2_lt, and_nI, or_nI, an_nI, has_nI, bit_nI, bc_nI, bits_nI, lx0, lx1, lx2, lx3, lx4, lx5, lx6, lx7, lx8, lx9, lx10, lx11, lx16, lx20, lx40, lx60, lx90, lx99, lx100, lx200, lx900, lx999, lx9999, h5, jo_118 hW', ov_readFresh hW' h5 hQ' (show B 8 8 ≤ 11 by omega), ov_isWord h5, ov_flaw h5, ov_goesOn h5, ov_readPart hW' h5]
  have h6 : ¬ B 8 3 = 6 := fun h => by
    rw [if_pos h] at ej
    exact absurd ej (by simp)
  have h0 : ¬ B 8 0 = 0 := fun h => by
    rw [if_neg h6, if_pos h] at ej
    exact absurd ej (by simp)
  rw [if_neg h6, if_neg h0] at ej
  injection ej with ej
  subst ej
  rw [if_pos ⟨by omega, h0⟩]
  have hB1 := MB_y hB F1
  have hQ1 := MQr_y hQ F1
  unfold e_person
  refine RW_b hB1.1 hQ1 (y_readFresh hB1 hK1 hj hQ1 (by omega) h9) (fun v σ' h5 hW' hQ' => ?_) fun x v σ3 ex F3 c3 q3 => ?_
  · simp (disch := omega) only [jb_some, jli, jif, jd_q, jd_K0, jpi_s, jpi_l, jpi_p, jpl_s, jpl_i, jpl_p, if_true, if_false, if_pos, if_neg, not_true_eq_false, not_false_eq_true, ite_true, ite_false, Nat.not_lt_zero, eq_self, Nat.le_refl, Nat.lt_irrefl, Bool.false_eq_true, or0, jo_pi, jo_pl, jia_pi, jia_pl, jo_cpy, jia_cpy, cpy_r, m_X11_grant, m_X11_refuse, m_X13_good, m_X13_refused, reduceCtorEq, nI_add, nI_leI, nI_ltI, nI_eq, pk_mul, abs_nI, max_nI, min_nI, nI_m1, nI_m2, nI_le1, m1_lt, m2_lt, and_nI, or_nI, an_nI, has_nI, bit_nI, bc_nI, bits_nI, lx0, lx1, lx2, lx3, lx4, lx5, lx6, lx7, lx8, lx9, lx10, lx11, lx16, lx20, lx40, lx60, lx90, lx99, lx100, lx200, lx900, lx999, lx9999, h5, jo_118 hW', ov_isWord h5, ov_flaw h5, ov_goesOn h5, ov_readPart hW' h5]
  obtain ⟨rfl, hK3⟩ := q3
  obtain ⟨x1, x2, x3, x4, x5, x6⟩ := e_new_ok hj ex
  have hB3 := MB_y hB1 F3
  have hQ3 := MQr_y hQ1 F3
  have hj3 := (tE_le (tp := tp) x6).2
  rw [y_kind x6 hK3]
  rcases hkd : kdO tp n x.2 with _ | kd
  · have o5 := fl_OV (σ := σ3) (f := 1) (s := tS tp n x.2)
    have F5 := fl_fr (σ := σ3) (f := 1) (s := tS tp n x.2)
    rw [show (Option.elim (none : Option Nat) (- nI 1) nI) = - nI 1 from rfl, jif_f (by simp only [Classical.not_not]; rfl), jo_118 hB3.1, show (1 : Int32) = nI 1 from rfl, y_flaw hK3, jb_some, jb_some]
    generalize jd_pi (jd_pi (jd_pi σ3 118 12 (nI 1)) 118 13 (nI (tS tp n x.2))) 118 9 (nI 5) = τ at *
    have hW' := Fr_Wd F5 hB3.1
    have h5 := o5.1
    refine ⟨τ, ?_, up_r F5, o5⟩
    simp (disch := omega) only [jb_some, jli, jif, jd_q, jd_K0, jpi_s, jpi_l, jpi_p, jpl_s, jpl_i, jpl_p, if_true, if_false, if_pos, if_neg, not_true_eq_false, not_false_eq_true, ite_true, ite_false, Nat.not_lt_zero, eq_self, Nat.le_refl, Nat.lt_irrefl, Bool.false_eq_true, or0, jo_pi, jo_pl, jia_pi, jia_pl, jo_cpy, jia_cpy, cpy_r, m_X11_grant, m_X11_refuse, m_X13_good, m_X13_refused, reduceCtorEq, nI_add, nI_leI, nI_ltI, nI_eq, pk_mul, abs_nI, max_nI, min_nI, nI_m1, nI_m2, nI_le1, m1_lt, m2_lt, and_nI, or_nI, an_nI, has_nI, bit_nI, bc_nI, bits_nI, lx0, lx1, lx2, lx3, lx4, lx5, lx6, lx7, lx8, lx9, lx10, lx11, lx16, lx20, lx40, lx60, lx90, lx99, lx100, lx200, lx900, lx999, lx9999, h5, jo_118 hW', ov_goesOn h5, ov_readPart hW' h5]
  · obtain ⟨k3, -⟩ := kdO_le hkd
    obtain ⟨σ4, a4, hK4, F4, c4, hB4⟩ := y_go hB3 hK3 x6
    have hQ4 := MQr_y hQ3 F4
    rw [show (Option.elim (some kd) (- nI 1) nI) = nI kd from rfl, jif_t (by show ¬ nI kd = - nI 1; rw [nI_m1 (by omega)]; exact id), jb_some, jo_118 hB3.1, a4, jb_some]
    refine RW_tr (up_r F4) ?_
    show RW tp n r (e_b (e_lab tp n 14 0 99 (tE tp n x.2)) fun y => e_b (e_lab tp n 15 0 99 y.2) fun u => e_b (e_lab tp n 16 0 100 u.2) fun v => .inr (nPer B x.1 kd y.1 u.1 v.1, v.2)) _ σ4
    refine RW_b hB4.1 hQ4 (y_readPart (w := 14) (lo := 0) (hh := 99) hB4 hK4 hj3 (by decide) (by decide) (by decide)) (fun v σ' h5 hW' hQ' => ?_) fun y v σ5 ey F5 c5 q5 => ?_
    · simp (disch := omega) only [jb_some, jli, jif, jd_q, jd_K0, jpi_s, jpi_l, jpi_p, jpl_s, jpl_i, jpl_p, if_true, if_false, if_pos, if_neg, not_true_eq_false, not_false_eq_true, ite_true, ite_false, Nat.not_lt_zero, eq_self, Nat.le_refl, Nat.lt_irrefl, Bool.false_eq_true, or0, jo_pi, jo_pl, jia_pi, jia_pl, jo_cpy, jia_cpy, cpy_r, m_X11_grant, m_X11_refuse, m_X13_good, m_X13_refused, reduceCtorEq, nI_add, nI_leI, nI_ltI, nI_eq, pk_mul, abs_nI, max_nI, min_nI, nI_m1, nI_m2, nI_le1, m1_lt, m2_lt, and_nI, or_nI, an_nI, has_nI, bit_nI, bc_nI, bits_nI, lx0, lx1, lx2, lx3, lx4, lx5, lx6, lx7, lx8, lx9, lx10, lx11, lx16, lx20, lx40, lx60, lx90, lx99, lx100, lx200, lx900, lx999, lx9999, h5, ov_readPart hW' h5]
    obtain ⟨rfl, hK5⟩ := q5
    obtain ⟨y1, y2, y3, y4⟩ := e_lab_ok hj3 ey
    have hB5 := MB_y hB4 F5
    have hQ5 := MQr_y hQ4 F5
    refine RW_b hB5.1 hQ5 (y_readPart (w := 15) (lo := 0) (hh := 99) hB5 hK5 y4 (by decide) (by decide) (by decide)) (fun v σ' h5 hW' hQ' => ?_) fun u v σ6 eu F6 c6 q6 => ?_
    · simp (disch := omega) only [jb_some, jli, jif, jd_q, jd_K0, jpi_s, jpi_l, jpi_p, jpl_s, jpl_i, jpl_p, if_true, if_false, if_pos, if_neg, not_true_eq_false, not_false_eq_true, ite_true, ite_false, Nat.not_lt_zero, eq_self, Nat.le_refl, Nat.lt_irrefl, Bool.false_eq_true, or0, jo_pi, jo_pl, jia_pi, jia_pl, jo_cpy, jia_cpy, cpy_r, m_X11_grant, m_X11_refuse, m_X13_good, m_X13_refused, reduceCtorEq, nI_add, nI_leI, nI_ltI, nI_eq, pk_mul, abs_nI, max_nI, min_nI, nI_m1, nI_m2, nI_le1, m1_lt, m2_lt, and_nI, or_nI, an_nI, has_nI, bit_nI, bc_nI, bits_nI, lx0, lx1, lx2, lx3, lx4, lx5, lx6, lx7, lx8, lx9, lx10, lx11, lx16, lx20, lx40, lx60, lx90, lx99, lx100, lx200, lx900, lx999, lx9999, h5, ov_readPart hW' h5]
    obtain ⟨rfl, hK6⟩ := q6
    obtain ⟨u1, u2, u3, u4⟩ := e_lab_ok y4 eu
    have hB6 := MB_y hB5 F6
    have hQ6 := MQr_y hQ5 F6
    refine RW_b hB6.1 hQ6 (y_readPart (w := 16) (lo := 0) (hh := 100) hB6 hK6 u4 (by decide) (by decide) (by decide)) (fun v σ' h5 hW' hQ' => ?_) fun v vv σ7 ev F7 c7 q7 => ?_
    · simp (disch := omega) only [jb_some, jli, jif, jd_q, jd_K0, jpi_s, jpi_l, jpi_p, jpl_s, jpl_i, jpl_p, if_true, if_false, if_pos, if_neg, not_true_eq_false, not_false_eq_true, ite_true, ite_false, Nat.not_lt_zero, eq_self, Nat.le_refl, Nat.lt_irrefl, Bool.false_eq_true, or0, jo_pi, jo_pl, jia_pi, jia_pl, jo_cpy, jia_cpy, cpy_r, m_X11_grant, m_X11_refuse, m_X13_good, m_X13_refused, reduceCtorEq, nI_add, nI_leI, nI_ltI, nI_eq, pk_mul, abs_nI, max_nI, min_nI, nI_m1, nI_m2, nI_le1, m1_lt, m2_lt, and_nI, or_nI, an_nI, has_nI, bit_nI, bc_nI, bits_nI, lx0, lx1, lx2, lx3, lx4, lx5, lx6, lx7, lx8, lx9, lx10, lx11, lx16, lx20, lx40, lx60, lx90, lx99, lx100, lx200, lx900, lx999, lx9999, h5]
    obtain ⟨rfl, hK7⟩ := q7
    obtain ⟨v1, v2, v3, v4⟩ := e_lab_ok u4 ev
    have hB7 := MB_y hB6 F7
    have hQ7 := MQr_y hQ6 F7
    have e73 : σ7.2.1 r 3 = nI (B 8 3) := mq_s hQ7 (by decide)
    obtain ⟨σ8, a8, hQ8, F8⟩ := y_names hQ7 (by omega) (w := x.1) (so := 0) (q := B 8 3)
    have p6 : B 8 3 < 6 := by omega
    have p1 := MQr_a hQ8 (k := 0) (p := B 8 3) (v := kd) (by decide) p6
    have p2 := MQr_a p1 (k := 1) (p := B 8 3) (v := y.1) (by decide) p6
    have p3 := MQr_a p2 (k := 2) (p := B 8 3) (v := u.1) (by decide) p6
    have p4 := MQr_a p3 (k := 3) (p := B 8 3) (v := v.1) (by decide) p6
    have p5 := MQr_s p4 (i := 3) (v := B 8 3 + 1) (by decide)
    have e83 : (jd_pi (jd_pi (jd_pi (jd_pi σ8 (r + (0 + 1)) (B 8 3) (nI kd)) (r + (1 + 1)) (B 8 3) (nI y.1)) (r + (2 + 1)) (B 8 3) (nI u.1)) (r + (3 + 1)) (B 8 3) (nI v.1)).2.1 r 3 = nI (B 8 3) := mq_s p4 (i := 3) (by decide)
    have F9 : Fr (DRr r) (LRr r) σ7 (jd_pi (jd_pi (jd_pi (jd_pi (jd_pi σ8 (r + (0 + 1)) (B 8 3) (nI kd)) (r + (1 + 1)) (B 8 3) (nI y.1)) (r + (2 + 1)) (B 8 3) (nI u.1)) (r + (3 + 1)) (B 8 3) (nI v.1)) r 3 (nI (B 8 3 + 1))) := fr_w (fr_w (fr_w (fr_w (fr_w F8 (by omega)) (by omega)) (by omega)) (by omega)) (by omega)
    have e12 : (jd_pi (jd_pi (jd_pi (jd_pi (jd_pi σ8 (r + (0 + 1)) (B 8 3) (nI kd)) (r + (1 + 1)) (B 8 3) (nI y.1)) (r + (2 + 1)) (B 8 3) (nI u.1)) (r + (3 + 1)) (B 8 3) (nI v.1)) r 3 (nI (B 8 3 + 1))).2.1 118 12 = nI 0 := by
      rw [F9.2.2.1 118 12 (by unfold DRr; omega), c7, c6, c5, c4, c3, c1]
      exact h12
    refine ⟨_, ?_, up_w F9, MB_w hB7 h131 F9, p5, MK_w hK7 h131 F9, v4, e12, rOk_Per hO p6 k3 y2 u2 v2, fun k => ?_, fun hh => ?_⟩
    · rw [jif_t (show ¬ σ7.2.1 118 9 = 5 from MK_9 hK7), hQ7.1, mq_o hQ7, e73, jli, show (0 : Int32) = nI 0 from rfl, a8, jb_some, hQ8.1, mq_o hQ8, mq_r9 hQ8, mq_j1' hQ8 p6, jli, p1.1]
      show jd_o (jd_pi σ8 (r + (0 + 1)) (B 8 3) (nI kd)) (12, 20) (some r) _ = _
      rw [mq_o p1, mq_r10 p1, mq_j2' p1 p6, jli]
      show jd_o (jd_pi (jd_pi σ8 (r + (0 + 1)) (B 8 3) (nI kd)) (r + (1 + 1)) (B 8 3) (nI y.1)) (12, 20) ((jd_pi (jd_pi σ8 (r + (0 + 1)) (B 8 3) (nI kd)) (r + (1 + 1)) (B 8 3) (nI y.1)).2.2.2 118 4) _ = _
      rw [p2.1, mq_o p2, mq_r11 p2, mq_j3' p2 p6, jli]
      show jd_o (jd_pi (jd_pi (jd_pi σ8 (r + (0 + 1)) (B 8 3) (nI kd)) (r + (1 + 1)) (B 8 3) (nI y.1)) (r + (2 + 1)) (B 8 3) (nI u.1)) (12, 20) ((jd_pi (jd_pi (jd_pi σ8 (r + (0 + 1)) (B 8 3) (nI kd)) (r + (1 + 1)) (B 8 3) (nI y.1)) (r + (2 + 1)) (B 8 3) (nI u.1)).2.2.2 118 4) _ = _
      rw [p3.1, mq_o p3, mq_r12 p3, mq_j4' p3 p6, jli]
      show jd_o (jd_pi (jd_pi (jd_pi (jd_pi σ8 (r + (0 + 1)) (B 8 3) (nI kd)) (r + (1 + 1)) (B 8 3) (nI y.1)) (r + (2 + 1)) (B 8 3) (nI u.1)) (r + (3 + 1)) (B 8 3) (nI v.1)) (12, 20) ((jd_pi (jd_pi (jd_pi (jd_pi σ8 (r + (0 + 1)) (B 8 3) (nI kd)) (r + (1 + 1)) (B 8 3) (nI y.1)) (r + (2 + 1)) (B 8 3) (nI u.1)) (r + (3 + 1)) (B 8 3) (nI v.1)).2.2.2 118 4) _ = _
      rw [p4.1, mq_o p4, e83, jli, lx1, nI_add]
    · show nPer B x.1 kd y.1 u.1 v.1 9 k < _
      rw [nPer_9]
      split
      · rw [x1]
        exact wv_lt (tok_W hj x3).1
      · exact h9 k
    · have hh : nPer B x.1 kd y.1 u.1 v.1 8 0 = 0 := hh
      rw [nPer_8, if_neg (by decide), if_neg (by decide)] at hh
      exact absurd hh h0
end
