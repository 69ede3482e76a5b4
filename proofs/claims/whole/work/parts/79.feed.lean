/-! P (29): THE TAPE -/
def ap (tp : Nat → Nat) (l : Nat) (g : Nat → Nat) : Nat → Nat := fun k => if k < l then tp k else g (k - l)
def by4 (x : Int32) (m : Nat) : Nat := (x >>> (nI (24 - 8 * m) &&& 31)).toBitVec.toNat % 256
def fd5 (tp : Nat → Nat) (l : Nat) (a b c d e : Int32) : Nat → Nat := ap (ap (ap (ap (ap tp l (by4 a)) (l + 4) (by4 b)) (l + 8) (by4 c)) (l + 12) (by4 d)) (l + 16) (by4 e)
def z_feed (z : Zt) (a b c d e : Int32) : Int32 × Zt := if z.2.2.2.1.1 + 20 ≤ 900 then (nI (z.2.2.2.1.1 + 20), (z.1, z.2.1, z.2.2.1, (z.2.2.2.1.1 + 20, fd5 z.2.2.2.1.2 z.2.2.2.1.1 a b c d e), z.2.2.2.2)) else (- nI 1, z)
theorem by4_lt (x : Int32) (m : Nat) : by4 x m < 256 := Nat.mod_lt _ (by decide)
theorem ap_lt {tp g : Nat → Nat} {l : Nat} (h : ∀ k, tp k < 256) (h2 : ∀ k, g k < 256) (k : Nat) : ap tp l g k < 256 := by
  unfold ap
  split
  · exact h k
  · exact h2 _
theorem ap_l {tp g : Nat → Nat} {l k : Nat} (h : k < l) : ap tp l g k = tp k := if_pos h
theorem ap_r {tp g : Nat → Nat} {l k : Nat} (h : ¬ k < l) : ap tp l g k = g (k - l) := if_neg h
theorem lx24 : (24 : Int32) = nI 24 := rfl
theorem lx12 : (12 : Int32) = nI 12 := rfl
def DFx (a k : Nat) : Prop := a = 33 ∧ k = 1 ∨ a = 34
theorem fin_put : ∀ i, i < 4 → ¬ nI 24 - nI (8 * i) < 0 ∧ nI 24 - nI (8 * i) + (-8) = nI 24 - nI (8 * (i + 1)) ∧ nI 24 - nI (8 * i) = nI (24 - 8 * i) := by decide +kernel
section
variable {σ σ' : jd_Hp} {tp : Nat → Nat} {l : Nat}
set_option maxHeartbeats 1000000 in
theorem x_put (hW : Wd σ) (h : TX l tp σ) (hl : l + 4 ≤ 900) (x : Int32) : ∃ σ', m_X8_put 33 x σ = some ((), σ') ∧ TX (l + 4) (ap tp l (by4 x)) σ' ∧ Fr DFx L0 σ σ' := by
  unfold m_X8_put
  have one := jlp_inv (body := fun (s1 : Int32) σ1 =>
jd_if (s1 < 0) (
some ((Sum.inr ()), σ1)) (
jd_o σ1 (8, 2) (some 33) fun a3 =>
jd_if ((σ1.2.1 a3 1) < 0) (
some (Sum.inl (s1 + (-8)), σ1)) (
jd_if (900 ≤ (σ1.2.1 a3 1)) (
some (Sum.inl (s1 + (-8)), σ1)) (
jd_ia σ1 21 (σ1.2.2.2 a3 0) (σ1.2.1 a3 1) fun a4 j4 =>
jd_li (jd_pi σ1 a4 j4 (vp_nar .byte ((x >>> (s1 &&& 31)).toInt8.toInt32))) fun τ5 =>
jd_li (jd_pi τ5 a3 1 ((τ5.2.1 a3 1) + 1)) fun τ6 =>
some (Sum.inl (s1 + (-8)), τ6))))) 4 (fun i s σ' => s = nI 24 - nI (8 * i) ∧ Fr DFx L0 σ σ' ∧ TX (l + i) (ap tp l (by4 x)) σ')
    (fun _ σ' => Fr DFx L0 σ σ' ∧ TX (l + 4) (ap tp l (by4 x)) σ') ?_ ?_ jd_fu (jfu (by omega)) 24 σ ⟨rfl, Fr_refl σ, h.1, fun k hk => by rw [ap_l (by omega)]; exact h.2 k (by omega)⟩
  · obtain ⟨t, σ1, h1, hF1, hT1⟩ := one
    rw [h1, jb_some]
    exact ⟨σ1, rfl, hT1, hF1⟩
  · rintro i s σ' hi ⟨rfl, hF, hT1, hT2⟩
    obtain ⟨f1, f2, f3⟩ := fin_put i hi
    have hW' := Fr_Wd hF hW
    refine ⟨nI 24 - nI (8 * (i + 1)), jd_pi (jd_pi σ' 34 (l + i) (bI (by4 x i))) 33 1 (nI (l + (i + 1))), ?_, rfl, Fr_pi (Fr_pi hF (Or.inr rfl)) (Or.inl ⟨rfl, rfl⟩), pi_eq _ _ _ _, fun k hk => ?_⟩
    · rw [jif, if_neg f1, jo_33 hW', hT1, jif, if_neg (nI_pos (by omega)), jif, if_neg (by rw [lx900, nI_leI (by omega) (by omega)]; omega), wr_33_0 hW', jia_of (wd hW' 34 rfl) (show l + i < 900 by omega) (by decide), jli, jli, byte_u, f2, pi_ne _ _ (by omega), hT1, lx1, nI_add, f3]
      rfl
    · rw [pi_ne _ _ (by omega)]
      by_cases hk2 : k = l + i
      · rw [hk2, pi_eq, ap_r (by omega)]
        exact congrArg bI (congrArg (by4 x) (by omega))
      · rw [pi_ne _ _ (by omega)]
        exact hT2 k (by omega)
  · rintro s σ' ⟨rfl, hF, hT⟩
    refine ⟨(), σ', ?_, hF, hT⟩
    rw [jif, if_pos (by decide)]
set_option maxHeartbeats 1000000 in
theorem ZX_feed {z : Zt} (h : XR z σ) (hz : HZ z) (a b c d e : Int32) : ZR (m_X11_feed 32 a b c d e σ) (z_feed z a b c d e) σ := by
  have hW := XR_W h
  have h0 := h
  obtain ⟨o, ⟨na, H⟩, ⟨ni, I⟩, ⟨tl, tp⟩, fl, wh, tr⟩ := z
  obtain ⟨T, hT, hS, hD, hR, hP, hTX, f1, f2, f3⟩ := h
  obtain ⟨z1, z2, z3, z4, z5⟩ := hz
  have t1 := hTX.1
  have z3 : tl ≤ 900 := z3
  show ZR _ (if tl + 20 ≤ 900 then _ else _) σ
  unfold m_X11_feed m_X8_hasRoomFor
  by_cases h9 : tl + 20 ≤ 900
  · have h9' : ¬ 900 < tl + 20 := by omega
    obtain ⟨σ1, e1, q1, F1⟩ := x_put hW hTX (by omega) a
    have hW1 := Fr_Wd F1 hW
    obtain ⟨σ2, e2, q2, F2⟩ := x_put hW1 q1 (by omega) b
    have hW2 := Fr_Wd F2 hW1
    obtain ⟨σ3, e3, q3, F3⟩ := x_put hW2 q2 (by omega) c
    have hW3 := Fr_Wd F3 hW2
    obtain ⟨σ4, e4, q4, F4⟩ := x_put hW3 q3 (by omega) d
    have hW4 := Fr_Wd F4 hW3
    obtain ⟨σ5, e5, q5, F5⟩ := x_put hW4 q4 (by omega) e
    have hW5 := Fr_Wd F5 hW4
    have F := Fr_tr (Fr_tr (Fr_tr (Fr_tr F1 F2) F3) F4) F5
    have q6 := q5.1
    simp (disch := omega) only [jb_some, jli, jif, jd_q, jd_K0, jpi_s, jpi_l, jpi_p, jpl_s, jpl_i, jpl_p, if_true, if_false, if_pos, if_neg, not_true_eq_false, not_false_eq_true, ite_true, ite_false, Nat.not_lt_zero, eq_self, Nat.le_refl, Nat.lt_irrefl, Bool.false_eq_true, or0, jo_pi, jo_pl, jia_pi, jia_pl, jo_cpy, jia_cpy, cpy_r, m_X11_grant, m_X11_refuse, m_X13_good, m_X13_refused, reduceCtorEq, nI_add, nI_leI, nI_ltI, nI_eq, pk_mul, abs_nI, max_nI, min_nI, nI_m1, nI_m2, nI_le1, m1_lt, m2_lt, and_nI, or_nI, an_nI, has_nI, bit_nI, bc_nI, bits_nI, lx0, lx1, lx2, lx3, lx4, lx5, lx6, lx7, lx8, lx9, lx10, lx11, lx16, lx20, lx40, lx60, lx90, lx99, lx100, lx200, lx900, lx999, lx9999, jo_32 hW, jo_33 hW, jo_35 hW, jo_40 hW, jo_41 hW, jo_56 hW, jo_97 hW, jo_100 hW, jo_104 hW, jo_106 hW, jo_108 hW, ja_34 hW, ja_36 hW, ja_37 hW, ja_38 hW, ja_39 hW, ja_42 hW, ja_43 hW, ja_44 hW, ja_45 hW, ja_46 hW, ja_98 hW, ja_99 hW, ja_101 hW, ja_102 hW, ja_103 hW, wr_32_0 hW, wr_32_1 hW, wr_32_2 hW, wr_32_3 hW, wr_32_4 hW, wr_32_5 hW, wr_32_6 hW, wr_32_7 hW, wr_32_8 hW, wr_33_0 hW, wr_35_0 hW, wr_35_1 hW, wr_35_2 hW, wr_35_3 hW, wr_35_4 hW, wr_40_0 hW, wr_40_1 hW, wr_40_2 hW, wr_40_3 hW, wr_40_4 hW, wr_41_0 hW, wr_56_0 hW, wr_56_1 hW, wr_97_0 hW, wr_97_1 hW, wr_100_0 hW, wr_100_1 hW, wr_100_2 hW, wr_104_0 hW, wr_106_0 hW, t1, h9, h9', e1, e2, e3, e4, e5, q6, jo_33 hW1, wr_32_0 hW1, jo_33 hW2, wr_32_0 hW2, jo_33 hW3, wr_32_0 hW3, jo_33 hW4, wr_32_0 hW4, jo_33 hW5, wr_32_0 hW5]
    have g : ∀ a k, ¬ DFx a k → σ5.2.1 a k = σ.2.1 a k := F.2.2.1
    refine ⟨σ5, rfl, ⟨T, hT, by rw [F.2.1]; exact hS, by rw [F.2.1]; exact hD, ⟨hW5, ?_⟩, PX_fr hP F (fun a k h => by unfold DP at h; unfold DFx; omega) z1 z2, q5, (g _ _ (by unfold DFx; omega)).trans f1, (g _ _ (by unfold DFx; omega)).trans f2, (g _ _ (by unfold DFx; omega)).trans f3⟩, GX_fr F (fun a k h => by unfold DFx at h; omega) fun a h => absurd h id⟩
    rcases o with _ | ⟨B, N⟩
    · exact (g 32 10 (by unfold DFx; omega)).trans hR.2
    · obtain ⟨-, h10, hX, hb, hn, hG⟩ : Wd σ ∧ σ.2.1 32 10 = nI 1 ∧ CX B N T σ ∧ bOk B ∧ nOk B N ∧ SG B σ := hR
      exact ⟨(g 32 10 (by unfold DFx; omega)).trans h10, ⟨⟨hW5, hT, by rw [F.2.1]; exact hS, CT_of hX.1.2.2.2.1 fun a k h1 h2 => g a k (by unfold DFx; omega), CN_of hX.1.2.2.2.2 fun a k h1 => g a k (by unfold DFx; omega)⟩, fun p hp => (g _ _ (by unfold DFx; omega)).trans (hX.2.1 p hp), fun p hp => (g _ _ (by unfold DFx; omega)).trans (hX.2.2.1 p hp), fun p hp => (g _ _ (by unfold DFx; omega)).trans (hX.2.2.2.1 p hp), (g _ _ (by unfold DFx; omega)).trans hX.2.2.2.2.1, (g _ _ (by unfold DFx; omega)).trans hX.2.2.2.2.2⟩, hb, hn, SG_fr hG F (fun k => by unfold DFx; omega) (by unfold L0; exact id) (by unfold L0; exact id)⟩
  · have h9' : 900 < tl + 20 := by omega
    simp (disch := omega) only [jb_some, jli, jif, jd_q, jd_K0, jpi_s, jpi_l, jpi_p, jpl_s, jpl_i, jpl_p, if_true, if_false, if_pos, if_neg, not_true_eq_false, not_false_eq_true, ite_true, ite_false, Nat.not_lt_zero, eq_self, Nat.le_refl, Nat.lt_irrefl, Bool.false_eq_true, or0, jo_pi, jo_pl, jia_pi, jia_pl, jo_cpy, jia_cpy, cpy_r, m_X11_grant, m_X11_refuse, m_X13_good, m_X13_refused, reduceCtorEq, nI_add, nI_leI, nI_ltI, nI_eq, pk_mul, abs_nI, max_nI, min_nI, nI_m1, nI_m2, nI_le1, m1_lt, m2_lt, and_nI, or_nI, an_nI, has_nI, bit_nI, bc_nI, bits_nI, lx0, lx1, lx2, lx3, lx4, lx5, lx6, lx7, lx8, lx9, lx10, lx11, lx16, lx20, lx40, lx60, lx90, lx99, lx100, lx200, lx900, lx999, lx9999, jo_32 hW, jo_33 hW, jo_35 hW, jo_40 hW, jo_41 hW, jo_56 hW, jo_97 hW, jo_100 hW, jo_104 hW, jo_106 hW, jo_108 hW, ja_34 hW, ja_36 hW, ja_37 hW, ja_38 hW, ja_39 hW, ja_42 hW, ja_43 hW, ja_44 hW, ja_45 hW, ja_46 hW, ja_98 hW, ja_99 hW, ja_101 hW, ja_102 hW, ja_103 hW, wr_32_0 hW, wr_32_1 hW, wr_32_2 hW, wr_32_3 hW, wr_32_4 hW, wr_32_5 hW, wr_32_6 hW, wr_32_7 hW, wr_32_8 hW, wr_33_0 hW, wr_35_0 hW, wr_35_1 hW, wr_35_2 hW, wr_35_3 hW, wr_35_4 hW, wr_40_0 hW, wr_40_1 hW, wr_40_2 hW, wr_40_3 hW, wr_40_4 hW, wr_41_0 hW, wr_56_0 hW, wr_56_1 hW, wr_97_0 hW, wr_97_1 hW, wr_100_0 hW, wr_100_1 hW, wr_100_2 hW, wr_104_0 hW, wr_106_0 hW, t1, h9, h9']
    exact ⟨σ, rfl, h0, GX_refl σ⟩
def fdW (a b c d e : Int32) (i : Nat) : Int32 := if 4 ≤ i then (if 8 ≤ i then (if 12 ≤ i then (if 16 ≤ i then e else d) else c) else b) else a
theorem fd5_at (tp : Nat → Nat) (l : Nat) (a b c d e : Int32) {i : Nat} (hi : i < 20) : fd5 tp l a b c d e (l + i) = by4 (fdW a b c d e i) (i % 4) := by
  unfold fd5 fdW
  by_cases h16 : 16 ≤ i
  · rw [ap_r (by omega), if_pos (by omega), if_pos (by omega), if_pos (by omega), if_pos h16]
    exact congrArg (by4 e) (by omega)
  · rw [ap_l (by omega)]
    by_cases h12 : 12 ≤ i
    · rw [ap_r (by omega), if_pos (by omega), if_pos (by omega), if_pos h12, if_neg h16]
      exact congrArg (by4 d) (by omega)
    · rw [ap_l (by omega)]
      by_cases h8 : 8 ≤ i
      · rw [ap_r (by omega), if_pos (by omega), if_pos h8, if_neg h12]
        exact congrArg (by4 c) (by omega)
      · rw [ap_l (by omega)]
        by_cases h4 : 4 ≤ i
        · rw [ap_r (by omega), if_pos h4, if_neg h8]
          exact congrArg (by4 b) (by omega)
        · rw [ap_l (by omega), ap_r (by omega), if_neg h4]
          exact congrArg (by4 a) (by omega)
theorem fd5_old (tp : Nat → Nat) (l : Nat) (a b c d e : Int32) {k : Nat} (hk : k < l) : fd5 tp l a b c d e k = tp k := by
  unfold fd5
  rw [ap_l (by omega), ap_l (by omega), ap_l (by omega), ap_l (by omega), ap_l (by omega)]
theorem fd5_lt {tp : Nat → Nat} (h : ∀ k, tp k < 256) (l : Nat) (a b c d e : Int32) (k : Nat) : fd5 tp l a b c d e k < 256 := ap_lt (ap_lt (ap_lt (ap_lt (ap_lt h (by4_lt a)) (by4_lt b)) (by4_lt c)) (by4_lt d)) (by4_lt e) k
def DFm (a k : Nat) : Prop := a = 118 ∧ k = 6 ∨ a = 119
set_option maxHeartbeats 1000000 in
theorem ZM_feed {z : Zt} (h : MR z σ) (hz : HZ z) (a b c d e : Int32) : ZS (m_X13_feed 118 a b c d e σ) (z_feed z a b c d e) σ := by
  unfold m_X13_feed
  rw [jli]
  refine ZS_0 ?_
  have h0 := MR_0 h
  clear h
  generalize jd_pi σ 118 0 0 = τ at *
  have hW := MR_W h0
  have h := h0
  obtain ⟨o, ⟨na, H⟩, ⟨ni, I⟩, ⟨tl, tp⟩, fl, wh, tr⟩ := z
  obtain ⟨b0, hR, hP, hTM, f1, f2, f3⟩ := h
  obtain ⟨z1, z2, z3, z4, z5⟩ := hz
  have z3 : tl ≤ 900 := z3
  show ZS _ (if tl + 20 ≤ 900 then _ else _) τ
  rw [hTM.1, lx20, nI_add, lx900, jif]
  by_cases h9 : tl + 20 ≤ 900
  · rw [if_pos ((nI_leI (by omega) (by omega)).mpr h9), if_pos h9]
    have one := jlp_inv (body := fun (s2 : Int32) σ2 =>
jd_if (nI 20 ≤ s2) (
some ((Sum.inr ()), σ2)) (
jd_b (α := Int32) (
jd_if (4 ≤ s2) (
jd_if (8 ≤ s2) (
jd_if (12 ≤ s2) (
jd_if (16 ≤ s2) (
some (e, σ2)) (
some (d, σ2))) (
some (c, σ2))) (
some (b, σ2))) (
some (a, σ2))) fun t4 σ4 =>
jd_o σ4 (13, 29) (some 118) fun a5 =>
jd_ia σ4 21 (σ4.2.2.2 a5 5) (σ4.2.1 a5 6) fun a6 j6 =>
jd_li (jd_pi σ4 a6 j6 (vp_nar .byte ((t4 >>> ((24 - (8 * (s2 - s2 / 4 * 4))) &&& 31)).toInt8.toInt32))) fun τ7 =>
jd_li (jd_pi τ7 a5 6 ((τ7.2.1 a5 6) + 1)) fun τ8 =>
some (Sum.inl (s2 + 1), τ8))) 20 (fun i s σ' => s = nI i ∧ Fr DFm L0 τ σ' ∧ TM (tl + i) (fd5 tp tl a b c d e) σ')
      (fun _ σ' => Fr DFm L0 τ σ' ∧ TM (tl + 20) (fd5 tp tl a b c d e) σ') ?_ ?_ jd_fu (jfu (by omega)) 0 τ ⟨rfl, Fr_refl τ, hTM.1, fun k hk => by rw [fd5_old _ _ _ _ _ _ _ (by omega)]; exact hTM.2 k (by omega)⟩
    · obtain ⟨t, σ1, e1, F, hT⟩ := one
      have hW1 := Fr_Wd F hW
      have g : ∀ a k, ¬ DFm a k → σ1.2.1 a k = τ.2.1 a k := F.2.2.1
      rw [e1, jb_some, jo_118 hW1, hT.1]
      refine ⟨σ1, rfl, ⟨b0, ⟨hW1, ?_⟩, PM_of hP (nB_le hR) (g _ _ (by unfold DFm; omega)) (g _ _ (by unfold DFm; omega)) fun a k h => g a k (by unfold DFm; omega), hT, (g _ _ (by unfold DFm; omega)).trans f1, (g _ _ (by unfold DFm; omega)).trans f2, (g _ _ (by unfold DFm; omega)).trans f3⟩, GM_fr F (fun a k h => by unfold DFm at h; omega) fun a h => absurd h id⟩
      rcases o with _ | ⟨B, N⟩
      · show σ1.2.2.2 118 3 = none
        rw [F.2.1]
        exact hR.2
      · obtain ⟨-, hS, hC, hV, hb, hn⟩ : Wd τ ∧ τ.2.2.2 118 3 = some b0 ∧ MT B b0 τ ∧ MV B N τ ∧ bOk B ∧ nOk B N := hR
        refine ⟨by rw [F.2.1]; exact hS, MT_of hC F.1 F.2.1 fun a k ha => g a k ?_, MV_of hV fun k => g _ _ (by unfold DFm; omega), hb, hn⟩
        have := hC.1
        unfold DFm
        omega
    · rintro i s σ' hi ⟨rfl, hF, hT1, hT2⟩
      have hW' := Fr_Wd hF hW
      have e4 : (jd_if (4 ≤ nI i) (
jd_if (8 ≤ nI i) (
jd_if (12 ≤ nI i) (
jd_if (16 ≤ nI i) (
some (e, σ')) (
some (d, σ'))) (
some (c, σ'))) (
some (b, σ'))) (
some (a, σ'))) = some (fdW a b c d e i, σ') := by
        simp (disch := omega) only [jif, lx4, lx8, lx12, lx16, nI_leI]
        unfold fdW
        by_cases h4 : 4 ≤ i
        · by_cases h8 : 8 ≤ i
          · by_cases h12 : 12 ≤ i
            · by_cases h16 : 16 ≤ i
              · simp only [h4, h8, h12, h16, if_true]
              · simp only [h4, h8, h12, h16, if_true, if_false]
            · simp only [h4, h8, h12, if_true, if_false]
          · simp only [h4, h8, if_true, if_false]
        · simp only [h4, if_false]
      have e5 : (24 - (8 * (nI i - nI i / 4 * 4))) = nI (24 - 8 * (i % 4)) := by
        rw [lx4, pk_rem (by omega) (by decide) (by decide), lx8, pk_mul, lx24, nI_sub (by omega)]
      refine ⟨nI (i + 1), jd_pi (jd_pi σ' 119 (tl + i) (bI (by4 (fdW a b c d e i) (i % 4)))) 118 6 (nI (tl + (i + 1))), ?_, rfl, Fr_pi (Fr_pi hF (Or.inr rfl)) (Or.inl ⟨rfl, rfl⟩), pi_eq _ _ _ _, fun k hk => ?_⟩
      · rw [jif, if_neg (by rw [nI_leI (by omega) (by omega)]; omega), e4, jb_some, jo_118 hW', hT1, wr_118_5 hW', jia_of (wd hW' 119 rfl) (show tl + i < 900 by omega) (by decide), jli, jli, byte_u, e5, pi_ne _ _ (by omega), hT1, lx1, nI_add, nI_add]
        rfl
      · rw [pi_ne _ _ (by omega)]
        by_cases hk2 : k = tl + i
        · rw [hk2, pi_eq, fd5_at _ _ _ _ _ _ _ hi]
        · rw [pi_ne _ _ (by omega)]
          exact hT2 k (by omega)
    · rintro s σ' ⟨rfl, hF, hT⟩
      refine ⟨(), σ', ?_, hF, hT⟩
      rw [jif, if_pos (nI_le (Nat.le_refl _) (by decide))]
  · rw [if_neg (by rw [nI_leI (by omega) (by omega)]; exact h9), if_neg h9]
    exact ⟨τ, rfl, h0, GM_refl τ⟩
end
