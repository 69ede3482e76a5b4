/-! P (28): what is told, led, THE TAPE -/
theorem fa_byte_low (x : Int32) : (x &&& 255).toInt8 = x.toInt8 := by
  apply Int8.toBitVec_inj.1
  apply BitVec.eq_of_getLsbD_eq
  intro i hi
  have h2 : (255 : Int32).toBitVec.getLsbD i = true := by
    have : ∀ j : Fin 8, (255 : Int32).toBitVec.getLsbD j.val = true := by decide +kernel
    exact this ⟨i, hi⟩
  have h4 : (x &&& 255).toBitVec.getLsbD i = x.toBitVec.getLsbD i := by
    show (x.toBitVec &&& (255 : Int32).toBitVec).getLsbD i = _
    rw [BitVec.getLsbD_and, h2, Bool.and_true]
  have h3 : i < 32 := by omega
  first
    | (show (((x &&& 255).toBitVec).signExtend 8).getLsbD i = (x.toBitVec.signExtend 8).getLsbD i; rw [BitVec.getLsbD_signExtend, BitVec.getLsbD_signExtend, if_pos h3, if_pos h3, h4])
    | (show (((x &&& 255).toBitVec).setWidth 8).getLsbD i = (x.toBitVec.setWidth 8).getLsbD i; rw [BitVec.getLsbD_setWidth, BitVec.getLsbD_setWidth, h4])
    | (simp [hi, h3, h4]; done)
theorem byte_u (y : Int32) : vp_nar .byte y.toInt8.toInt32 = bI (y.toBitVec.toNat % 256) := by
  rw [pk_vb]
  unfold bI
  rw [← fa_byte_low, pk_and y 8 (by decide)]
section
variable {σ σ' : jd_Hp} {z : Zt} {B : Bch} {N : Nw} {T b : Nat} {o : BO}
theorem XR_GM (h : XR z σ) (g : GM σ σ') (hW' : Wd σ') (hz : HZ z) : XR z σ' := by
  obtain ⟨o, ⟨na, H⟩, ⟨ni, I⟩, ⟨tl, tp⟩, fl, wh, tr⟩ := z
  obtain ⟨T, hT, hS, hD, hR, hP, hTX, f1, f2, f3⟩ := h
  obtain ⟨z1, z2, z3, z4, z5⟩ := hz
  have gi : ∀ a k, a < 118 → σ'.2.1 a k = σ.2.1 a k := fun a k h => (g.2 a k h).1
  have gl : ∀ a k, a < 118 → σ'.2.2.1 a k = σ.2.2.1 a k := fun a k h => (g.2 a k h).2.1
  have gr : ∀ a k, a < 118 → σ'.2.2.2 a k = σ.2.2.2 a k := fun a k h => (g.2 a k h).2.2
  refine ⟨T, hT, (gr _ _ (by decide)).trans hS, (gr _ _ (by decide)).trans hD, ⟨hW', ?_⟩, ?_, ⟨(gi _ _ (by decide)).trans hTX.1, fun k hk => (gi _ _ (by decide)).trans (hTX.2 k hk)⟩, (gi _ _ (by decide)).trans f1, (gi _ _ (by decide)).trans f2, (gi _ _ (by decide)).trans f3⟩
  · rcases o with _ | ⟨B, N⟩
    · exact (gi 32 10 (by decide)).trans hR.2
    · obtain ⟨hW, h10, hX, hb, hn, hG⟩ := hR
      exact ⟨(gi 32 10 (by decide)).trans h10, ⟨⟨hW', hT, (gr _ _ (by decide)).trans hS, CT_of hX.1.2.2.2.1 fun a k h1 h2 => gi a k (by omega), CN_of hX.1.2.2.2.2 fun a k h1 => gi a k (by omega)⟩, fun p hp => (gi _ _ (by decide)).trans (hX.2.1 p hp), fun p hp => (gi _ _ (by decide)).trans (hX.2.2.1 p hp), fun p hp => (gi _ _ (by decide)).trans (hX.2.2.2.1 p hp), (gi _ _ (by decide)).trans hX.2.2.2.2.1, (gi _ _ (by decide)).trans hX.2.2.2.2.2⟩, hb, hn, fun p hp => (gl _ _ (by decide)).trans (hG.1 p hp), (gi _ _ (by decide)).trans hG.2.1, (gl _ _ (by decide)).trans hG.2.2⟩
  · obtain ⟨nw, w1, w2, w3, w4, w5, w6⟩ := hP
    exact ⟨nw, w1, (gi _ _ (by decide)).trans w2, (gi _ _ (by decide)).trans w3, (gi _ _ (by decide)).trans w4, fun k hk => ScX_of (w5 k hk) fun a j h => gi a j (by omega), fun i hi => ScX_of (w6 i hi) fun a j h => gi a j (by omega)⟩
theorem len_W (hW : Wd σ) : 131 ≤ σ.1.length := by
  have h := wd hW 130 rfl
  have := (List.getElem?_eq_some_iff.mp h).1
  omega
theorem lt_of_get {l : List (Nat × Nat)} {a : Nat} {x : Nat × Nat} (h : l[a]? = some x) : a < l.length := (List.getElem?_eq_some_iff.mp h).1
theorem get_app {l t : List (Nat × Nat)} {a : Nat} {x : Nat × Nat} (h : l[a]? = some x) : (l ++ t)[a]? = some x := by
  rw [List.getElem?_append_left (lt_of_get h)]
  exact h
theorem MR_GX (h : MR z σ) (g : GX σ σ') (hW' : Wd σ') : MR z σ' := by
  obtain ⟨o, ⟨na, H⟩, ⟨ni, I⟩, ⟨tl, tp⟩, fl, wh, tr⟩ := z
  obtain ⟨b, hR, hP, hTM, f1, f2, f3⟩ := h
  have hl := len_W hR.1
  obtain ⟨⟨t, t1, t2, t3⟩, g⟩ := g
  have gi : ∀ a k, 118 ≤ a → ¬ a = 130 → a < σ.1.length → σ'.2.1 a k = σ.2.1 a k := fun a k h h1 h2 => (g a k h h1 h2).1
  have gr : ∀ a k, 118 ≤ a → ¬ a = 130 → a < σ.1.length → σ'.2.2.2 a k = σ.2.2.2 a k := fun a k h h1 h2 => (g a k h h1 h2).2.2
  have g1 : ∀ a k, 118 ≤ a → a < 130 → σ'.2.1 a k = σ.2.1 a k := fun a k h h1 => gi a k h (by omega) (by omega)
  refine ⟨b, ⟨hW', ?_⟩, PM_of hP (nB_le hR) (g1 _ _ (by decide) (by decide)) (g1 _ _ (by decide) (by decide)) fun a k h => g1 a k (by omega) (by omega), ⟨(g1 _ _ (by decide) (by decide)).trans hTM.1, fun k hk => (g1 _ _ (by decide) (by decide)).trans (hTM.2 k hk)⟩, (g1 _ _ (by decide) (by decide)).trans f1, (g1 _ _ (by decide) (by decide)).trans f2, (g1 _ _ (by decide) (by decide)).trans f3⟩
  rcases o with _ | ⟨B, N⟩
  · exact (gr 118 3 (by decide) (by decide) (by omega)).trans hR.2
  · obtain ⟨hW, hS, ⟨c0, c1, c2, c3, c4, c5, c6, c7⟩, hV, hb, hn⟩ := hR
    have l8 := lt_of_get (c3 1 (by decide))
    refine ⟨(gr 118 3 (by decide) (by decide) (by omega)).trans hS, ⟨c0, ?_, fun i hi => ?_, fun i hi => ?_, fun i hi => (gr _ _ (by omega) (by omega) (by omega)).trans (c4 i hi), fun i hi => (gi _ _ (by omega) (by omega) (by omega)).trans (c5 i hi), fun k p hk hp => (gi _ _ (by omega) (by omega) (by omega)).trans (c6 k p hk hp), fun k q hk hq => (gi _ _ (by omega) (by omega) (by omega)).trans (c7 k q hk hq)⟩, MV_of hV fun k => g1 _ _ (by decide) (by decide), hb, hn⟩
    · rw [t1]
      exact get_app c1
    · rw [t1]
      exact get_app (c2 i hi)
    · rw [t1]
      exact get_app (c3 i hi)
theorem GX_refl (σ : jd_Hp) : GX σ σ := ⟨Gr_same rfl, fun _ _ _ _ _ => ⟨rfl, rfl, rfl⟩⟩
theorem GM_refl (σ : jd_Hp) : GM σ σ := ⟨Gr_same rfl, fun _ _ _ => ⟨rfl, rfl, rfl⟩⟩
/-! fault, where, trouble -/
def z_fault (z : Zt) : Int32 × Zt := (nI z.2.2.2.2.1, z)
def z_where (z : Zt) : Int32 × Zt := (if z.2.2.2.2.2.2 = 4 then z.2.2.2.2.2.1 else - nI 1, z)
def z_trouble (z : Zt) : Int32 × Zt := (nI z.2.2.2.2.2.2, z)
theorem XR_W (h : XR z σ) : Wd σ := by
  obtain ⟨o, ⟨na, H⟩, ⟨ni, I⟩, ⟨tl, tp⟩, fl, wh, tr⟩ := z
  obtain ⟨T, hT, hS, hD, hR, -⟩ := h
  exact hR.1
theorem MR_W (h : MR z σ) : Wd σ := by
  obtain ⟨o, ⟨na, H⟩, ⟨ni, I⟩, ⟨tl, tp⟩, fl, wh, tr⟩ := z
  obtain ⟨b, hR, -⟩ := h
  exact hR.1
theorem ZX_fault (h : XR z σ) : ZR (m_X11_fault 32 σ) (z_fault z) σ := by
  have hW := XR_W h
  have h0 := h
  obtain ⟨o, ⟨na, H⟩, ⟨ni, I⟩, ⟨tl, tp⟩, fl, wh, tr⟩ := z
  obtain ⟨T, hT, hS, hD, hR, hP, hTX, f1, f2, f3⟩ := h
  unfold m_X11_fault
  rw [wr_32_1 hW, jo_35 hW, f1]
  exact ⟨σ, rfl, h0, GX_refl σ⟩
theorem ZX_where (h : XR z σ) (ht : z.2.2.2.2.2.2 ≤ 6) : ZR (m_X11_where 32 σ) (z_where z) σ := by
  have hW := XR_W h
  have h0 := h
  obtain ⟨o, ⟨na, H⟩, ⟨ni, I⟩, ⟨tl, tp⟩, fl, wh, tr⟩ := z
  obtain ⟨T, hT, hS, hD, hR, hP, hTX, f1, f2, f3⟩ := h
  have ht : tr ≤ 6 := ht
  show ZR _ (if tr = 4 then wh else - nI 1, _) σ
  unfold m_X11_where
  rw [f3]
  by_cases h4 : tr = 4
  · subst h4
    rw [jif, if_neg (by simp only [Classical.not_not]; rfl), wr_32_1 hW, jo_35 hW, f2, if_pos rfl]
    exact ⟨σ, rfl, h0, GX_refl σ⟩
  · rw [jif, if_pos (by rw [lx4, nI_eq (by omega) (by omega)]; exact h4), if_neg h4]
    exact ⟨σ, rfl, h0, GX_refl σ⟩
theorem ZX_trouble (h : XR z σ) : ZR (m_X11_trouble 32 σ) (z_trouble z) σ := by
  have h0 := h
  obtain ⟨o, ⟨na, H⟩, ⟨ni, I⟩, ⟨tl, tp⟩, fl, wh, tr⟩ := z
  obtain ⟨T, hT, hS, hD, hR, hP, hTX, f1, f2, f3⟩ := h
  unfold m_X11_trouble
  rw [f3]
  exact ⟨σ, rfl, h0, GX_refl σ⟩
theorem ZM_fault (h : MR z σ) : ZS (m_X13_fault 118 σ) (z_fault z) σ := by
  unfold m_X13_fault
  rw [jli]
  refine ZS_0 ?_
  have h0 := MR_0 h
  have h1 := h0
  obtain ⟨o, ⟨na, H⟩, ⟨ni, I⟩, ⟨tl, tp⟩, fl, wh, tr⟩ := z
  obtain ⟨b, hR, hP, hTM, f1, f2, f3⟩ := h1
  rw [f1]
  exact ⟨_, rfl, h0, GM_refl _⟩
theorem ZM_where (h : MR z σ) : ZS (m_X13_where 118 σ) (z_where z) σ := by
  unfold m_X13_where
  rw [jli]
  refine ZS_0 ?_
  have h0 := MR_0 h
  have h1 := h0
  obtain ⟨o, ⟨na, H⟩, ⟨ni, I⟩, ⟨tl, tp⟩, fl, wh, tr⟩ := z
  obtain ⟨b, hR, hP, hTM, f1, f2, f3⟩ := h1
  rw [f3]
  exact ⟨_, rfl, h0, GM_refl _⟩
theorem ZM_trouble (h : MR z σ) : ZS (m_X13_trouble 118 σ) (z_trouble z) σ := by
  unfold m_X13_trouble
  rw [jli]
  refine ZS_0 ?_
  have h0 := MR_0 h
  have h1 := h0
  obtain ⟨o, ⟨na, H⟩, ⟨ni, I⟩, ⟨tl, tp⟩, fl, wh, tr⟩ := z
  obtain ⟨b, hR, hP, hTM, f1, f2, f3⟩ := h1
  rw [f2]
  exact ⟨_, rfl, h0, GM_refl _⟩
/-! size -/
def szN (B : Bch) (N : Nw) (na ni k : Nat) : Nat := if k = 5 then pc (B 8 5) else if k < 8 then B 8 k else if k = 8 then N 8 else if k = 9 then na else ni
def z_size (z : Zt) (w : Int32) : Int32 × Zt := (if w = nI 11 then nI z.2.2.2.1.1 else match rgN w 0 10 with
  | none => - nI 1
  | some k => match z.1 with
    | none => nI 0
    | some (B, N) => nI (szN B N z.2.1.1 z.2.2.1.1 k), z)
theorem sw_nI8 {α : Type} {k : Nat} {As : List α} {D : α} (hk : k < 2 ^ 31) : jd_sw (nI k) 8 As D = if k < 8 then D else As.getD (k - 8) D := by
  unfold jd_sw
  rw [nI_toInt hk]
  by_cases h : k < 8
  · rw [if_pos (by omega), if_pos h]
  · rw [if_neg (by omega), if_neg h]
    congr 1
    omega
theorem le10 {k : Nat} (h : k ≤ 10) : k = 0 ∨ k = 1 ∨ k = 2 ∨ k = 3 ∨ k = 4 ∨ k = 5 ∨ k = 6 ∨ k = 7 ∨ k = 8 ∨ k = 9 ∨ k = 10 := by omega
set_option maxHeartbeats 2000000 in
theorem ZX_size (h : XR z σ) (w : Int32) : ZR (m_X11_size 32 w σ) (z_size z w) σ := by
  have hW := XR_W h
  have h0 := h
  obtain ⟨o, ⟨na, H⟩, ⟨ni, I⟩, ⟨tl, tp⟩, fl, wh, tr⟩ := z
  obtain ⟨T, hT, hS, hD, hR, hP, hTX, f1, f2, f3⟩ := h
  have key : m_X11_size 32 w σ = some ((z_size (o, (na, H), (ni, I), (tl, tp), fl, wh, tr) w).1, σ) := by
    have e1 := hTX.1
    obtain ⟨nw, w1, w2, w3, w4, -⟩ := hP
    unfold m_X11_size z_size
    by_cases h11 : w = nI 11
    · subst h11
      simp (disch := omega) only [jb_some, jli, jif, jd_q, jd_K0, jpi_s, jpi_l, jpi_p, jpl_s, jpl_i, jpl_p, if_true, if_false, if_pos, if_neg, not_true_eq_false, not_false_eq_true, ite_true, ite_false, Nat.not_lt_zero, eq_self, Nat.le_refl, Nat.lt_irrefl, Bool.false_eq_true, or0, jo_pi, jo_pl, jia_pi, jia_pl, jo_cpy, jia_cpy, cpy_r, m_X11_grant, m_X11_refuse, m_X13_good, m_X13_refused, reduceCtorEq, nI_add, nI_leI, nI_ltI, nI_eq, pk_mul, abs_nI, max_nI, min_nI, nI_m1, nI_m2, nI_le1, m1_lt, m2_lt, and_nI, or_nI, an_nI, has_nI, bit_nI, bc_nI, bits_nI, lx0, lx1, lx2, lx3, lx4, lx5, lx6, lx7, lx8, lx9, lx10, lx11, lx16, lx20, lx40, lx60, lx90, lx99, lx100, lx200, lx900, lx999, lx9999, jo_32 hW, jo_33 hW, jo_35 hW, jo_40 hW, jo_41 hW, jo_56 hW, jo_97 hW, jo_100 hW, jo_104 hW, jo_106 hW, jo_108 hW, ja_34 hW, ja_36 hW, ja_37 hW, ja_38 hW, ja_39 hW, ja_42 hW, ja_43 hW, ja_44 hW, ja_45 hW, ja_46 hW, ja_98 hW, ja_99 hW, ja_101 hW, ja_102 hW, ja_103 hW, wr_32_0 hW, wr_32_1 hW, wr_32_2 hW, wr_32_3 hW, wr_32_4 hW, wr_32_5 hW, wr_32_6 hW, wr_32_7 hW, wr_32_8 hW, wr_33_0 hW, wr_35_0 hW, wr_35_1 hW, wr_35_2 hW, wr_35_3 hW, wr_35_4 hW, wr_40_0 hW, wr_40_1 hW, wr_40_2 hW, wr_40_3 hW, wr_40_4 hW, wr_41_0 hW, wr_56_0 hW, wr_56_1 hW, wr_97_0 hW, wr_97_1 hW, wr_100_0 hW, wr_100_1 hW, wr_100_2 hW, wr_104_0 hW, wr_106_0 hW, e1]
    · rcases hk : rgN w 0 10 with _ | k
      · rcases rgN_none hk with h2 | ⟨h2, h3⟩
        · simp (disch := omega) only [jb_some, jli, jif, jd_q, jd_K0, jpi_s, jpi_l, jpi_p, jpl_s, jpl_i, jpl_p, if_true, if_false, if_pos, if_neg, not_true_eq_false, not_false_eq_true, ite_true, ite_false, Nat.not_lt_zero, eq_self, Nat.le_refl, Nat.lt_irrefl, Bool.false_eq_true, or0, jo_pi, jo_pl, jia_pi, jia_pl, jo_cpy, jia_cpy, cpy_r, m_X11_grant, m_X11_refuse, m_X13_good, m_X13_refused, reduceCtorEq, nI_add, nI_leI, nI_ltI, nI_eq, pk_mul, abs_nI, max_nI, min_nI, nI_m1, nI_m2, nI_le1, m1_lt, m2_lt, and_nI, or_nI, an_nI, has_nI, bit_nI, bc_nI, bits_nI, lx0, lx1, lx2, lx3, lx4, lx5, lx6, lx7, lx8, lx9, lx10, lx11, lx16, lx20, lx40, lx60, lx90, lx99, lx100, lx200, lx900, lx999, lx9999, jo_32 hW, jo_33 hW, jo_35 hW, jo_40 hW, jo_41 hW, jo_56 hW, jo_97 hW, jo_100 hW, jo_104 hW, jo_106 hW, jo_108 hW, ja_34 hW, ja_36 hW, ja_37 hW, ja_38 hW, ja_39 hW, ja_42 hW, ja_43 hW, ja_44 hW, ja_45 hW, ja_46 hW, ja_98 hW, ja_99 hW, ja_101 hW, ja_102 hW, ja_103 hW, wr_32_0 hW, wr_32_1 hW, wr_32_2 hW, wr_32_3 hW, wr_32_4 hW, wr_32_5 hW, wr_32_6 hW, wr_32_7 hW, wr_32_8 hW, wr_33_0 hW, wr_35_0 hW, wr_35_1 hW, wr_35_2 hW, wr_35_3 hW, wr_35_4 hW, wr_40_0 hW, wr_40_1 hW, wr_40_2 hW, wr_40_3 hW, wr_40_4 hW, wr_41_0 hW, wr_56_0 hW, wr_56_1 hW, wr_97_0 hW, wr_97_1 hW, wr_100_0 hW, wr_100_1 hW, wr_100_2 hW, wr_104_0 hW, wr_106_0 hW, h11, h2]
        · have h4 : ¬ w ≤ nI 11 := by
            obtain ⟨k, hk', rfl⟩ := nI_of h2
            rw [nI_leI hk' (by decide)]
            rw [nI_eq hk' (by decide)] at h11
            rw [nI_ltI (by decide) hk'] at h3
            omega
          simp (disch := omega) only [jb_some, jli, jif, jd_q, jd_K0, jpi_s, jpi_l, jpi_p, jpl_s, jpl_i, jpl_p, if_true, if_false, if_pos, if_neg, not_true_eq_false, not_false_eq_true, ite_true, ite_false, Nat.not_lt_zero, eq_self, Nat.le_refl, Nat.lt_irrefl, Bool.false_eq_true, or0, jo_pi, jo_pl, jia_pi, jia_pl, jo_cpy, jia_cpy, cpy_r, m_X11_grant, m_X11_refuse, m_X13_good, m_X13_refused, reduceCtorEq, nI_add, nI_leI, nI_ltI, nI_eq, pk_mul, abs_nI, max_nI, min_nI, nI_m1, nI_m2, nI_le1, m1_lt, m2_lt, and_nI, or_nI, an_nI, has_nI, bit_nI, bc_nI, bits_nI, lx0, lx1, lx2, lx3, lx4, lx5, lx6, lx7, lx8, lx9, lx10, lx11, lx16, lx20, lx40, lx60, lx90, lx99, lx100, lx200, lx900, lx999, lx9999, jo_32 hW, jo_33 hW, jo_35 hW, jo_40 hW, jo_41 hW, jo_56 hW, jo_97 hW, jo_100 hW, jo_104 hW, jo_106 hW, jo_108 hW, ja_34 hW, ja_36 hW, ja_37 hW, ja_38 hW, ja_39 hW, ja_42 hW, ja_43 hW, ja_44 hW, ja_45 hW, ja_46 hW, ja_98 hW, ja_99 hW, ja_101 hW, ja_102 hW, ja_103 hW, wr_32_0 hW, wr_32_1 hW, wr_32_2 hW, wr_32_3 hW, wr_32_4 hW, wr_32_5 hW, wr_32_6 hW, wr_32_7 hW, wr_32_8 hW, wr_33_0 hW, wr_35_0 hW, wr_35_1 hW, wr_35_2 hW, wr_35_3 hW, wr_35_4 hW, wr_40_0 hW, wr_40_1 hW, wr_40_2 hW, wr_40_3 hW, wr_40_4 hW, wr_41_0 hW, wr_56_0 hW, wr_56_1 hW, wr_97_0 hW, wr_97_1 hW, wr_100_0 hW, wr_100_1 hW, wr_100_2 hW, wr_104_0 hW, wr_106_0 hW, h11, h2, h4]
      · obtain ⟨rfl, -, h3⟩ := rgN_some (by decide) hk (by decide)
        rcases o with _ | ⟨B, N⟩
        · have h10 : σ.2.1 32 10 = nI 0 := hR.2
          have h4 : ¬ k = 11 := by omega
          have h5 : k ≤ 11 := by omega
          simp (disch := omega) only [jb_some, jli, jif, jd_q, jd_K0, jpi_s, jpi_l, jpi_p, jpl_s, jpl_i, jpl_p, if_true, if_false, if_pos, if_neg, not_true_eq_false, not_false_eq_true, ite_true, ite_false, Nat.not_lt_zero, eq_self, Nat.le_refl, Nat.lt_irrefl, Bool.false_eq_true, or0, jo_pi, jo_pl, jia_pi, jia_pl, jo_cpy, jia_cpy, cpy_r, m_X11_grant, m_X11_refuse, m_X13_good, m_X13_refused, reduceCtorEq, nI_add, nI_leI, nI_ltI, nI_eq, pk_mul, abs_nI, max_nI, min_nI, nI_m1, nI_m2, nI_le1, m1_lt, m2_lt, and_nI, or_nI, an_nI, has_nI, bit_nI, bc_nI, bits_nI, lx0, lx1, lx2, lx3, lx4, lx5, lx6, lx7, lx8, lx9, lx10, lx11, lx16, lx20, lx40, lx60, lx90, lx99, lx100, lx200, lx900, lx999, lx9999, jo_32 hW, jo_33 hW, jo_35 hW, jo_40 hW, jo_41 hW, jo_56 hW, jo_97 hW, jo_100 hW, jo_104 hW, jo_106 hW, jo_108 hW, ja_34 hW, ja_36 hW, ja_37 hW, ja_38 hW, ja_39 hW, ja_42 hW, ja_43 hW, ja_44 hW, ja_45 hW, ja_46 hW, ja_98 hW, ja_99 hW, ja_101 hW, ja_102 hW, ja_103 hW, wr_32_0 hW, wr_32_1 hW, wr_32_2 hW, wr_32_3 hW, wr_32_4 hW, wr_32_5 hW, wr_32_6 hW, wr_32_7 hW, wr_32_8 hW, wr_33_0 hW, wr_35_0 hW, wr_35_1 hW, wr_35_2 hW, wr_35_3 hW, wr_35_4 hW, wr_40_0 hW, wr_40_1 hW, wr_40_2 hW, wr_40_3 hW, wr_40_4 hW, wr_41_0 hW, wr_56_0 hW, wr_56_1 hW, wr_97_0 hW, wr_97_1 hW, wr_100_0 hW, wr_100_1 hW, wr_100_2 hW, wr_104_0 hW, wr_106_0 hW, h4, h5, h10]
        · obtain ⟨-, h10, hX, hb, hn, hG⟩ : Wd σ ∧ σ.2.1 32 10 = nI 1 ∧ CX B N T σ ∧ bOk B ∧ nOk B N ∧ SG B σ := hR
          have c5 : B 8 5 < 64 := Nat.lt_of_lt_of_le hb.2.2.2.2.2.2.2.1 (pow6 (by have := hb.2.2.1; omega))
          have h4 : ¬ k = 11 := by omega
          have h5 : k ≤ 11 := by omega
          obtain ⟨⟨-, hT, hS, hC, hN⟩, hDD⟩ := hX
          have n8 := cn_t hN
          simp (disch := omega) only [jb_some, jli, jif, jd_q, jd_K0, jpi_s, jpi_l, jpi_p, jpl_s, jpl_i, jpl_p, if_true, if_false, if_pos, if_neg, not_true_eq_false, not_false_eq_true, ite_true, ite_false, Nat.not_lt_zero, eq_self, Nat.le_refl, Nat.lt_irrefl, Bool.false_eq_true, or0, jo_pi, jo_pl, jia_pi, jia_pl, jo_cpy, jia_cpy, cpy_r, m_X11_grant, m_X11_refuse, m_X13_good, m_X13_refused, reduceCtorEq, nI_add, nI_leI, nI_ltI, nI_eq, pk_mul, abs_nI, max_nI, min_nI, nI_m1, nI_m2, nI_le1, m1_lt, m2_lt, and_nI, or_nI, an_nI, has_nI, bit_nI, bc_nI, bits_nI, lx0, lx1, lx2, lx3, lx4, lx5, lx6, lx7, lx8, lx9, lx10, lx11, lx16, lx20, lx40, lx60, lx90, lx99, lx100, lx200, lx900, lx999, lx9999, jo_32 hW, jo_33 hW, jo_35 hW, jo_40 hW, jo_41 hW, jo_56 hW, jo_97 hW, jo_100 hW, jo_104 hW, jo_106 hW, jo_108 hW, ja_34 hW, ja_36 hW, ja_37 hW, ja_38 hW, ja_39 hW, ja_42 hW, ja_43 hW, ja_44 hW, ja_45 hW, ja_46 hW, ja_98 hW, ja_99 hW, ja_101 hW, ja_102 hW, ja_103 hW, wr_32_0 hW, wr_32_1 hW, wr_32_2 hW, wr_32_3 hW, wr_32_4 hW, wr_32_5 hW, wr_32_6 hW, wr_32_7 hW, wr_32_8 hW, wr_33_0 hW, wr_35_0 hW, wr_35_1 hW, wr_35_2 hW, wr_35_3 hW, wr_35_4 hW, wr_40_0 hW, wr_40_1 hW, wr_40_2 hW, wr_40_3 hW, wr_40_4 hW, wr_41_0 hW, wr_56_0 hW, wr_56_1 hW, wr_97_0 hW, wr_97_1 hW, wr_100_0 hW, wr_100_1 hW, wr_100_2 hW, wr_104_0 hW, wr_106_0 hW, h4, h5, h10, m_X10_count, n8, w3, w4, sw_nI, sw_nI8, joT hW hT, hS]
          clear h4 h5 hk
          rcases le10 h3 with rfl | rfl | rfl | rfl | rfl | rfl | rfl | rfl | rfl | rfl | rfl
          · simp (disch := omega) only [jb_some, jli, jif, jd_q, jd_K0, jpi_s, jpi_l, jpi_p, jpl_s, jpl_i, jpl_p, if_true, if_false, if_pos, if_neg, not_true_eq_false, not_false_eq_true, ite_true, ite_false, Nat.not_lt_zero, eq_self, Nat.le_refl, Nat.lt_irrefl, Bool.false_eq_true, or0, jo_pi, jo_pl, jia_pi, jia_pl, jo_cpy, jia_cpy, cpy_r, m_X11_grant, m_X11_refuse, m_X13_good, m_X13_refused, reduceCtorEq, nI_add, nI_leI, nI_ltI, nI_eq, pk_mul, abs_nI, max_nI, min_nI, nI_m1, nI_m2, nI_le1, m1_lt, m2_lt, and_nI, or_nI, an_nI, has_nI, bit_nI, bc_nI, bits_nI, lx0, lx1, lx2, lx3, lx4, lx5, lx6, lx7, lx8, lx9, lx10, lx11, lx16, lx20, lx40, lx60, lx90, lx99, lx100, lx200, lx900, lx999, lx9999, List.getD, List.getElem?_cons_zero, List.getElem?_cons_succ, List.getElem?_nil, Option.getD, szN, Nat.reduceEqDiff, Nat.reduceLT, Nat.reduceSub, ct_s0 hC]
          · simp (disch := omega) only [jb_some, jli, jif, jd_q, jd_K0, jpi_s, jpi_l, jpi_p, jpl_s, jpl_i, jpl_p, if_true, if_false, if_pos, if_neg, not_true_eq_false, not_false_eq_true, ite_true, ite_false, Nat.not_lt_zero, eq_self, Nat.le_refl, Nat.lt_irrefl, Bool.false_eq_true, or0, jo_pi, jo_pl, jia_pi, jia_pl, jo_cpy, jia_cpy, cpy_r, m_X11_grant, m_X11_refuse, m_X13_good, m_X13_refused, reduceCtorEq, nI_add, nI_leI, nI_ltI, nI_eq, pk_mul, abs_nI, max_nI, min_nI, nI_m1, nI_m2, nI_le1, m1_lt, m2_lt, and_nI, or_nI, an_nI, has_nI, bit_nI, bc_nI, bits_nI, lx0, lx1, lx2, lx3, lx4, lx5, lx6, lx7, lx8, lx9, lx10, lx11, lx16, lx20, lx40, lx60, lx90, lx99, lx100, lx200, lx900, lx999, lx9999, List.getD, List.getElem?_cons_zero, List.getElem?_cons_succ, List.getElem?_nil, Option.getD, szN, Nat.reduceEqDiff, Nat.reduceLT, Nat.reduceSub, ct_s1 hC]
          · simp (disch := omega) only [jb_some, jli, jif, jd_q, jd_K0, jpi_s, jpi_l, jpi_p, jpl_s, jpl_i, jpl_p, if_true, if_false, if_pos, if_neg, not_true_eq_false, not_false_eq_true, ite_true, ite_false, Nat.not_lt_zero, eq_self, Nat.le_refl, Nat.lt_irrefl, Bool.false_eq_true, or0, jo_pi, jo_pl, jia_pi, jia_pl, jo_cpy, jia_cpy, cpy_r, m_X11_grant, m_X11_refuse, m_X13_good, m_X13_refused, reduceCtorEq, nI_add, nI_leI, nI_ltI, nI_eq, pk_mul, abs_nI, max_nI, min_nI, nI_m1, nI_m2, nI_le1, m1_lt, m2_lt, and_nI, or_nI, an_nI, has_nI, bit_nI, bc_nI, bits_nI, lx0, lx1, lx2, lx3, lx4, lx5, lx6, lx7, lx8, lx9, lx10, lx11, lx16, lx20, lx40, lx60, lx90, lx99, lx100, lx200, lx900, lx999, lx9999, List.getD, List.getElem?_cons_zero, List.getElem?_cons_succ, List.getElem?_nil, Option.getD, szN, Nat.reduceEqDiff, Nat.reduceLT, Nat.reduceSub, ct_s2 hC]
          · simp (disch := omega) only [jb_some, jli, jif, jd_q, jd_K0, jpi_s, jpi_l, jpi_p, jpl_s, jpl_i, jpl_p, if_true, if_false, if_pos, if_neg, not_true_eq_false, not_false_eq_true, ite_true, ite_false, Nat.not_lt_zero, eq_self, Nat.le_refl, Nat.lt_irrefl, Bool.false_eq_true, or0, jo_pi, jo_pl, jia_pi, jia_pl, jo_cpy, jia_cpy, cpy_r, m_X11_grant, m_X11_refuse, m_X13_good, m_X13_refused, reduceCtorEq, nI_add, nI_leI, nI_ltI, nI_eq, pk_mul, abs_nI, max_nI, min_nI, nI_m1, nI_m2, nI_le1, m1_lt, m2_lt, and_nI, or_nI, an_nI, has_nI, bit_nI, bc_nI, bits_nI, lx0, lx1, lx2, lx3, lx4, lx5, lx6, lx7, lx8, lx9, lx10, lx11, lx16, lx20, lx40, lx60, lx90, lx99, lx100, lx200, lx900, lx999, lx9999, List.getD, List.getElem?_cons_zero, List.getElem?_cons_succ, List.getElem?_nil, Option.getD, szN, Nat.reduceEqDiff, Nat.reduceLT, Nat.reduceSub, ct_s3 hC]
          · simp (disch := omega) only [jb_some, jli, jif, jd_q, jd_K0, jpi_s, jpi_l, jpi_p, jpl_s, jpl_i, jpl_p, if_true, if_false, if_pos, if_neg, not_true_eq_false, not_false_eq_true, ite_true, ite_false, Nat.not_lt_zero, eq_self, Nat.le_refl, Nat.lt_irrefl, Bool.false_eq_true, or0, jo_pi, jo_pl, jia_pi, jia_pl, jo_cpy, jia_cpy, cpy_r, m_X11_grant, m_X11_refuse, m_X13_good, m_X13_refused, reduceCtorEq, nI_add, nI_leI, nI_ltI, nI_eq, pk_mul, abs_nI, max_nI, min_nI, nI_m1, nI_m2, nI_le1, m1_lt, m2_lt, and_nI, or_nI, an_nI, has_nI, bit_nI, bc_nI, bits_nI, lx0, lx1, lx2, lx3, lx4, lx5, lx6, lx7, lx8, lx9, lx10, lx11, lx16, lx20, lx40, lx60, lx90, lx99, lx100, lx200, lx900, lx999, lx9999, List.getD, List.getElem?_cons_zero, List.getElem?_cons_succ, List.getElem?_nil, Option.getD, szN, Nat.reduceEqDiff, Nat.reduceLT, Nat.reduceSub, ct_s4 hC]
          · simp (disch := omega) only [jb_some, jli, jif, jd_q, jd_K0, jpi_s, jpi_l, jpi_p, jpl_s, jpl_i, jpl_p, if_true, if_false, if_pos, if_neg, not_true_eq_false, not_false_eq_true, ite_true, ite_false, Nat.not_lt_zero, eq_self, Nat.le_refl, Nat.lt_irrefl, Bool.false_eq_true, or0, jo_pi, jo_pl, jia_pi, jia_pl, jo_cpy, jia_cpy, cpy_r, m_X11_grant, m_X11_refuse, m_X13_good, m_X13_refused, reduceCtorEq, nI_add, nI_leI, nI_ltI, nI_eq, pk_mul, abs_nI, max_nI, min_nI, nI_m1, nI_m2, nI_le1, m1_lt, m2_lt, and_nI, or_nI, an_nI, has_nI, bit_nI, bc_nI, bits_nI, lx0, lx1, lx2, lx3, lx4, lx5, lx6, lx7, lx8, lx9, lx10, lx11, lx16, lx20, lx40, lx60, lx90, lx99, lx100, lx200, lx900, lx999, lx9999, List.getD, List.getElem?_cons_zero, List.getElem?_cons_succ, List.getElem?_nil, Option.getD, szN, Nat.reduceEqDiff, Nat.reduceLT, Nat.reduceSub, ct_s5 hC]
          · simp (disch := omega) only [jb_some, jli, jif, jd_q, jd_K0, jpi_s, jpi_l, jpi_p, jpl_s, jpl_i, jpl_p, if_true, if_false, if_pos, if_neg, not_true_eq_false, not_false_eq_true, ite_true, ite_false, Nat.not_lt_zero, eq_self, Nat.le_refl, Nat.lt_irrefl, Bool.false_eq_true, or0, jo_pi, jo_pl, jia_pi, jia_pl, jo_cpy, jia_cpy, cpy_r, m_X11_grant, m_X11_refuse, m_X13_good, m_X13_refused, reduceCtorEq, nI_add, nI_leI, nI_ltI, nI_eq, pk_mul, abs_nI, max_nI, min_nI, nI_m1, nI_m2, nI_le1, m1_lt, m2_lt, and_nI, or_nI, an_nI, has_nI, bit_nI, bc_nI, bits_nI, lx0, lx1, lx2, lx3, lx4, lx5, lx6, lx7, lx8, lx9, lx10, lx11, lx16, lx20, lx40, lx60, lx90, lx99, lx100, lx200, lx900, lx999, lx9999, List.getD, List.getElem?_cons_zero, List.getElem?_cons_succ, List.getElem?_nil, Option.getD, szN, Nat.reduceEqDiff, Nat.reduceLT, Nat.reduceSub, ct_s6 hC]
          · simp (disch := omega) only [jb_some, jli, jif, jd_q, jd_K0, jpi_s, jpi_l, jpi_p, jpl_s, jpl_i, jpl_p, if_true, if_false, if_pos, if_neg, not_true_eq_false, not_false_eq_true, ite_true, ite_false, Nat.not_lt_zero, eq_self, Nat.le_refl, Nat.lt_irrefl, Bool.false_eq_true, or0, jo_pi, jo_pl, jia_pi, jia_pl, jo_cpy, jia_cpy, cpy_r, m_X11_grant, m_X11_refuse, m_X13_good, m_X13_refused, reduceCtorEq, nI_add, nI_leI, nI_ltI, nI_eq, pk_mul, abs_nI, max_nI, min_nI, nI_m1, nI_m2, nI_le1, m1_lt, m2_lt, and_nI, or_nI, an_nI, has_nI, bit_nI, bc_nI, bits_nI, lx0, lx1, lx2, lx3, lx4, lx5, lx6, lx7, lx8, lx9, lx10, lx11, lx16, lx20, lx40, lx60, lx90, lx99, lx100, lx200, lx900, lx999, lx9999, List.getD, List.getElem?_cons_zero, List.getElem?_cons_succ, List.getElem?_nil, Option.getD, szN, Nat.reduceEqDiff, Nat.reduceLT, Nat.reduceSub, ct_s7 hC]
          · simp (disch := omega) only [jb_some, jli, jif, jd_q, jd_K0, jpi_s, jpi_l, jpi_p, jpl_s, jpl_i, jpl_p, if_true, if_false, if_pos, if_neg, not_true_eq_false, not_false_eq_true, ite_true, ite_false, Nat.not_lt_zero, eq_self, Nat.le_refl, Nat.lt_irrefl, Bool.false_eq_true, or0, jo_pi, jo_pl, jia_pi, jia_pl, jo_cpy, jia_cpy, cpy_r, m_X11_grant, m_X11_refuse, m_X13_good, m_X13_refused, reduceCtorEq, nI_add, nI_leI, nI_ltI, nI_eq, pk_mul, abs_nI, max_nI, min_nI, nI_m1, nI_m2, nI_le1, m1_lt, m2_lt, and_nI, or_nI, an_nI, has_nI, bit_nI, bc_nI, bits_nI, lx0, lx1, lx2, lx3, lx4, lx5, lx6, lx7, lx8, lx9, lx10, lx11, lx16, lx20, lx40, lx60, lx90, lx99, lx100, lx200, lx900, lx999, lx9999, List.getD, List.getElem?_cons_zero, List.getElem?_cons_succ, List.getElem?_nil, Option.getD, szN, Nat.reduceEqDiff, Nat.reduceLT, Nat.reduceSub, n8, w3, w4, jo_41 hW]
          · simp (disch := omega) only [jb_some, jli, jif, jd_q, jd_K0, jpi_s, jpi_l, jpi_p, jpl_s, jpl_i, jpl_p, if_true, if_false, if_pos, if_neg, not_true_eq_false, not_false_eq_true, ite_true, ite_false, Nat.not_lt_zero, eq_self, Nat.le_refl, Nat.lt_irrefl, Bool.false_eq_true, or0, jo_pi, jo_pl, jia_pi, jia_pl, jo_cpy, jia_cpy, cpy_r, m_X11_grant, m_X11_refuse, m_X13_good, m_X13_refused, reduceCtorEq, nI_add, nI_leI, nI_ltI, nI_eq, pk_mul, abs_nI, max_nI, min_nI, nI_m1, nI_m2, nI_le1, m1_lt, m2_lt, and_nI, or_nI, an_nI, has_nI, bit_nI, bc_nI, bits_nI, lx0, lx1, lx2, lx3, lx4, lx5, lx6, lx7, lx8, lx9, lx10, lx11, lx16, lx20, lx40, lx60, lx90, lx99, lx100, lx200, lx900, lx999, lx9999, List.getD, List.getElem?_cons_zero, List.getElem?_cons_succ, List.getElem?_nil, Option.getD, szN, Nat.reduceEqDiff, Nat.reduceLT, Nat.reduceSub, n8, w3, w4, jo_41 hW]
          · simp (disch := omega) only [jb_some, jli, jif, jd_q, jd_K0, jpi_s, jpi_l, jpi_p, jpl_s, jpl_i, jpl_p, if_true, if_false, if_pos, if_neg, not_true_eq_false, not_false_eq_true, ite_true, ite_false, Nat.not_lt_zero, eq_self, Nat.le_refl, Nat.lt_irrefl, Bool.false_eq_true, or0, jo_pi, jo_pl, jia_pi, jia_pl, jo_cpy, jia_cpy, cpy_r, m_X11_grant, m_X11_refuse, m_X13_good, m_X13_refused, reduceCtorEq, nI_add, nI_leI, nI_ltI, nI_eq, pk_mul, abs_nI, max_nI, min_nI, nI_m1, nI_m2, nI_le1, m1_lt, m2_lt, and_nI, or_nI, an_nI, has_nI, bit_nI, bc_nI, bits_nI, lx0, lx1, lx2, lx3, lx4, lx5, lx6, lx7, lx8, lx9, lx10, lx11, lx16, lx20, lx40, lx60, lx90, lx99, lx100, lx200, lx900, lx999, lx9999, List.getD, List.getElem?_cons_zero, List.getElem?_cons_succ, List.getElem?_nil, Option.getD, szN, Nat.reduceEqDiff, Nat.reduceLT, Nat.reduceSub, n8, w3, w4, jo_41 hW]
  exact ⟨σ, key, h0, GX_refl σ⟩
set_option maxHeartbeats 2000000 in
theorem ZM_size (h : MR z σ) (w : Int32) : ZS (m_X13_size 118 w σ) (z_size z w) σ := by
  unfold m_X13_size
  rw [jli]
  refine ZS_0 ?_
  have h0 := MR_0 h
  clear h
  generalize jd_pi σ 118 0 0 = τ at *
  have hW := MR_W h0
  have h := h0
  obtain ⟨o, ⟨na, H⟩, ⟨ni, I⟩, ⟨tl, tp⟩, fl, wh, tr⟩ := z
  obtain ⟨b, hR, hP, hTM, f1, f2, f3⟩ := h
  refine ⟨τ, ?_, h0, GM_refl τ⟩
  have e1 := hTM.1
  have p1 := hP.1
  have p2 := hP.2.1
  have eI := fun (σ : jd_Hp) => y_in (σ := σ) w 0 10 (by decide) (by decide)
  unfold z_size
  by_cases h11 : w = nI 11
  · subst h11
    simp (disch := omega) only [jb_some, jli, jif, jd_q, jd_K0, jpi_s, jpi_l, jpi_p, jpl_s, jpl_i, jpl_p, if_true, if_false, if_pos, if_neg, not_true_eq_false, not_false_eq_true, ite_true, ite_false, Nat.not_lt_zero, eq_self, Nat.le_refl, Nat.lt_irrefl, Bool.false_eq_true, or0, jo_pi, jo_pl, jia_pi, jia_pl, jo_cpy, jia_cpy, cpy_r, m_X11_grant, m_X11_refuse, m_X13_good, m_X13_refused, reduceCtorEq, nI_add, nI_leI, nI_ltI, nI_eq, pk_mul, abs_nI, max_nI, min_nI, nI_m1, nI_m2, nI_le1, m1_lt, m2_lt, and_nI, or_nI, an_nI, has_nI, bit_nI, bc_nI, bits_nI, lx0, lx1, lx2, lx3, lx4, lx5, lx6, lx7, lx8, lx9, lx10, lx11, lx16, lx20, lx40, lx60, lx90, lx99, lx100, lx200, lx900, lx999, lx9999, jo_118 hW, ja_119 hW, ja_120 hW, ja_121 hW, ja_122 hW, ja_123 hW, ja_124 hW, ja_125 hW, ja_126 hW, ja_127 hW, ja_128 hW, ja_129 hW, wr_118_5 hW, wr_118_15 hW, wr_118_16 hW, wr_118_17 hW, wr_118_18 hW, wr_118_21 hW, wr_118_22 hW, wr_118_23 hW, wr_118_25 hW, wr_118_26 hW, wr_118_27 hW, e1]
  · rcases hk : rgN w 0 10 with _ | k
    · simp (disch := omega) only [jb_some, jli, jif, jd_q, jd_K0, jpi_s, jpi_l, jpi_p, jpl_s, jpl_i, jpl_p, if_true, if_false, if_pos, if_neg, not_true_eq_false, not_false_eq_true, ite_true, ite_false, Nat.not_lt_zero, eq_self, Nat.le_refl, Nat.lt_irrefl, Bool.false_eq_true, or0, jo_pi, jo_pl, jia_pi, jia_pl, jo_cpy, jia_cpy, cpy_r, m_X11_grant, m_X11_refuse, m_X13_good, m_X13_refused, reduceCtorEq, nI_add, nI_leI, nI_ltI, nI_eq, pk_mul, abs_nI, max_nI, min_nI, nI_m1, nI_m2, nI_le1, m1_lt, m2_lt, and_nI, or_nI, an_nI, has_nI, bit_nI, bc_nI, bits_nI, lx0, lx1, lx2, lx3, lx4, lx5, lx6, lx7, lx8, lx9, lx10, lx11, lx16, lx20, lx40, lx60, lx90, lx99, lx100, lx200, lx900, lx999, lx9999, jo_118 hW, ja_119 hW, ja_120 hW, ja_121 hW, ja_122 hW, ja_123 hW, ja_124 hW, ja_125 hW, ja_126 hW, ja_127 hW, ja_128 hW, ja_129 hW, wr_118_5 hW, wr_118_15 hW, wr_118_16 hW, wr_118_17 hW, wr_118_18 hW, wr_118_21 hW, wr_118_22 hW, wr_118_23 hW, wr_118_25 hW, wr_118_26 hW, wr_118_27 hW, h11, eI, hk, Option.isSome]
    · obtain ⟨rfl, -, h3⟩ := rgN_some (by decide) hk (by decide)
      have h4 : ¬ k = 11 := by omega
      rcases o with _ | ⟨B, N⟩
      · have hS : τ.2.2.2 118 3 = none := hR.2
        simp (disch := omega) only [jb_some, jli, jif, jd_q, jd_K0, jpi_s, jpi_l, jpi_p, jpl_s, jpl_i, jpl_p, if_true, if_false, if_pos, if_neg, not_true_eq_false, not_false_eq_true, ite_true, ite_false, Nat.not_lt_zero, eq_self, Nat.le_refl, Nat.lt_irrefl, Bool.false_eq_true, or0, jo_pi, jo_pl, jia_pi, jia_pl, jo_cpy, jia_cpy, cpy_r, m_X11_grant, m_X11_refuse, m_X13_good, m_X13_refused, reduceCtorEq, nI_add, nI_leI, nI_ltI, nI_eq, pk_mul, abs_nI, max_nI, min_nI, nI_m1, nI_m2, nI_le1, m1_lt, m2_lt, and_nI, or_nI, an_nI, has_nI, bit_nI, bc_nI, bits_nI, lx0, lx1, lx2, lx3, lx4, lx5, lx6, lx7, lx8, lx9, lx10, lx11, lx16, lx20, lx40, lx60, lx90, lx99, lx100, lx200, lx900, lx999, lx9999, jo_118 hW, ja_119 hW, ja_120 hW, ja_121 hW, ja_122 hW, ja_123 hW, ja_124 hW, ja_125 hW, ja_126 hW, ja_127 hW, ja_128 hW, ja_129 hW, wr_118_5 hW, wr_118_15 hW, wr_118_16 hW, wr_118_17 hW, wr_118_18 hW, wr_118_21 hW, wr_118_22 hW, wr_118_23 hW, wr_118_25 hW, wr_118_26 hW, wr_118_27 hW, h4, eI, hk, Option.isSome, hS, reduceCtorEq]
      · obtain ⟨-, hS, hC, hV, hb, hn⟩ : Wd τ ∧ τ.2.2.2 118 3 = some b ∧ MT B b τ ∧ MV B N τ ∧ bOk B ∧ nOk B N := hR
        have c5 : B 8 5 < 64 := Nat.lt_of_lt_of_le hb.2.2.2.2.2.2.2.1 (pow6 (by have := hb.2.2.1; omega))
        have n8 := mv_8 hV
        simp (disch := omega) only [jb_some, jli, jif, jd_q, jd_K0, jpi_s, jpi_l, jpi_p, jpl_s, jpl_i, jpl_p, if_true, if_false, if_pos, if_neg, not_true_eq_false, not_false_eq_true, ite_true, ite_false, Nat.not_lt_zero, eq_self, Nat.le_refl, Nat.lt_irrefl, Bool.false_eq_true, or0, jo_pi, jo_pl, jia_pi, jia_pl, jo_cpy, jia_cpy, cpy_r, m_X11_grant, m_X11_refuse, m_X13_good, m_X13_refused, reduceCtorEq, nI_add, nI_leI, nI_ltI, nI_eq, pk_mul, abs_nI, max_nI, min_nI, nI_m1, nI_m2, nI_le1, m1_lt, m2_lt, and_nI, or_nI, an_nI, has_nI, bit_nI, bc_nI, bits_nI, lx0, lx1, lx2, lx3, lx4, lx5, lx6, lx7, lx8, lx9, lx10, lx11, lx16, lx20, lx40, lx60, lx90, lx99, lx100, lx200, lx900, lx999, lx9999, jo_118 hW, ja_119 hW, ja_120 hW, ja_121 hW, ja_122 hW, ja_123 hW, ja_124 hW, ja_125 hW, ja_126 hW, ja_127 hW, ja_128 hW, ja_129 hW, wr_118_5 hW, wr_118_15 hW, wr_118_16 hW, wr_118_17 hW, wr_118_18 hW, wr_118_21 hW, wr_118_22 hW, wr_118_23 hW, wr_118_25 hW, wr_118_26 hW, wr_118_27 hW, h4, eI, hk, Option.isSome, hS, reduceCtorEq, sw_nI, p1, p2, n8, mb_o hC]
        clear h4 hk
        rcases le10 h3 with rfl | rfl | rfl | rfl | rfl | rfl | rfl | rfl | rfl | rfl | rfl
        · simp (disch := omega) only [jb_some, jli, jif, jd_q, jd_K0, jpi_s, jpi_l, jpi_p, jpl_s, jpl_i, jpl_p, if_true, if_false, if_pos, if_neg, not_true_eq_false, not_false_eq_true, ite_true, ite_false, Nat.not_lt_zero, eq_self, Nat.le_refl, Nat.lt_irrefl, Bool.false_eq_true, or0, jo_pi, jo_pl, jia_pi, jia_pl, jo_cpy, jia_cpy, cpy_r, m_X11_grant, m_X11_refuse, m_X13_good, m_X13_refused, reduceCtorEq, nI_add, nI_leI, nI_ltI, nI_eq, pk_mul, abs_nI, max_nI, min_nI, nI_m1, nI_m2, nI_le1, m1_lt, m2_lt, and_nI, or_nI, an_nI, has_nI, bit_nI, bc_nI, bits_nI, lx0, lx1, lx2, lx3, lx4, lx5, lx6, lx7, lx8, lx9, lx10, lx11, lx16, lx20, lx40, lx60, lx90, lx99, lx100, lx200, lx900, lx999, lx9999, List.getD, List.getElem?_cons_zero, List.getElem?_cons_succ, List.getElem?_nil, Option.getD, szN, Nat.reduceEqDiff, Nat.reduceLT, Nat.reduceSub, mb_s0 hC]
        · simp (disch := omega) only [jb_some, jli, jif, jd_q, jd_K0, jpi_s, jpi_l, jpi_p, jpl_s, jpl_i, jpl_p, if_true, if_false, if_pos, if_neg, not_true_eq_false, not_false_eq_true, ite_true, ite_false, Nat.not_lt_zero, eq_self, Nat.le_refl, Nat.lt_irrefl, Bool.false_eq_true, or0, jo_pi, jo_pl, jia_pi, jia_pl, jo_cpy, jia_cpy, cpy_r, m_X11_grant, m_X11_refuse, m_X13_good, m_X13_refused, reduceCtorEq, nI_add, nI_leI, nI_ltI, nI_eq, pk_mul, abs_nI, max_nI, min_nI, nI_m1, nI_m2, nI_le1, m1_lt, m2_lt, and_nI, or_nI, an_nI, has_nI, bit_nI, bc_nI, bits_nI, lx0, lx1, lx2, lx3, lx4, lx5, lx6, lx7, lx8, lx9, lx10, lx11, lx16, lx20, lx40, lx60, lx90, lx99, lx100, lx200, lx900, lx999, lx9999, List.getD, List.getElem?_cons_zero, List.getElem?_cons_succ, List.getElem?_nil, Option.getD, szN, Nat.reduceEqDiff, Nat.reduceLT, Nat.reduceSub, mb_s1 hC]
        · simp (disch := omega) only [jb_some, jli, jif, jd_q, jd_K0, jpi_s, jpi_l, jpi_p, jpl_s, jpl_i, jpl_p, if_true, if_false, if_pos, if_neg, not_true_eq_false, not_false_eq_true, ite_true, ite_false, Nat.not_lt_zero, eq_self, Nat.le_refl, Nat.lt_irrefl, Bool.false_eq_true, or0, jo_pi, jo_pl, jia_pi, jia_pl, jo_cpy, jia_cpy, cpy_r, m_X11_grant, m_X11_refuse, m_X13_good, m_X13_refused, reduceCtorEq, nI_add, nI_leI, nI_ltI, nI_eq, pk_mul, abs_nI, max_nI, min_nI, nI_m1, nI_m2, nI_le1, m1_lt, m2_lt, and_nI, or_nI, an_nI, has_nI, bit_nI, bc_nI, bits_nI, lx0, lx1, lx2, lx3, lx4, lx5, lx6, lx7, lx8, lx9, lx10, lx11, lx16, lx20, lx40, lx60, lx90, lx99, lx100, lx200, lx900, lx999, lx9999, List.getD, List.getElem?_cons_zero, List.getElem?_cons_succ, List.getElem?_nil, Option.getD, szN, Nat.reduceEqDiff, Nat.reduceLT, Nat.reduceSub, mb_s2 hC]
        · simp (disch := omega) only [jb_some, jli, jif, jd_q, jd_K0, jpi_s, jpi_l, jpi_p, jpl_s, jpl_i, jpl_p, if_true, if_false, if_pos, if_neg, not_true_eq_false, not_false_eq_true, ite_true, ite_false, Nat.not_lt_zero, eq_self, Nat.le_refl, Nat.lt_irrefl, Bool.false_eq_true, or0, jo_pi, jo_pl, jia_pi, jia_pl, jo_cpy, jia_cpy, cpy_r, m_X11_grant, m_X11_refuse, m_X13_good, m_X13_refused, reduceCtorEq, nI_add, nI_leI, nI_ltI, nI_eq, pk_mul, abs_nI, max_nI, min_nI, nI_m1, nI_m2, nI_le1, m1_lt, m2_lt, and_nI, or_nI, an_nI, has_nI, bit_nI, bc_nI, bits_nI, lx0, lx1, lx2, lx3, lx4, lx5, lx6, lx7, lx8, lx9, lx10, lx11, lx16, lx20, lx40, lx60, lx90, lx99, lx100, lx200, lx900, lx999, lx9999, List.getD, List.getElem?_cons_zero, List.getElem?_cons_succ, List.getElem?_nil, Option.getD, szN, Nat.reduceEqDiff, Nat.reduceLT, Nat.reduceSub, mb_s3 hC]
        · simp (disch := omega) only [jb_some, jli, jif, jd_q, jd_K0, jpi_s, jpi_l, jpi_p, jpl_s, jpl_i, jpl_p, if_true, if_false, if_pos, if_neg, not_true_eq_false, not_false_eq_true, ite_true, ite_false, Nat.not_lt_zero, eq_self, Nat.le_refl, Nat.lt_irrefl, Bool.false_eq_true, or0, jo_pi, jo_pl, jia_pi, jia_pl, jo_cpy, jia_cpy, cpy_r, m_X11_grant, m_X11_refuse, m_X13_good, m_X13_refused, reduceCtorEq, nI_add, nI_leI, nI_ltI, nI_eq, pk_mul, abs_nI, max_nI, min_nI, nI_m1, nI_m2, nI_le1, m1_lt, m2_lt, and_nI, or_nI, an_nI, has_nI, bit_nI, bc_nI, bits_nI, lx0, lx1, lx2, lx3, lx4, lx5, lx6, lx7, lx8, lx9, lx10, lx11, lx16, lx20, lx40, lx60, lx90, lx99, lx100, lx200, lx900, lx999, lx9999, List.getD, List.getElem?_cons_zero, List.getElem?_cons_succ, List.getElem?_nil, Option.getD, szN, Nat.reduceEqDiff, Nat.reduceLT, Nat.reduceSub, mb_s4 hC]
        · simp (disch := omega) only [jb_some, jli, jif, jd_q, jd_K0, jpi_s, jpi_l, jpi_p, jpl_s, jpl_i, jpl_p, if_true, if_false, if_pos, if_neg, not_true_eq_false, not_false_eq_true, ite_true, ite_false, Nat.not_lt_zero, eq_self, Nat.le_refl, Nat.lt_irrefl, Bool.false_eq_true, or0, jo_pi, jo_pl, jia_pi, jia_pl, jo_cpy, jia_cpy, cpy_r, m_X11_grant, m_X11_refuse, m_X13_good, m_X13_refused, reduceCtorEq, nI_add, nI_leI, nI_ltI, nI_eq, pk_mul, abs_nI, max_nI, min_nI, nI_m1, nI_m2, nI_le1, m1_lt, m2_lt, and_nI, or_nI, an_nI, has_nI, bit_nI, bc_nI, bits_nI, lx0, lx1, lx2, lx3, lx4, lx5, lx6, lx7, lx8, lx9, lx10, lx11, lx16, lx20, lx40, lx60, lx90, lx99, lx100, lx200, lx900, lx999, lx9999, List.getD, List.getElem?_cons_zero, List.getElem?_cons_succ, List.getElem?_nil, Option.getD, szN, Nat.reduceEqDiff, Nat.reduceLT, Nat.reduceSub, mb_s5 hC]
        · simp (disch := omega) only [jb_some, jli, jif, jd_q, jd_K0, jpi_s, jpi_l, jpi_p, jpl_s, jpl_i, jpl_p, if_true, if_false, if_pos, if_neg, not_true_eq_false, not_false_eq_true, ite_true, ite_false, Nat.not_lt_zero, eq_self, Nat.le_refl, Nat.lt_irrefl, Bool.false_eq_true, or0, jo_pi, jo_pl, jia_pi, jia_pl, jo_cpy, jia_cpy, cpy_r, m_X11_grant, m_X11_refuse, m_X13_good, m_X13_refused, reduceCtorEq, nI_add, nI_leI, nI_ltI, nI_eq, pk_mul, abs_nI, max_nI, min_nI, nI_m1, nI_m2, nI_le1, m1_lt, m2_lt, and_nI, or_nI, an_nI, has_nI, bit_nI, bc_nI, bits_nI, lx0, lx1, lx2, lx3, lx4, lx5, lx6, lx7, lx8, lx9, lx10, lx11, lx16, lx20, lx40, lx60, lx90, lx99, lx100, lx200, lx900, lx999, lx9999, List.getD, List.getElem?_cons_zero, List.getElem?_cons_succ, List.getElem?_nil, Option.getD, szN, Nat.reduceEqDiff, Nat.reduceLT, Nat.reduceSub, mb_s6 hC]
        · simp (disch := omega) only [jb_some, jli, jif, jd_q, jd_K0, jpi_s, jpi_l, jpi_p, jpl_s, jpl_i, jpl_p, if_true, if_false, if_pos, if_neg, not_true_eq_false, not_false_eq_true, ite_true, ite_false, Nat.not_lt_zero, eq_self, Nat.le_refl, Nat.lt_irrefl, Bool.false_eq_true, or0, jo_pi, jo_pl, jia_pi, jia_pl, jo_cpy, jia_cpy, cpy_r, m_X11_grant, m_X11_refuse, m_X13_good, m_X13_refused, reduceCtorEq, nI_add, nI_leI, nI_ltI, nI_eq, pk_mul, abs_nI, max_nI, min_nI, nI_m1, nI_m2, nI_le1, m1_lt, m2_lt, and_nI, or_nI, an_nI, has_nI, bit_nI, bc_nI, bits_nI, lx0, lx1, lx2, lx3, lx4, lx5, lx6, lx7, lx8, lx9, lx10, lx11, lx16, lx20, lx40, lx60, lx90, lx99, lx100, lx200, lx900, lx999, lx9999, List.getD, List.getElem?_cons_zero, List.getElem?_cons_succ, List.getElem?_nil, Option.getD, szN, Nat.reduceEqDiff, Nat.reduceLT, Nat.reduceSub, mb_s7 hC]
        · simp (disch := omega) only [jb_some, jli, jif, jd_q, jd_K0, jpi_s, jpi_l, jpi_p, jpl_s, jpl_i, jpl_p, if_true, if_false, if_pos, if_neg, not_true_eq_false, not_false_eq_true, ite_true, ite_false, Nat.not_lt_zero, eq_self, Nat.le_refl, Nat.lt_irrefl, Bool.false_eq_true, or0, jo_pi, jo_pl, jia_pi, jia_pl, jo_cpy, jia_cpy, cpy_r, m_X11_grant, m_X11_refuse, m_X13_good, m_X13_refused, reduceCtorEq, nI_add, nI_leI, nI_ltI, nI_eq, pk_mul, abs_nI, max_nI, min_nI, nI_m1, nI_m2, nI_le1, m1_lt, m2_lt, and_nI, or_nI, an_nI, has_nI, bit_nI, bc_nI, bits_nI, lx0, lx1, lx2, lx3, lx4, lx5, lx6, lx7, lx8, lx9, lx10, lx11, lx16, lx20, lx40, lx60, lx90, lx99, lx100, lx200, lx900, lx999, lx9999, List.getD, List.getElem?_cons_zero, List.getElem?_cons_succ, List.getElem?_nil, Option.getD, szN, Nat.reduceEqDiff, Nat.reduceLT, Nat.reduceSub, n8]
        · simp (disch := omega) only [jb_some, jli, jif, jd_q, jd_K0, jpi_s, jpi_l, jpi_p, jpl_s, jpl_i, jpl_p, if_true, if_false, if_pos, if_neg, not_true_eq_false, not_false_eq_true, ite_true, ite_false, Nat.not_lt_zero, eq_self, Nat.le_refl, Nat.lt_irrefl, Bool.false_eq_true, or0, jo_pi, jo_pl, jia_pi, jia_pl, jo_cpy, jia_cpy, cpy_r, m_X11_grant, m_X11_refuse, m_X13_good, m_X13_refused, reduceCtorEq, nI_add, nI_leI, nI_ltI, nI_eq, pk_mul, abs_nI, max_nI, min_nI, nI_m1, nI_m2, nI_le1, m1_lt, m2_lt, and_nI, or_nI, an_nI, has_nI, bit_nI, bc_nI, bits_nI, lx0, lx1, lx2, lx3, lx4, lx5, lx6, lx7, lx8, lx9, lx10, lx11, lx16, lx20, lx40, lx60, lx90, lx99, lx100, lx200, lx900, lx999, lx9999, List.getD, List.getElem?_cons_zero, List.getElem?_cons_succ, List.getElem?_nil, Option.getD, szN, Nat.reduceEqDiff, Nat.reduceLT, Nat.reduceSub]
        · simp (disch := omega) only [jb_some, jli, jif, jd_q, jd_K0, jpi_s, jpi_l, jpi_p, jpl_s, jpl_i, jpl_p, if_true, if_false, if_pos, if_neg, not_true_eq_false, not_false_eq_true, ite_true, ite_false, Nat.not_lt_zero, eq_self, Nat.le_refl, Nat.lt_irrefl, Bool.false_eq_true, or0, jo_pi, jo_pl, jia_pi, jia_pl, jo_cpy, jia_cpy, cpy_r, m_X11_grant, m_X11_refuse, m_X13_good, m_X13_refused, reduceCtorEq, nI_add, nI_leI, nI_ltI, nI_eq, pk_mul, abs_nI, max_nI, min_nI, nI_m1, nI_m2, nI_le1, m1_lt, m2_lt, and_nI, or_nI, an_nI, has_nI, bit_nI, bc_nI, bits_nI, lx0, lx1, lx2, lx3, lx4, lx5, lx6, lx7, lx8, lx9, lx10, lx11, lx16, lx20, lx40, lx60, lx90, lx99, lx100, lx200, lx900, lx999, lx9999, List.getD, List.getElem?_cons_zero, List.getElem?_cons_succ, List.getElem?_nil, Option.getD, szN, Nat.reduceEqDiff, Nat.reduceLT, Nat.reduceSub]
/-! led -/
def ledC (u : Nat) (x : Int32) (p : Nat) : Bool := u.testBit p && decide (x = nI (cnt u.testBit p))
def ledO (z : Zt) (x : Int32) : Option Nat := match z.1 with
  | none => none
  | some (B, N) => (List.range 6).find? (ledC (unr B N) x)
theorem find_ext {c : Nat → Bool} {n : Nat} : ∀ {m : Nat}, n ≤ m → (∀ p, n ≤ p → p < m → c p = false) → (List.range m).find? c = (List.range n).find? c
  | 0, h, _ => by
    have : n = 0 := by omega
    rw [this]
  | m + 1, h, e => by
    by_cases hn : n = m + 1
    · rw [hn]
    · rw [List.range_succ, List.find?_append, find_ext (m := m) (by omega) (fun p h1 h2 => e p h1 (by omega))]
      have h1 : [m].find? c = none := by
        rw [List.find?_cons_of_neg (by rw [e m (by omega) (by omega)]; exact Bool.false_ne_true)]
        rfl
      rw [h1, Option.or_none]
theorem sub_0 (x y : Int32) : (x - y = nI 0) = (x = y) := by
  refine propext ⟨fun h => ?_, fun h => ?_⟩
  · have h1 : x - y + y = nI 0 + y := by rw [h]
    rw [Int32.sub_add_cancel] at h1
    rw [h1]
    exact Int32.zero_add y
  · rw [h]
    exact Int32.sub_self y
theorem unr_hi {B : Bch} (hb : bOk B) (N : Nw) {p : Nat} (h : B 8 3 ≤ p) : (unr B N).testBit p = false := by
  unfold unr
  rw [Nat.testBit_and, Nat.testBit_lt_two_pow (x := sinkers B N) (i := p) (Nat.lt_of_lt_of_le (bN_lt _ _) (Nat.pow_le_pow_right (by decide) h))]
  rfl
set_option maxHeartbeats 1000000 in
theorem x_led {u : Nat} (hu : u < 64) (x : Int32) : jd_lp (S := Int32 × Int32) (T := (Unit) ⊕ (Int32 ⊕ Unit)) (fun s4 σ4 =>
jd_if (6 ≤ s4.2) (
some ((Sum.inr (Sum.inl ())), σ4)) (
jd_b (m_X11_has (nI u) s4.2 σ4) fun r6 σ6 =>
jd_if (r6 = 0) (
some (Sum.inl (s4.1, (s4.2 + 1)), σ6)) (
jd_if (¬ s4.1 = 0) (
some (Sum.inl ((s4.1 + (-1)), (s4.2 + 1)), σ6)) (
some (Sum.inr (Sum.inr (Sum.inl s4.2)), σ6))))) jd_fu (x, 0) σ = some (((List.range 6).find? (ledC u x)).elim (Sum.inl ()) (fun p => Sum.inr (Sum.inl (nI p))), σ) := by
  refine jlp_e 6 (fun i => ((x - nI (cnt u.testBit i), nI i) : Int32 × Int32)) (ledC u x) (fun p => Sum.inr (Sum.inl (nI p))) (Sum.inl ()) (jfu (by omega)) ?_ ?_ ?_
  · show (x, 0) = (x - nI 0, nI 0)
    rw [show x - nI 0 = x from Int32.sub_zero x]
    rfl
  · intro i hi
    have h6 : ¬ 6 ≤ i := by omega
    unfold ledC
    rcases h1 : u.testBit i with _ | _
    · rw [cnt_f h1]
      simp (disch := omega) only [jb_some, jli, jif, jd_q, jd_K0, jpi_s, jpi_l, jpi_p, jpl_s, jpl_i, jpl_p, if_true, if_false, if_pos, if_neg, not_true_eq_false, not_false_eq_true, ite_true, ite_false, Nat.not_lt_zero, eq_self, Nat.le_refl, Nat.lt_irrefl, Bool.false_eq_true, or0, jo_pi, jo_pl, jia_pi, jia_pl, jo_cpy, jia_cpy, cpy_r, m_X11_grant, m_X11_refuse, m_X13_good, m_X13_refused, reduceCtorEq, nI_add, nI_leI, nI_ltI, nI_eq, pk_mul, abs_nI, max_nI, min_nI, nI_m1, nI_m2, nI_le1, m1_lt, m2_lt, and_nI, or_nI, an_nI, has_nI, bit_nI, bc_nI, bits_nI, lx0, lx1, lx2, lx3, lx4, lx5, lx6, lx7, lx8, lx9, lx10, lx11, lx16, lx20, lx40, lx60, lx90, lx99, lx100, lx200, lx900, lx999, lx9999, h6, h1, Bool.false_and]
    · rw [cnt_t h1]
      have e2 : x - nI (cnt u.testBit i + 1) = x - nI (cnt u.testBit i) + - nI 1 := by
        rw [← nI_add, ← Int32.sub_eq_add_neg, Int32.sub_sub]
      by_cases h2 : x = nI (cnt u.testBit i)
      · simp (disch := omega) only [jb_some, jli, jif, jd_q, jd_K0, jpi_s, jpi_l, jpi_p, jpl_s, jpl_i, jpl_p, if_true, if_false, if_pos, if_neg, not_true_eq_false, not_false_eq_true, ite_true, ite_false, Nat.not_lt_zero, eq_self, Nat.le_refl, Nat.lt_irrefl, Bool.false_eq_true, or0, jo_pi, jo_pl, jia_pi, jia_pl, jo_cpy, jia_cpy, cpy_r, m_X11_grant, m_X11_refuse, m_X13_good, m_X13_refused, reduceCtorEq, nI_add, nI_leI, nI_ltI, nI_eq, pk_mul, abs_nI, max_nI, min_nI, nI_m1, nI_m2, nI_le1, m1_lt, m2_lt, and_nI, or_nI, an_nI, has_nI, bit_nI, bc_nI, bits_nI, lx0, lx1, lx2, lx3, lx4, lx5, lx6, lx7, lx8, lx9, lx10, lx11, lx16, lx20, lx40, lx60, lx90, lx99, lx100, lx200, lx900, lx999, lx9999, h6, h1, h2, sub_0, Bool.true_and, decide_true, e2]
      · simp (disch := omega) only [jb_some, jli, jif, jd_q, jd_K0, jpi_s, jpi_l, jpi_p, jpl_s, jpl_i, jpl_p, if_true, if_false, if_pos, if_neg, not_true_eq_false, not_false_eq_true, ite_true, ite_false, Nat.not_lt_zero, eq_self, Nat.le_refl, Nat.lt_irrefl, Bool.false_eq_true, or0, jo_pi, jo_pl, jia_pi, jia_pl, jo_cpy, jia_cpy, cpy_r, m_X11_grant, m_X11_refuse, m_X13_good, m_X13_refused, reduceCtorEq, nI_add, nI_leI, nI_ltI, nI_eq, pk_mul, abs_nI, max_nI, min_nI, nI_m1, nI_m2, nI_le1, m1_lt, m2_lt, and_nI, or_nI, an_nI, has_nI, bit_nI, bc_nI, bits_nI, lx0, lx1, lx2, lx3, lx4, lx5, lx6, lx7, lx8, lx9, lx10, lx11, lx16, lx20, lx40, lx60, lx90, lx99, lx100, lx200, lx900, lx999, lx9999, h6, h1, h2, sub_0, Bool.true_and, decide_false, e2]
  · simp (disch := omega) only [jb_some, jli, jif, jd_q, jd_K0, jpi_s, jpi_l, jpi_p, jpl_s, jpl_i, jpl_p, if_true, if_false, if_pos, if_neg, not_true_eq_false, not_false_eq_true, ite_true, ite_false, Nat.not_lt_zero, eq_self, Nat.le_refl, Nat.lt_irrefl, Bool.false_eq_true, or0, jo_pi, jo_pl, jia_pi, jia_pl, jo_cpy, jia_cpy, cpy_r, m_X11_grant, m_X11_refuse, m_X13_good, m_X13_refused, reduceCtorEq, nI_add, nI_leI, nI_ltI, nI_eq, pk_mul, abs_nI, max_nI, min_nI, nI_m1, nI_m2, nI_le1, m1_lt, m2_lt, and_nI, or_nI, an_nI, has_nI, bit_nI, bc_nI, bits_nI, lx0, lx1, lx2, lx3, lx4, lx5, lx6, lx7, lx8, lx9, lx10, lx11, lx16, lx20, lx40, lx60, lx90, lx99, lx100, lx200, lx900, lx999, lx9999]
theorem GM_new (hl : 131 ≤ σ.1.length) : GM σ (jd_new σ (30, 6)) := ⟨⟨[(30, 6)], rfl, by decide, by decide⟩, fun a k h => by
  have : ¬ a = σ.1.length := by omega
  exact ⟨if_neg this, if_neg this, if_neg this⟩⟩
theorem GX_new : GX σ (jd_new σ (30, 6)) := ⟨⟨[(30, 6)], rfl, by decide, by decide⟩, fun a k h h1 h2 => by
  have : ¬ a = σ.1.length := by omega
  exact ⟨if_neg this, if_neg this, if_neg this⟩⟩
theorem fin_wR : ∀ q ∈ wR, q.1 < 131 := by decide +kernel
theorem Wd_new (hW : Wd σ) (x : Nat × Nat) : Wd (jd_new σ x) := by
  have hl := len_W hW
  refine ⟨fun a ha => ?_, fun q hq => ?_⟩
  · show (σ.1 ++ [x])[a]? = _
    rw [List.getElem?_append_left (by omega)]
    exact hW.1 a ha
  · show (if q.1 = σ.1.length then none else σ.2.2.2 q.1 q.2.1) = _
    have := fin_wR q hq
    rw [if_neg (by omega)]
    exact hW.2 q hq
theorem ZX_led (h : XR z σ) (hz : HZ z) (x : Int32) : ∃ σ', m_L_led (some 32) x (some 130) σ = some ((ledO z x).elim (nI 1) (fun _ => nI 0), σ') ∧ XR z σ' ∧ GX σ σ' ∧ ∀ p, ledO z x = some p → σ'.2.2.1 130 0 = (nI p).toInt64 := by
  have hW := XR_W h
  have h0 := h
  have hz0 := hz
  have key : m_X11_led 32 x σ = (ledO z x).elim (some (Sum.inr (), jd_new σ (30, 6))) (fun p => some (Sum.inl (nI p), σ)) := by
    obtain ⟨o, ⟨na, H⟩, ⟨ni, I⟩, ⟨tl, tp⟩, fl, wh, tr⟩ := z
    obtain ⟨T, hT, hS, hD, hR, hP, hTX, f1, f2, f3⟩ := h
    unfold m_X11_led
    rcases o with _ | ⟨B, N⟩
    · have h10 : σ.2.1 32 10 = nI 0 := hR.2
      rw [h10, jif, if_pos (show nI 0 = 0 from rfl), jb_some]
      have := x_led (σ := σ) (u := 0) (by decide) x
      have e0 : (List.range 6).find? (ledC 0 x) = none := by
        rw [List.find?_eq_none]
        intro p _
        simp [ledC]
      rw [show ((0 : Int32)) = nI 0 from rfl] at *
      rw [this, e0]
      rfl
    · obtain ⟨-, h10, hX, hb, hn, hG⟩ : Wd σ ∧ σ.2.1 32 10 = nI 1 ∧ CX B N T σ ∧ bOk B ∧ nOk B N ∧ SG B σ := hR
      have e1 := cd_b hX.2
      have e2 := cd_c hX.2
      have e3 := sinkers_64 hb N
      have e4 := cov_64 hb N (N 6)
      have e5 : nI (sinkers B N) &&& (nI (cov B N (N 6)) ^^^ (-1)) = nI (unr B N) := an_nI e3 e4
      rw [h10, jif, if_neg (by decide), wr_32_2 hW, jo_40 hW, e1, e2, e5, jb_some, x_led (unr_64 hb N)]
      show jd_b _ _ = ((List.range 6).find? (ledC (unr B N) x)).elim _ _
      rcases (List.range 6).find? (ledC (unr B N) x) with _ | p <;> rfl
  unfold m_L_led
  rw [jo_32 hW, key]
  rcases hO : ledO z x with _ | p
  · refine ⟨jd_new σ (30, 6), rfl, XR_GM h0 (GM_new (len_W hW)) (Wd_new hW _) hz0, GX_new, fun p hp => absurd hp (by simp)⟩
  · refine ⟨jd_pl σ 130 0 (nI p).toInt64, ?_, XR_GM h0 ⟨Gr_same rfl, fun a k ha => ⟨rfl, ?_, rfl⟩⟩ hW hz0, ⟨Gr_same rfl, fun a k ha h130 _ => ⟨rfl, ?_, rfl⟩⟩, fun q hq => ?_⟩
    · have e : jd_ia σ 23 (some 130) (0 : Int32) (fun a2 j2 => some ((0 : Int32), jd_pl σ a2 j2 (nI p).toInt64)) = some ((0 : Int32), jd_pl σ 130 0 (nI p).toInt64) := jia_of (j := 0) (wd hW 130 rfl) (by decide) (by decide)
      exact e
    · rw [jpl_r, if_neg (by omega)]
    · rw [jpl_r, if_neg h130]
    · injection hq with hq
      rw [jpl_r, if_pos rfl, if_pos rfl, hq]
set_option maxHeartbeats 1000000 in
theorem ZM_led (h : MR z σ) (x : Int32) : ∃ σ', m_X13_led 118 x σ = some ((ledO z x).elim (nI 0) nI, σ') ∧ MR z σ' ∧ GM σ σ' ∧ σ'.2.1 118 0 = (ledO z x).elim (nI 1) (fun _ => nI 0) ∧ σ'.2.2.1 = σ.2.2.1 := by
  have h0 := MR_0 h
  have g0 : GM σ (jd_pi σ 118 0 0) := ⟨Gr_same rfl, fun a k ha => ⟨pi_ne _ _ (by omega), rfl, rfl⟩⟩
  have l0 : (jd_pi σ 118 0 0).2.2.1 = σ.2.2.1 := rfl
  have t0 : (jd_pi σ 118 0 0).2.1 118 0 = nI 0 := pi_eq _ _ _ _
  unfold m_X13_led
  rw [jli]
  generalize jd_pi σ 118 0 0 = τ at *
  have hW := MR_W h0
  obtain ⟨o, ⟨na, H⟩, ⟨ni, I⟩, ⟨tl, tp⟩, fl, wh, tr⟩ := z
  have h1 := h0
  obtain ⟨b, hR, hP, hTM, f1, f2, f3⟩ := h1
  have fin : ∀ {τ' : jd_Hp} {v : Int32}, Fr DM L0 τ τ' → τ'.2.1 118 0 = v → MR (o, (na, H), (ni, I), (tl, tp), fl, wh, tr) τ' → GM σ τ' ∧ τ'.2.2.1 = σ.2.2.1 := fun {τ' v} f _ _ => by
    have g1 := GM_fr f (fun a k h => by unfold DM at h; omega) fun a h => absurd h id
    refine ⟨⟨?_, fun a k ha => ?_⟩, ?_⟩
    · obtain ⟨t, q1, q2, q3⟩ := g0.1
      exact ⟨t, by rw [f.1, q1], q2, q3⟩
    · obtain ⟨a1, a2, a3⟩ := g0.2 a k ha
      obtain ⟨c1, c2, c3⟩ := g1.2 a k ha
      exact ⟨c1.trans a1, c2.trans a2, c3.trans a3⟩
    · rw [← l0]
      funext a k
      exact f.2.2.2 a k id
  have mr : ∀ {τ' : jd_Hp}, Fr (fun a k => a = 118 ∧ k = 0 ∨ a = 121) L0 τ τ' → MR (o, (na, H), (ni, I), (tl, tp), fl, wh, tr) τ' := fun {τ'} f => by
    have F : Fr DM L0 τ τ' := Fr_mono f (fun a k h => by unfold DM; omega) fun _ h => h
    have g : ∀ a k, ¬ (a = 118 ∧ k = 0 ∨ a = 121) → τ'.2.1 a k = τ.2.1 a k := f.2.2.1
    exact ⟨b, RMc_fr hR F, PM_of hP (nB_le hR) (g _ _ (by omega)) (g _ _ (by omega)) fun a k h => g a k (by omega), ⟨(g _ _ (by omega)).trans hTM.1, fun k hk => (g _ _ (by omega)).trans (hTM.2 k hk)⟩, (g _ _ (by omega)).trans f1, (g _ _ (by omega)).trans f2, (g _ _ (by omega)).trans f3⟩
  have up : ∀ {τ' : jd_Hp}, Fr (fun a k => a = 118 ∧ k = 0 ∨ a = 121) L0 τ τ' → Fr DM L0 τ τ' := fun {τ'} f => Fr_mono f (fun a k h => by unfold DM; omega) fun _ h => h
  rcases o with _ | ⟨B, N⟩
  · have hS : τ.2.2.2 118 3 = none := hR.2
    have F1 : Fr (fun a k => a = 118 ∧ k = 0 ∨ a = 121) L0 τ (jd_pi τ 118 0 (nI 1)) := Fr_pi (Fr_refl τ) (Or.inl ⟨rfl, rfl⟩)
    obtain ⟨q1, q2⟩ := fin (up F1) (pi_eq _ _ _ _) (mr F1)
    refine ⟨jd_pi τ 118 0 (nI 1), ?_, mr F1, q1, pi_eq _ _ _ _, q2⟩
    rw [hS, jif, if_pos rfl, jb_some, jlp_1 (t := Sum.inl ()) (σ' := τ) (by decide) ?_]
    · simp (disch := omega) only [jb_some, jli, jif, jd_q, jd_K0, jpi_s, jpi_l, jpi_p, jpl_s, jpl_i, jpl_p, if_true, if_false, if_pos, if_neg, not_true_eq_false, not_false_eq_true, ite_true, ite_false, Nat.not_lt_zero, eq_self, Nat.le_refl, Nat.lt_irrefl, Bool.false_eq_true, or0, jo_pi, jo_pl, jia_pi, jia_pl, jo_cpy, jia_cpy, cpy_r, m_X11_grant, m_X11_refuse, m_X13_good, m_X13_refused, reduceCtorEq, nI_add, nI_leI, nI_ltI, nI_eq, pk_mul, abs_nI, max_nI, min_nI, nI_m1, nI_m2, nI_le1, m1_lt, m2_lt, and_nI, or_nI, an_nI, has_nI, bit_nI, bc_nI, bits_nI, lx0, lx1, lx2, lx3, lx4, lx5, lx6, lx7, lx8, lx9, lx10, lx11, lx16, lx20, lx40, lx60, lx90, lx99, lx100, lx200, lx900, lx999, lx9999, jo_118 hW, ja_119 hW, ja_120 hW, ja_121 hW, ja_122 hW, ja_123 hW, ja_124 hW, ja_125 hW, ja_126 hW, ja_127 hW, ja_128 hW, ja_129 hW, wr_118_5 hW, wr_118_15 hW, wr_118_16 hW, wr_118_17 hW, wr_118_18 hW, wr_118_21 hW, wr_118_22 hW, wr_118_23 hW, wr_118_25 hW, wr_118_26 hW, wr_118_27 hW]
      rfl
    · simp (disch := omega) only [jb_some, jli, jif, jd_q, jd_K0, jpi_s, jpi_l, jpi_p, jpl_s, jpl_i, jpl_p, if_true, if_false, if_pos, if_neg, not_true_eq_false, not_false_eq_true, ite_true, ite_false, Nat.not_lt_zero, eq_self, Nat.le_refl, Nat.lt_irrefl, Bool.false_eq_true, or0, jo_pi, jo_pl, jia_pi, jia_pl, jo_cpy, jia_cpy, cpy_r, m_X11_grant, m_X11_refuse, m_X13_good, m_X13_refused, reduceCtorEq, nI_add, nI_leI, nI_ltI, nI_eq, pk_mul, abs_nI, max_nI, min_nI, nI_m1, nI_m2, nI_le1, m1_lt, m2_lt, and_nI, or_nI, an_nI, has_nI, bit_nI, bc_nI, bits_nI, lx0, lx1, lx2, lx3, lx4, lx5, lx6, lx7, lx8, lx9, lx10, lx11, lx16, lx20, lx40, lx60, lx90, lx99, lx100, lx200, lx900, lx999, lx9999, jo_118 hW, ja_119 hW, ja_120 hW, ja_121 hW, ja_122 hW, ja_123 hW, ja_124 hW, ja_125 hW, ja_126 hW, ja_127 hW, ja_128 hW, ja_129 hW, wr_118_5 hW, wr_118_15 hW, wr_118_16 hW, wr_118_17 hW, wr_118_18 hW, wr_118_21 hW, wr_118_22 hW, wr_118_23 hW, wr_118_25 hW, wr_118_26 hW, wr_118_27 hW, hS]
  · have hR' := hR
    obtain ⟨-, hS, hC, hV, hb, hn⟩ : Wd τ ∧ τ.2.2.2 118 3 = some b ∧ MT B b τ ∧ MV B N τ ∧ bOk B ∧ nOk B N := hR'
    have hb2 := hb.2.1
    have eW := y_works hW
    have hA := wk_MA hW hS hC hV hb
    have F1 : Fr (fun a k => a = 118 ∧ k = 0 ∨ a = 121) L0 τ (wk τ) := Fr_mono (cpy_fr _ _ _ _) (fun a k h => Or.inr h) fun _ h => h
    have t1 : (wk τ).2.1 118 0 = nI 0 := by
      show (cpy τ 121 _ 9).2.1 118 0 = _
      rw [cpy_i, if_neg (by omega), t0]
    rw [hS, jif, if_neg (by simp), eW, jb_some, jb_some]
    generalize wk τ = σ1 at *
    have eU := y_unreached hA hb hn
    have u64 := unr_64 hb N
    obtain ⟨hW1, hS1, hC1, -⟩ := hA
    have eL : (List.range (B 8 3)).find? (ledC (unr B N) x) = (List.range 6).find? (ledC (unr B N) x) := (find_ext hb2 fun p h1 h2 => by
      unfold ledC
      rw [unr_hi hb N h1]
      rfl).symm
    rw [jlp_e (B 8 3) (fun i => ((nI (cnt (unr B N).testBit i), nI i) : Int32 × Int32)) (ledC (unr B N) x) (fun p => Sum.inr (nI p)) (Sum.inl ()) (jfu (by omega)) ?_ ?_ ?_, eL, jb_some]
    · show ∃ σ', _ ∧ _ ∧ _ ∧ _ = ((List.range 6).find? (ledC (unr B N) x)).elim _ _ ∧ _
      have hO : ledO (some (B, N), (na, H), (ni, I), (tl, tp), fl, wh, tr) x = (List.range 6).find? (ledC (unr B N) x) := rfl
      rw [hO]
      rcases (List.range 6).find? (ledC (unr B N) x) with _ | p
      · have F2 : Fr (fun a k => a = 118 ∧ k = 0 ∨ a = 121) L0 τ (jd_pi σ1 118 0 (nI 1)) := Fr_pi F1 (Or.inl ⟨rfl, rfl⟩)
        obtain ⟨q1, q2⟩ := fin (up F2) (pi_eq _ _ _ _) (mr F2)
        refine ⟨jd_pi σ1 118 0 (nI 1), ?_, mr F2, q1, pi_eq _ _ _ _, q2⟩
        have e : jd_o σ1 (13, 29) (some 118) (fun a11 => jd_li (jd_pi σ1 a11 0 (1 : Int32)) fun τ12 => some ((0 : Int32), τ12)) = some ((0 : Int32), jd_pi σ1 118 0 1) := jo_118 hW1
        exact e
      · obtain ⟨q1, q2⟩ := fin (up F1) t1 (mr F1)
        exact ⟨σ1, rfl, mr F1, q1, t1, q2⟩
    · rfl
    · intro i hi
      have h6 : ¬ B 8 3 ≤ i := by omega
      have c6 := cnt_le (unr B N).testBit i
      unfold ledC
      rcases h1 : (unr B N).testBit i with _ | _
      · rw [cnt_f h1]
        simp (disch := omega) only [jb_some, jli, jif, jd_q, jd_K0, jpi_s, jpi_l, jpi_p, jpl_s, jpl_i, jpl_p, if_true, if_false, if_pos, if_neg, not_true_eq_false, not_false_eq_true, ite_true, ite_false, Nat.not_lt_zero, eq_self, Nat.le_refl, Nat.lt_irrefl, Bool.false_eq_true, or0, jo_pi, jo_pl, jia_pi, jia_pl, jo_cpy, jia_cpy, cpy_r, m_X11_grant, m_X11_refuse, m_X13_good, m_X13_refused, reduceCtorEq, nI_add, nI_leI, nI_ltI, nI_eq, pk_mul, abs_nI, max_nI, min_nI, nI_m1, nI_m2, nI_le1, m1_lt, m2_lt, and_nI, or_nI, an_nI, has_nI, bit_nI, bc_nI, bits_nI, lx0, lx1, lx2, lx3, lx4, lx5, lx6, lx7, lx8, lx9, lx10, lx11, lx16, lx20, lx40, lx60, lx90, lx99, lx100, lx200, lx900, lx999, lx9999, h6, h1, Bool.false_and, hS1, reduceCtorEq, eU, jo_118 hW1, mb_o hC1, mb_s3 hC1]
      · rw [cnt_t h1]
        by_cases h2 : x = nI (cnt (unr B N).testBit i)
        · simp (disch := omega) only [jb_some, jli, jif, jd_q, jd_K0, jpi_s, jpi_l, jpi_p, jpl_s, jpl_i, jpl_p, if_true, if_false, if_pos, if_neg, not_true_eq_false, not_false_eq_true, ite_true, ite_false, Nat.not_lt_zero, eq_self, Nat.le_refl, Nat.lt_irrefl, Bool.false_eq_true, or0, jo_pi, jo_pl, jia_pi, jia_pl, jo_cpy, jia_cpy, cpy_r, m_X11_grant, m_X11_refuse, m_X13_good, m_X13_refused, reduceCtorEq, nI_add, nI_leI, nI_ltI, nI_eq, pk_mul, abs_nI, max_nI, min_nI, nI_m1, nI_m2, nI_le1, m1_lt, m2_lt, and_nI, or_nI, an_nI, has_nI, bit_nI, bc_nI, bits_nI, lx0, lx1, lx2, lx3, lx4, lx5, lx6, lx7, lx8, lx9, lx10, lx11, lx16, lx20, lx40, lx60, lx90, lx99, lx100, lx200, lx900, lx999, lx9999, h6, h1, h2, Bool.true_and, decide_true, hS1, reduceCtorEq, eU, jo_118 hW1, mb_o hC1, mb_s3 hC1]
        · have h2' : ¬ nI (cnt (unr B N).testBit i) = x := fun h => h2 h.symm
          simp (disch := omega) only [jb_some, jli, jif, jd_q, jd_K0, jpi_s, jpi_l, jpi_p, jpl_s, jpl_i, jpl_p, if_true, if_false, if_pos, if_neg, not_true_eq_false, not_false_eq_true, ite_true, ite_false, Nat.not_lt_zero, eq_self, Nat.le_refl, Nat.lt_irrefl, Bool.false_eq_true, or0, jo_pi, jo_pl, jia_pi, jia_pl, jo_cpy, jia_cpy, cpy_r, m_X11_grant, m_X11_refuse, m_X13_good, m_X13_refused, reduceCtorEq, nI_add, nI_leI, nI_ltI, nI_eq, pk_mul, abs_nI, max_nI, min_nI, nI_m1, nI_m2, nI_le1, m1_lt, m2_lt, and_nI, or_nI, an_nI, has_nI, bit_nI, bc_nI, bits_nI, lx0, lx1, lx2, lx3, lx4, lx5, lx6, lx7, lx8, lx9, lx10, lx11, lx16, lx20, lx40, lx60, lx90, lx99, lx100, lx200, lx900, lx999, lx9999, h6, h1, h2, h2', Bool.true_and, decide_false, hS1, reduceCtorEq, eU, jo_118 hW1, mb_o hC1, mb_s3 hC1]
    · simp (disch := omega) only [jb_some, jli, jif, jd_q, jd_K0, jpi_s, jpi_l, jpi_p, jpl_s, jpl_i, jpl_p, if_true, if_false, if_pos, if_neg, not_true_eq_false, not_false_eq_true, ite_true, ite_false, Nat.not_lt_zero, eq_self, Nat.le_refl, Nat.lt_irrefl, Bool.false_eq_true, or0, jo_pi, jo_pl, jia_pi, jia_pl, jo_cpy, jia_cpy, cpy_r, m_X11_grant, m_X11_refuse, m_X13_good, m_X13_refused, reduceCtorEq, nI_add, nI_leI, nI_ltI, nI_eq, pk_mul, abs_nI, max_nI, min_nI, nI_m1, nI_m2, nI_le1, m1_lt, m2_lt, and_nI, or_nI, an_nI, has_nI, bit_nI, bc_nI, bits_nI, lx0, lx1, lx2, lx3, lx4, lx5, lx6, lx7, lx8, lx9, lx10, lx11, lx16, lx20, lx40, lx60, lx90, lx99, lx100, lx200, lx900, lx999, lx9999, hS1, reduceCtorEq, jo_118 hW1, mb_o hC1, mb_s3 hC1]
end
