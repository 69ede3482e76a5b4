/-! P (14): shares, signs -/
theorem ly0 : (0 : Int64) = lN 0 := rfl
theorem ly1 : (1 : Int64) = lN 1 := rfl
theorem ly2 : (2 : Int64) = lN 2 := rfl
theorem ly100 : (100 : Int64) = lN 100 := rfl
theorem cl_le {a b : Nat} (ha : a < 2 ^ 63) (hb : b < 2 ^ 63) : (lg_cmp (lN a) (lN b) ≤ nI 0) = (a ≤ b) := propext ((lg_cmp_le _ _).trans (pk_lLE ha hb))
theorem cl_gt {a b : Nat} (ha : a < 2 ^ 63) (hb : b < 2 ^ 63) : (nI 0 < lg_cmp (lN a) (lN b)) = (b < a) := propext ((lg_cmp_gt _ _).trans (pk_lLT hb ha))
theorem cl_eq {a b : Nat} (ha : a < 2 ^ 63) (hb : b < 2 ^ 63) : (lg_cmp (lN a) (lN b) = nI 0) = (a = b) := by
  apply propext
  unfold lg_cmp
  by_cases h : lN a = lN b
  · have h2 := (pk_lEQ ha hb).mp h
    subst h2
    rw [if_neg (by rw [show lN a > lN a ↔ lN a < lN a from Iff.rfl, pk_lLT ha ha]; omega), if_pos rfl]
    exact ⟨fun _ => rfl, fun _ => rfl⟩
  · have h2 : ¬ a = b := fun h3 => h (by rw [h3])
    rw [if_neg h]
    refine ⟨fun h3 => ?_, fun h3 => absurd h3 h2⟩
    split at h3
    · exact absurd h3 (by decide +kernel)
    · exact absurd h3 (by decide +kernel)
theorem mod_half {y r : Nat} (h0 : 0 < r) (h1 : r < y) : 2 * (y % r) < y := by
  have h2 := Nat.mod_lt y h0
  have h3 := Nat.div_add_mod y r
  have h4 : 1 ≤ y / r := (Nat.one_le_div_iff h0).mpr (by omega)
  have h5 : r * 1 ≤ r * (y / r) := Nat.mul_le_mul_left r h4
  omega
theorem gcd_st (x y : Nat) : Nat.gcd y (x % y) = Nat.gcd x y := by rw [Nat.gcd_comm y, ← Nat.gcd_rec, Nat.gcd_comm]
section
variable {σ : jd_Hp}
theorem cm_lp : ∀ (k x y s n : Nat), x < 2 ^ 63 → y < 2 ^ k → k ≤ 62 → s + 2 * k + 2 ≤ 200 → 2 * k + 2 < n → jd_lp (S := Int64 × Int64 × Int32) (T := Int64) (fun s1 σ1 =>
jd_if (200 ≤ s1.2.2) (
some ((Sum.inr s1.1), σ1)) (
jd_if ((lg_cmp s1.2.1 0) = 0) (
some ((Sum.inr s1.1), σ1)) (
jd_nz (s1.2.1 = 0) <|
jd_li (s1.1 - s1.1 / s1.2.1 * s1.2.1) fun x4 =>
some (Sum.inl (s1.2.1, x4, (s1.2.2 + 1)), σ1)))) n (lN x, lN y, nI s) σ = some (lN (Nat.gcd x y), σ) := by
  have exit : ∀ (x s n : Nat), x < 2 ^ 63 → s < 200 → 0 < n → jd_lp (S := Int64 × Int64 × Int32) (T := Int64) (fun s1 σ1 =>
jd_if (200 ≤ s1.2.2) (
some ((Sum.inr s1.1), σ1)) (
jd_if ((lg_cmp s1.2.1 0) = 0) (
some ((Sum.inr s1.1), σ1)) (
jd_nz (s1.2.1 = 0) <|
jd_li (s1.1 - s1.1 / s1.2.1 * s1.2.1) fun x4 =>
some (Sum.inl (s1.2.1, x4, (s1.2.2 + 1)), σ1)))) n (lN x, lN 0, nI s) σ = some (lN x, σ) := by
    intro x s n hx hs hn
    have h2 : ¬ 200 ≤ s := by omega
    refine jlp_1 hn ?_
    simp (disch := omega) only [jb_some, jli, jif, jd_q, jd_K0, jpi_s, jpi_l, jpi_p, jpl_s, jpl_i, jpl_p, if_true, if_false, if_pos, if_neg, not_true_eq_false, not_false_eq_true, ite_true, ite_false, Nat.not_lt_zero, eq_self, Nat.le_refl, Nat.lt_irrefl, Bool.false_eq_true, or0, jo_pi, jo_pl, jia_pi, jia_pl, jo_cpy, jia_cpy, cpy_r, m_X11_grant, m_X11_refuse, m_X13_good, m_X13_refused, reduceCtorEq, nI_add, nI_leI, nI_ltI, nI_eq, pk_mul, abs_nI, max_nI, min_nI, nI_m1, nI_m2, nI_le1, m1_lt, m2_lt, and_nI, or_nI, an_nI, has_nI, bit_nI, bc_nI, bits_nI, lx0, lx1, lx2, lx3, lx4, lx5, lx6, lx7, lx8, lx9, lx10, lx11, lx16, lx20, lx40, lx60, lx90, lx99, lx100, lx200, lx900, lx999, lx9999, lN_add, lN_mul, nI_l, cl_le, cl_gt, cl_eq, pk_lEQ, pk_lDiv, ly0, ly1, ly2, ly100, h2]
  intro k
  induction k with
  | zero =>
    intro x y s n hx hy hk hs hn
    have : y = 0 := by omega
    subst this
    rw [Nat.gcd_zero_right]
    exact exit x s n hx (by omega) (by omega)
  | succ k ih =>
    intro x y s n hx hy hk hs hn
    have hp : 2 ^ (k + 1) = 2 * 2 ^ k := by rw [Nat.pow_succ]; omega
    have hp2 : 2 ^ (k + 1) ≤ 2 ^ 62 := Nat.pow_le_pow_right (by decide) hk
    by_cases h0 : y = 0
    · subst h0
      rw [Nat.gcd_zero_right]
      exact exit x s n hx (by omega) (by omega)
    · obtain ⟨n', rfl⟩ : ∃ n', n = n' + 1 := ⟨n - 1, by omega⟩
      have hr := Nat.mod_lt x (show 0 < y by omega)
      have st1 : jd_lp (S := Int64 × Int64 × Int32) (T := Int64) (fun s1 σ1 =>
jd_if (200 ≤ s1.2.2) (
some ((Sum.inr s1.1), σ1)) (
jd_if ((lg_cmp s1.2.1 0) = 0) (
some ((Sum.inr s1.1), σ1)) (
jd_nz (s1.2.1 = 0) <|
jd_li (s1.1 - s1.1 / s1.2.1 * s1.2.1) fun x4 =>
some (Sum.inl (s1.2.1, x4, (s1.2.2 + 1)), σ1)))) n' (lN y, lN (x % y), nI (s + 1)) σ = some (lN (Nat.gcd x y), σ) := by
        rw [← gcd_st x y]
        by_cases h1 : x % y = 0
        · rw [h1, Nat.gcd_zero_right]
          exact exit y (s + 1) n' (by omega) (by omega) (by omega)
        · obtain ⟨n'', rfl⟩ : ∃ n'', n' = n'' + 1 := ⟨n' - 1, by omega⟩
          have h3 := mod_half (show 0 < x % y by omega) hr
          have h4 := ih (x % y) (y % (x % y)) (s + 1 + 1) n'' (by omega) (by omega) (by omega) (by omega) (by omega)
          rw [gcd_st] at h4
          show jd_b (jd_if _ _ _) _ = _
          have e1 := pk_lRem (a := y) (b := x % y) (by omega) (by omega) (by omega)
          have h2 : ¬ 200 ≤ s + 1 := by omega
          simp (disch := omega) only [jb_some, jli, jif, jd_q, jd_K0, jpi_s, jpi_l, jpi_p, jpl_s, jpl_i, jpl_p, if_true, if_false, if_pos, if_neg, not_true_eq_false, not_false_eq_true, ite_true, ite_false, Nat.not_lt_zero, eq_self, Nat.le_refl, Nat.lt_irrefl, Bool.false_eq_true, or0, jo_pi, jo_pl, jia_pi, jia_pl, jo_cpy, jia_cpy, cpy_r, m_X11_grant, m_X11_refuse, m_X13_good, m_X13_refused, reduceCtorEq, nI_add, nI_leI, nI_ltI, nI_eq, pk_mul, abs_nI, max_nI, min_nI, nI_m1, nI_m2, nI_le1, m1_lt, m2_lt, and_nI, or_nI, an_nI, has_nI, bit_nI, bc_nI, bits_nI, lx0, lx1, lx2, lx3, lx4, lx5, lx6, lx7, lx8, lx9, lx10, lx11, lx16, lx20, lx40, lx60, lx90, lx99, lx100, lx200, lx900, lx999, lx9999, lN_add, nI_l, cl_le, cl_gt, cl_eq, pk_lEQ, ly0, ly1, ly2, ly100, h1, h2, jnz, e1]
          exact h4
      show jd_b (jd_if _ _ _) _ = _
      have e1 := pk_lRem (a := x) (b := y) (by omega) (by omega) (by omega)
      have h2 : ¬ 200 ≤ s := by omega
      simp (disch := omega) only [jb_some, jli, jif, jd_q, jd_K0, jpi_s, jpi_l, jpi_p, jpl_s, jpl_i, jpl_p, if_true, if_false, if_pos, if_neg, not_true_eq_false, not_false_eq_true, ite_true, ite_false, Nat.not_lt_zero, eq_self, Nat.le_refl, Nat.lt_irrefl, Bool.false_eq_true, or0, jo_pi, jo_pl, jia_pi, jia_pl, jo_cpy, jia_cpy, cpy_r, m_X11_grant, m_X11_refuse, m_X13_good, m_X13_refused, reduceCtorEq, nI_add, nI_leI, nI_ltI, nI_eq, pk_mul, abs_nI, max_nI, min_nI, nI_m1, nI_m2, nI_le1, m1_lt, m2_lt, and_nI, or_nI, an_nI, has_nI, bit_nI, bc_nI, bits_nI, lx0, lx1, lx2, lx3, lx4, lx5, lx6, lx7, lx8, lx9, lx10, lx11, lx16, lx20, lx40, lx60, lx90, lx99, lx100, lx200, lx900, lx999, lx9999, lN_add, nI_l, cl_le, cl_gt, cl_eq, pk_lEQ, ly0, ly1, ly2, ly100, h0, h2, jnz, e1]
      exact st1
theorem x_cm {x y : Nat} (hx : x < 2 ^ 62) (hy : y < 2 ^ 62) : m_X3_commonDivisor (lN x) (lN y) σ = some (lN (Nat.gcd x y), σ) := by
  unfold m_X3_commonDivisor
  have := cm_lp (σ := σ) 62 x y 0 jd_fu (by omega) hy (by omega) (by omega) (jfu (by omega))
  rw [show ((lN x, lN y, 0) : Int64 × Int64 × Int32) = (lN x, lN y, nI 0) from rfl, this]
  rfl
theorem cmy_lp : ∀ (y x n : Nat), x < 2 ^ 62 → y < 2 ^ 62 → ∀ k, y < 2 ^ k → k ≤ 62 → 2 * k + 2 < n → jd_lp (S := Int64 × Int64) (T := Int64) (fun s1 σ1 =>
jd_if ((lg_cmp s1.2 0) = 0) (
some ((Sum.inr s1.1), σ1)) (
jd_nz (s1.2 = 0) <|
jd_li (s1.1 - s1.1 / s1.2 * s1.2) fun x4 =>
some (Sum.inl (s1.2, x4), σ1))) n (lN x, lN y) σ = some (lN (Nat.gcd x y), σ) := by
  have exit : ∀ (x n : Nat), x < 2 ^ 62 → 0 < n → jd_lp (S := Int64 × Int64) (T := Int64) (fun s1 σ1 =>
jd_if ((lg_cmp s1.2 0) = 0) (
some ((Sum.inr s1.1), σ1)) (
jd_nz (s1.2 = 0) <|
jd_li (s1.1 - s1.1 / s1.2 * s1.2) fun x4 =>
some (Sum.inl (s1.2, x4), σ1))) n (lN x, lN 0) σ = some (lN x, σ) := by
    intro x n hx hn
    refine jlp_1 hn ?_
    simp (disch := omega) only [jb_some, jli, jif, jd_q, jd_K0, jpi_s, jpi_l, jpi_p, jpl_s, jpl_i, jpl_p, if_true, if_false, if_pos, if_neg, not_true_eq_false, not_false_eq_true, ite_true, ite_false, Nat.not_lt_zero, eq_self, Nat.le_refl, Nat.lt_irrefl, Bool.false_eq_true, or0, jo_pi, jo_pl, jia_pi, jia_pl, jo_cpy, jia_cpy, cpy_r, m_X11_grant, m_X11_refuse, m_X13_good, m_X13_refused, reduceCtorEq, nI_add, nI_leI, nI_ltI, nI_eq, pk_mul, abs_nI, max_nI, min_nI, nI_m1, nI_m2, nI_le1, m1_lt, m2_lt, and_nI, or_nI, an_nI, has_nI, bit_nI, bc_nI, bits_nI, lx0, lx1, lx2, lx3, lx4, lx5, lx6, lx7, lx8, lx9, lx10, lx11, lx16, lx20, lx40, lx60, lx90, lx99, lx100, lx200, lx900, lx999, lx9999, lN_add, lN_mul, nI_l, cl_le, cl_gt, cl_eq, pk_lEQ, pk_lDiv, ly0, ly1, ly2, ly100]
  have main : ∀ (k x y n : Nat), x < 2 ^ 62 → y < 2 ^ k → k ≤ 62 → 2 * k + 2 < n → jd_lp (S := Int64 × Int64) (T := Int64) (fun s1 σ1 =>
jd_if ((lg_cmp s1.2 0) = 0) (
some ((Sum.inr s1.1), σ1)) (
jd_nz (s1.2 = 0) <|
jd_li (s1.1 - s1.1 / s1.2 * s1.2) fun x4 =>
some (Sum.inl (s1.2, x4), σ1))) n (lN x, lN y) σ = some (lN (Nat.gcd x y), σ) := by
    intro k
    induction k with
    | zero =>
      intro x y n hx hy hk hn
      have : y = 0 := by omega
      subst this
      rw [Nat.gcd_zero_right]
      exact exit x n hx (by omega)
    | succ k ih =>
      intro x y n hx hy hk hn
      have hp : 2 ^ (k + 1) = 2 * 2 ^ k := by rw [Nat.pow_succ]; omega
      have hp2 : 2 ^ (k + 1) ≤ 2 ^ 62 := Nat.pow_le_pow_right (by decide) hk
      by_cases h0 : y = 0
      · subst h0
        rw [Nat.gcd_zero_right]
        exact exit x n hx (by omega)
      · obtain ⟨n', rfl⟩ : ∃ n', n = n' + 1 := ⟨n - 1, by omega⟩
        have hr := Nat.mod_lt x (show 0 < y by omega)
        have st1 : jd_lp (S := Int64 × Int64) (T := Int64) (fun s1 σ1 =>
jd_if ((lg_cmp s1.2 0) = 0) (
some ((Sum.inr s1.1), σ1)) (
jd_nz (s1.2 = 0) <|
jd_li (s1.1 - s1.1 / s1.2 * s1.2) fun x4 =>
some (Sum.inl (s1.2, x4), σ1))) n' (lN y, lN (x % y)) σ = some (lN (Nat.gcd x y), σ) := by
          rw [← gcd_st x y]
          by_cases h1 : x % y = 0
          · rw [h1, Nat.gcd_zero_right]
            exact exit y n' (by omega) (by omega)
          · obtain ⟨n'', rfl⟩ : ∃ n'', n' = n'' + 1 := ⟨n' - 1, by omega⟩
            have h3 := mod_half (show 0 < x % y by omega) hr
            have h4 := ih (x % y) (y % (x % y)) n'' (by omega) (by omega) (by omega) (by omega)
            rw [gcd_st] at h4
            show jd_b (jd_if _ _ _) _ = _
            have e1 := pk_lRem (a := y) (b := x % y) (by omega) (by omega) (by omega)
            simp (disch := omega) only [jb_some, jli, jif, jd_q, jd_K0, jpi_s, jpi_l, jpi_p, jpl_s, jpl_i, jpl_p, if_true, if_false, if_pos, if_neg, not_true_eq_false, not_false_eq_true, ite_true, ite_false, Nat.not_lt_zero, eq_self, Nat.le_refl, Nat.lt_irrefl, Bool.false_eq_true, or0, jo_pi, jo_pl, jia_pi, jia_pl, jo_cpy, jia_cpy, cpy_r, m_X11_grant, m_X11_refuse, m_X13_good, m_X13_refused, reduceCtorEq, nI_add, nI_leI, nI_ltI, nI_eq, pk_mul, abs_nI, max_nI, min_nI, nI_m1, nI_m2, nI_le1, m1_lt, m2_lt, and_nI, or_nI, an_nI, has_nI, bit_nI, bc_nI, bits_nI, lx0, lx1, lx2, lx3, lx4, lx5, lx6, lx7, lx8, lx9, lx10, lx11, lx16, lx20, lx40, lx60, lx90, lx99, lx100, lx200, lx900, lx999, lx9999, lN_add, nI_l, cl_le, cl_gt, cl_eq, pk_lEQ, ly0, ly1, ly2, ly100, h1, jnz, e1]
            exact h4
        show jd_b (jd_if _ _ _) _ = _
        have e1 := pk_lRem (a := x) (b := y) (by omega) (by omega) (by omega)
        simp (disch := omega) only [jb_some, jli, jif, jd_q, jd_K0, jpi_s, jpi_l, jpi_p, jpl_s, jpl_i, jpl_p, if_true, if_false, if_pos, if_neg, not_true_eq_false, not_false_eq_true, ite_true, ite_false, Nat.not_lt_zero, eq_self, Nat.le_refl, Nat.lt_irrefl, Bool.false_eq_true, or0, jo_pi, jo_pl, jia_pi, jia_pl, jo_cpy, jia_cpy, cpy_r, m_X11_grant, m_X11_refuse, m_X13_good, m_X13_refused, reduceCtorEq, nI_add, nI_leI, nI_ltI, nI_eq, pk_mul, abs_nI, max_nI, min_nI, nI_m1, nI_m2, nI_le1, m1_lt, m2_lt, and_nI, or_nI, an_nI, has_nI, bit_nI, bc_nI, bits_nI, lx0, lx1, lx2, lx3, lx4, lx5, lx6, lx7, lx8, lx9, lx10, lx11, lx16, lx20, lx40, lx60, lx90, lx99, lx100, lx200, lx900, lx999, lx9999, lN_add, nI_l, cl_le, cl_gt, cl_eq, pk_lEQ, ly0, ly1, ly2, ly100, h0, jnz, e1]
        exact st1
  intro y x n hx hy k hk1 hk2 hn
  exact main k x y n hx hk1 hk2 hn
theorem y_cm {x y : Nat} (hx : x < 2 ^ 62) (hy : y < 2 ^ 62) : m_X13_common (lN x) (lN y) σ = some (lN (Nat.gcd x y), σ) := by
  unfold m_X13_common
  rw [cmy_lp y x jd_fu hx hy 62 hy (by omega) (jfu (by omega))]
  rfl
def frV (u d : Nat) (lower : Int32) : Nat := if lower = nI 0 then (if d = 0 then 0 else u / Nat.gcd u d) else (if d = 0 then 1 else d / Nat.gcd u d)
theorem x_reduce (hW : Wd σ) {u d : Nat} (hu : u < 2 ^ 62) (hd : d < 2 ^ 62) : ∃ σ', m_X3_reduce 108 (lN u) (lN d) σ = some ((), σ') ∧ Fr DQ LQ σ σ' ∧ σ'.2.2.1 108 0 = lN (frV u d (nI 0)) ∧ σ'.2.2.1 108 1 = lN (frV u d (nI 1)) := by
  have F0 : Fr DQ LQ σ (jd_pl (jd_pl σ 108 0 (lN 0)) 108 1 (lN 1)) := Fr_pl (Fr_pl (Fr_refl σ) (Or.inr rfl)) (Or.inr rfl)
  have n10 : ¬ nI 1 = nI 0 := by decide +kernel
  unfold m_X3_reduce frV
  by_cases h1 : u = 0
  · refine ⟨_, ?_, F0, ?_, ?_⟩
    · simp (disch := omega) only [jb_some, jli, jif, jd_q, jd_K0, jpi_s, jpi_l, jpi_p, jpl_s, jpl_i, jpl_p, if_true, if_false, if_pos, if_neg, not_true_eq_false, not_false_eq_true, ite_true, ite_false, Nat.not_lt_zero, eq_self, Nat.le_refl, Nat.lt_irrefl, Bool.false_eq_true, or0, jo_pi, jo_pl, jia_pi, jia_pl, jo_cpy, jia_cpy, cpy_r, m_X11_grant, m_X11_refuse, m_X13_good, m_X13_refused, reduceCtorEq, nI_add, nI_leI, nI_ltI, nI_eq, pk_mul, abs_nI, max_nI, min_nI, nI_m1, nI_m2, nI_le1, m1_lt, m2_lt, and_nI, or_nI, an_nI, has_nI, bit_nI, bc_nI, bits_nI, lx0, lx1, lx2, lx3, lx4, lx5, lx6, lx7, lx8, lx9, lx10, lx11, lx16, lx20, lx40, lx60, lx90, lx99, lx100, lx200, lx900, lx999, lx9999, lN_add, lN_mul, nI_l, cl_le, cl_gt, cl_eq, pk_lEQ, pk_lDiv, ly0, ly1, ly2, ly100, h1]
    · rw [jpl_r, if_pos rfl, if_neg (by decide), jpl_r, if_pos rfl, if_pos rfl, if_pos rfl, h1]
      split
      · rfl
      · rw [Nat.zero_div]
    · rw [jpl_r, if_pos rfl, if_pos rfl, if_neg n10, h1]
      split
      · rfl
      · rw [Nat.gcd_zero_left, Nat.div_self (by omega)]
  · by_cases h2 : d = 0
    · have h1' : ¬ u ≤ 0 := by omega
      refine ⟨_, ?_, F0, ?_, ?_⟩
      · simp (disch := omega) only [jb_some, jli, jif, jd_q, jd_K0, jpi_s, jpi_l, jpi_p, jpl_s, jpl_i, jpl_p, if_true, if_false, if_pos, if_neg, not_true_eq_false, not_false_eq_true, ite_true, ite_false, Nat.not_lt_zero, eq_self, Nat.le_refl, Nat.lt_irrefl, Bool.false_eq_true, or0, jo_pi, jo_pl, jia_pi, jia_pl, jo_cpy, jia_cpy, cpy_r, m_X11_grant, m_X11_refuse, m_X13_good, m_X13_refused, reduceCtorEq, nI_add, nI_leI, nI_ltI, nI_eq, pk_mul, abs_nI, max_nI, min_nI, nI_m1, nI_m2, nI_le1, m1_lt, m2_lt, and_nI, or_nI, an_nI, has_nI, bit_nI, bc_nI, bits_nI, lx0, lx1, lx2, lx3, lx4, lx5, lx6, lx7, lx8, lx9, lx10, lx11, lx16, lx20, lx40, lx60, lx90, lx99, lx100, lx200, lx900, lx999, lx9999, lN_add, lN_mul, nI_l, cl_le, cl_gt, cl_eq, pk_lEQ, pk_lDiv, ly0, ly1, ly2, ly100, h1', h2]
      · rw [jpl_r, if_pos rfl, if_neg (by decide), jpl_r, if_pos rfl, if_pos rfl, if_pos rfl, if_pos h2]
      · rw [jpl_r, if_pos rfl, if_pos rfl, if_neg n10, if_pos h2]
    · have hg : 0 < Nat.gcd u d := Nat.gcd_pos_of_pos_left d (by omega)
      have hg2 : Nat.gcd u d ≤ u := Nat.gcd_le_left d (by omega)
      have hg3 : ¬ Nat.gcd u d ≤ 0 := by omega
      have hg4 : ¬ Nat.gcd u d = 0 := by omega
      have h1' : ¬ u ≤ 0 := by omega
      have h2' : ¬ d ≤ 0 := by omega
      have e1 := x_cm (σ := jd_pl (jd_pl σ 108 0 (lN 0)) 108 1 (lN 1)) hu hd
      refine ⟨jd_pl (jd_pl (jd_pl (jd_pl σ 108 0 (lN 0)) 108 1 (lN 1)) 108 0 (lN (u / Nat.gcd u d))) 108 1 (lN (d / Nat.gcd u d)), ?_, Fr_pl (Fr_pl F0 (Or.inr rfl)) (Or.inr rfl), ?_, ?_⟩
      · simp (disch := omega) only [jb_some, jli, jif, jd_q, jd_K0, jpi_s, jpi_l, jpi_p, jpl_s, jpl_i, jpl_p, if_true, if_false, if_pos, if_neg, not_true_eq_false, not_false_eq_true, ite_true, ite_false, Nat.not_lt_zero, eq_self, Nat.le_refl, Nat.lt_irrefl, Bool.false_eq_true, or0, jo_pi, jo_pl, jia_pi, jia_pl, jo_cpy, jia_cpy, cpy_r, m_X11_grant, m_X11_refuse, m_X13_good, m_X13_refused, reduceCtorEq, nI_add, nI_leI, nI_ltI, nI_eq, pk_mul, abs_nI, max_nI, min_nI, nI_m1, nI_m2, nI_le1, m1_lt, m2_lt, and_nI, or_nI, an_nI, has_nI, bit_nI, bc_nI, bits_nI, lx0, lx1, lx2, lx3, lx4, lx5, lx6, lx7, lx8, lx9, lx10, lx11, lx16, lx20, lx40, lx60, lx90, lx99, lx100, lx200, lx900, lx999, lx9999, lN_add, lN_mul, nI_l, cl_le, cl_gt, cl_eq, pk_lEQ, pk_lDiv, ly0, ly1, ly2, ly100, h1', h2', e1, hg3, hg4, jnz]
      · rw [jpl_r, if_pos rfl, if_neg (by decide), jpl_r, if_pos rfl, if_pos rfl, if_pos rfl, if_neg h2]
      · rw [jpl_r, if_pos rfl, if_pos rfl, if_neg n10, if_neg h2]
theorem frV_eq (u d : Nat) (lo : Int32) : frV u d lo = if lo = nI 0 then frV u d (nI 0) else frV u d (nI 1) := by
  have n10 : ¬ nI 1 = nI 0 := by decide +kernel
  unfold frV
  by_cases h : lo = nI 0
  · rw [if_pos h, if_pos h, if_pos rfl]
  · rw [if_neg h, if_neg h, if_neg n10]
theorem x_ratio {u d : Nat} {σ' : jd_Hp} (lo : Int32) (hW : Wd σ) (e1 : σ.2.2.1 108 0 = lN (frV u d (nI 0))) (e2 : σ.2.2.1 108 1 = lN (frV u d (nI 1))) : m_X11_grantRatio 32 lo σ = some (lN (frV u d lo), jd_pi σ 32 11 (nI 0)) := by
  unfold m_X11_grantRatio
  rw [frV_eq]
  by_cases h : lo = nI 0
  · simp (disch := omega) only [jb_some, jli, jif, jd_q, jd_K0, jpi_s, jpi_l, jpi_p, jpl_s, jpl_i, jpl_p, if_true, if_false, if_pos, if_neg, not_true_eq_false, not_false_eq_true, ite_true, ite_false, Nat.not_lt_zero, eq_self, Nat.le_refl, Nat.lt_irrefl, Bool.false_eq_true, or0, jo_pi, jo_pl, jia_pi, jia_pl, jo_cpy, jia_cpy, cpy_r, m_X11_grant, m_X11_refuse, m_X13_good, m_X13_refused, reduceCtorEq, nI_add, nI_leI, nI_ltI, nI_eq, pk_mul, abs_nI, max_nI, min_nI, nI_m1, nI_m2, nI_le1, m1_lt, m2_lt, and_nI, or_nI, an_nI, has_nI, bit_nI, bc_nI, bits_nI, lx0, lx1, lx2, lx3, lx4, lx5, lx6, lx7, lx8, lx9, lx10, lx11, lx16, lx20, lx40, lx60, lx90, lx99, lx100, lx200, lx900, lx999, lx9999, jo_32 hW, jo_33 hW, jo_35 hW, jo_40 hW, jo_41 hW, jo_56 hW, jo_97 hW, jo_100 hW, jo_104 hW, jo_106 hW, jo_108 hW, ja_34 hW, ja_36 hW, ja_37 hW, ja_38 hW, ja_39 hW, ja_42 hW, ja_43 hW, ja_44 hW, ja_45 hW, ja_46 hW, ja_98 hW, ja_99 hW, ja_101 hW, ja_102 hW, ja_103 hW, wr_32_0 hW, wr_32_1 hW, wr_32_2 hW, wr_32_3 hW, wr_32_4 hW, wr_32_5 hW, wr_32_6 hW, wr_32_7 hW, wr_32_8 hW, wr_33_0 hW, wr_35_0 hW, wr_35_1 hW, wr_35_2 hW, wr_35_3 hW, wr_35_4 hW, wr_40_0 hW, wr_40_1 hW, wr_40_2 hW, wr_40_3 hW, wr_40_4 hW, wr_41_0 hW, wr_56_0 hW, wr_56_1 hW, wr_97_0 hW, wr_97_1 hW, wr_100_0 hW, wr_100_1 hW, wr_100_2 hW, wr_104_0 hW, wr_106_0 hW, h, e1]
  · simp (disch := omega) only [jb_some, jli, jif, jd_q, jd_K0, jpi_s, jpi_l, jpi_p, jpl_s, jpl_i, jpl_p, if_true, if_false, if_pos, if_neg, not_true_eq_false, not_false_eq_true, ite_true, ite_false, Nat.not_lt_zero, eq_self, Nat.le_refl, Nat.lt_irrefl, Bool.false_eq_true, or0, jo_pi, jo_pl, jia_pi, jia_pl, jo_cpy, jia_cpy, cpy_r, m_X11_grant, m_X11_refuse, m_X13_good, m_X13_refused, reduceCtorEq, nI_add, nI_leI, nI_ltI, nI_eq, pk_mul, abs_nI, max_nI, min_nI, nI_m1, nI_m2, nI_le1, m1_lt, m2_lt, and_nI, or_nI, an_nI, has_nI, bit_nI, bc_nI, bits_nI, lx0, lx1, lx2, lx3, lx4, lx5, lx6, lx7, lx8, lx9, lx10, lx11, lx16, lx20, lx40, lx60, lx90, lx99, lx100, lx200, lx900, lx999, lx9999, jo_32 hW, jo_33 hW, jo_35 hW, jo_40 hW, jo_41 hW, jo_56 hW, jo_97 hW, jo_100 hW, jo_104 hW, jo_106 hW, jo_108 hW, ja_34 hW, ja_36 hW, ja_37 hW, ja_38 hW, ja_39 hW, ja_42 hW, ja_43 hW, ja_44 hW, ja_45 hW, ja_46 hW, ja_98 hW, ja_99 hW, ja_101 hW, ja_102 hW, ja_103 hW, wr_32_0 hW, wr_32_1 hW, wr_32_2 hW, wr_32_3 hW, wr_32_4 hW, wr_32_5 hW, wr_32_6 hW, wr_32_7 hW, wr_32_8 hW, wr_33_0 hW, wr_35_0 hW, wr_35_1 hW, wr_35_2 hW, wr_35_3 hW, wr_35_4 hW, wr_40_0 hW, wr_40_1 hW, wr_40_2 hW, wr_40_3 hW, wr_40_4 hW, wr_41_0 hW, wr_56_0 hW, wr_56_1 hW, wr_97_0 hW, wr_97_1 hW, wr_100_0 hW, wr_100_1 hW, wr_100_2 hW, wr_104_0 hW, wr_106_0 hW, h, e2]
theorem y_fraction {u d : Nat} (lo : Int32) (hu : u < 2 ^ 62) (hd : d < 2 ^ 62) : m_X13_fraction 118 (lN u) (lN d) lo σ = some (lN (frV u d lo), jd_pi (jd_pi σ 118 1 (nI 0)) 118 2 (- nI 1)) := by
  unfold m_X13_fraction frV
  have e1 := y_cm (σ := jd_pi (jd_pi σ 118 1 (nI 0)) 118 2 (- nI 1)) hu hd
  by_cases h : lo = nI 0
  · by_cases h2 : d = 0
    · simp (disch := omega) only [jb_some, jli, jif, jd_q, jd_K0, jpi_s, jpi_l, jpi_p, jpl_s, jpl_i, jpl_p, if_true, if_false, if_pos, if_neg, not_true_eq_false, not_false_eq_true, ite_true, ite_false, Nat.not_lt_zero, eq_self, Nat.le_refl, Nat.lt_irrefl, Bool.false_eq_true, or0, jo_pi, jo_pl, jia_pi, jia_pl, jo_cpy, jia_cpy, cpy_r, m_X11_grant, m_X11_refuse, m_X13_good, m_X13_refused, reduceCtorEq, nI_add, nI_leI, nI_ltI, nI_eq, pk_mul, abs_nI, max_nI, min_nI, nI_m1, nI_m2, nI_le1, m1_lt, m2_lt, and_nI, or_nI, an_nI, has_nI, bit_nI, bc_nI, bits_nI, lx0, lx1, lx2, lx3, lx4, lx5, lx6, lx7, lx8, lx9, lx10, lx11, lx16, lx20, lx40, lx60, lx90, lx99, lx100, lx200, lx900, lx999, lx9999, lN_add, lN_mul, nI_l, cl_le, cl_gt, cl_eq, pk_lEQ, pk_lDiv, ly0, ly1, ly2, ly100, h, h2]
    · have hg : 0 < Nat.gcd u d := Nat.gcd_pos_of_pos_right u (by omega)
      have hg2 : Nat.gcd u d ≤ d := Nat.gcd_le_right u (by omega)
      have hg4 : ¬ Nat.gcd u d = 0 := by omega
      simp (disch := omega) only [jb_some, jli, jif, jd_q, jd_K0, jpi_s, jpi_l, jpi_p, jpl_s, jpl_i, jpl_p, if_true, if_false, if_pos, if_neg, not_true_eq_false, not_false_eq_true, ite_true, ite_false, Nat.not_lt_zero, eq_self, Nat.le_refl, Nat.lt_irrefl, Bool.false_eq_true, or0, jo_pi, jo_pl, jia_pi, jia_pl, jo_cpy, jia_cpy, cpy_r, m_X11_grant, m_X11_refuse, m_X13_good, m_X13_refused, reduceCtorEq, nI_add, nI_leI, nI_ltI, nI_eq, pk_mul, abs_nI, max_nI, min_nI, nI_m1, nI_m2, nI_le1, m1_lt, m2_lt, and_nI, or_nI, an_nI, has_nI, bit_nI, bc_nI, bits_nI, lx0, lx1, lx2, lx3, lx4, lx5, lx6, lx7, lx8, lx9, lx10, lx11, lx16, lx20, lx40, lx60, lx90, lx99, lx100, lx200, lx900, lx999, lx9999, lN_add, lN_mul, nI_l, cl_le, cl_gt, cl_eq, pk_lEQ, pk_lDiv, ly0, ly1, ly2, ly100, h, h2, e1, jnz, hg4]
  · by_cases h2 : d = 0
    · simp (disch := omega) only [jb_some, jli, jif, jd_q, jd_K0, jpi_s, jpi_l, jpi_p, jpl_s, jpl_i, jpl_p, if_true, if_false, if_pos, if_neg, not_true_eq_false, not_false_eq_true, ite_true, ite_false, Nat.not_lt_zero, eq_self, Nat.le_refl, Nat.lt_irrefl, Bool.false_eq_true, or0, jo_pi, jo_pl, jia_pi, jia_pl, jo_cpy, jia_cpy, cpy_r, m_X11_grant, m_X11_refuse, m_X13_good, m_X13_refused, reduceCtorEq, nI_add, nI_leI, nI_ltI, nI_eq, pk_mul, abs_nI, max_nI, min_nI, nI_m1, nI_m2, nI_le1, m1_lt, m2_lt, and_nI, or_nI, an_nI, has_nI, bit_nI, bc_nI, bits_nI, lx0, lx1, lx2, lx3, lx4, lx5, lx6, lx7, lx8, lx9, lx10, lx11, lx16, lx20, lx40, lx60, lx90, lx99, lx100, lx200, lx900, lx999, lx9999, lN_add, lN_mul, nI_l, cl_le, cl_gt, cl_eq, pk_lEQ, pk_lDiv, ly0, ly1, ly2, ly100, h, h2]
    · have hg : 0 < Nat.gcd u d := Nat.gcd_pos_of_pos_right u (by omega)
      have hg2 : Nat.gcd u d ≤ d := Nat.gcd_le_right u (by omega)
      have hg4 : ¬ Nat.gcd u d = 0 := by omega
      simp (disch := omega) only [jb_some, jli, jif, jd_q, jd_K0, jpi_s, jpi_l, jpi_p, jpl_s, jpl_i, jpl_p, if_true, if_false, if_pos, if_neg, not_true_eq_false, not_false_eq_true, ite_true, ite_false, Nat.not_lt_zero, eq_self, Nat.le_refl, Nat.lt_irrefl, Bool.false_eq_true, or0, jo_pi, jo_pl, jia_pi, jia_pl, jo_cpy, jia_cpy, cpy_r, m_X11_grant, m_X11_refuse, m_X13_good, m_X13_refused, reduceCtorEq, nI_add, nI_leI, nI_ltI, nI_eq, pk_mul, abs_nI, max_nI, min_nI, nI_m1, nI_m2, nI_le1, m1_lt, m2_lt, and_nI, or_nI, an_nI, has_nI, bit_nI, bc_nI, bits_nI, lx0, lx1, lx2, lx3, lx4, lx5, lx6, lx7, lx8, lx9, lx10, lx11, lx16, lx20, lx40, lx60, lx90, lx99, lx100, lx200, lx900, lx999, lx9999, lN_add, lN_mul, nI_l, cl_le, cl_gt, cl_eq, pk_lEQ, pk_lDiv, ly0, ly1, ly2, ly100, h, h2, e1, jnz, hg4]
end
