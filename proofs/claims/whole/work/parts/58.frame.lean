/-! P (8): a question: what it leaves -/
theorem jo_pi {α : Type} {σ : jd_Hp} {a k : Nat} {v : Int32} {x : Nat × Nat} {o : Option Nat} {A : Nat → Option (α × jd_Hp)} : jd_o (jd_pi σ a k v) x o A = jd_o σ x o A := id rfl
theorem jo_pl {α : Type} {σ : jd_Hp} {a k : Nat} {v : Int64} {x : Nat × Nat} {o : Option Nat} {A : Nat → Option (α × jd_Hp)} : jd_o (jd_pl σ a k v) x o A = jd_o σ x o A := id rfl
theorem jia_pi {α : Type} {σ : jd_Hp} {a k : Nat} {v : Int32} {x : Nat} {o : Option Nat} {i : Int32} {A : Nat → Nat → Option (α × jd_Hp)} : jd_ia (jd_pi σ a k v) x o i A = jd_ia σ x o i A := id rfl
theorem jia_pl {α : Type} {σ : jd_Hp} {a k : Nat} {v : Int64} {x : Nat} {o : Option Nat} {i : Int32} {A : Nat → Nat → Option (α × jd_Hp)} : jd_ia (jd_pl σ a k v) x o i A = jd_ia σ x o i A := id rfl
theorem jo_cpy {α : Type} {σ : jd_Hp} {a n : Nat} {f : Nat → Int32} {x : Nat × Nat} {o : Option Nat} {A : Nat → Option (α × jd_Hp)} : jd_o (cpy σ a f n) x o A = jd_o σ x o A := id rfl
theorem jia_cpy {α : Type} {σ : jd_Hp} {a n : Nat} {f : Nat → Int32} {x : Nat} {o : Option Nat} {i : Int32} {A : Nat → Nat → Option (α × jd_Hp)} : jd_ia (cpy σ a f n) x o i A = jd_ia σ x o i A := id rfl
theorem jlp_h {S T : Type} {body : S → jd_Hp → Option ((S ⊕ T) × jd_Hp)} (N : Nat) (st : Nat → S) (hp : Nat → jd_Hp) (t : T) (σt : jd_Hp) {s0 : S} {σ0 : jd_Hp} {n : Nat} (hn : N < n) (h0 : s0 = st 0) (g0 : σ0 = hp 0)
    (hs : ∀ i, i < N → body (st i) (hp i) = some (.inl (st (i + 1)), hp (i + 1))) (hx : body (st N) (hp N) = some (.inr t, σt)) : jd_lp body n s0 σ0 = some (t, σt) := by
  subst h0
  subst g0
  exact jlp_for N st hp hs hx n hn
abbrev BO : Type := Option (Bch × Nw)
def DQ (a k : Nat) : Prop := a = 32 ∧ k = 11 ∨ a = 46 ∨ 97 ≤ a ∧ a ≤ 103 ∨ a = 106
def LQ (a : Nat) : Prop := a = 107 ∨ a = 108
def DM (a k : Nat) : Prop := a = 118 ∧ (k = 0 ∨ k = 1 ∨ k = 2 ∨ k = 24 ∨ k = 28) ∨ a = 121 ∨ 124 ≤ a ∧ a ≤ 129
def QX (t : Nat) (σ σ' : jd_Hp) : Prop := Fr DQ LQ σ σ' ∧ σ'.2.1 32 11 = nI t
def QM (t : Nat) (σ σ' : jd_Hp) : Prop := Fr DM L0 σ σ' ∧ σ'.2.1 118 1 = nI t ∧ σ'.2.1 118 2 = - nI 1
def OX {α : Type} (c : Option (α × jd_Hp)) (r : α × Nat) (σ : jd_Hp) : Prop := ∃ σ', c = some (r.1, σ') ∧ QX r.2 σ σ'
def OM {α : Type} (c : Option (α × jd_Hp)) (r : α × Nat) (σ : jd_Hp) : Prop := ∃ σ', c = some (r.1, σ') ∧ QM r.2 σ σ'
theorem OX_of {α : Type} {v : α} {t : Nat} {σ σ' : jd_Hp} (f : Fr DQ LQ σ σ') : OX (some (v, jd_pi σ' 32 11 (nI t))) (v, t) σ := ⟨_, rfl, Fr_pi f (Or.inl ⟨rfl, rfl⟩), pi_eq _ _ _ _⟩
theorem OM_of {α : Type} {v : α} {t : Nat} {σ σ' : jd_Hp} (f : Fr DM L0 σ σ') : OM (some (v, jd_pi (jd_pi σ' 118 1 (nI t)) 118 2 (- nI 1))) (v, t) σ := ⟨_, rfl, Fr_pi (Fr_pi f (Or.inl ⟨rfl, by omega⟩)) (Or.inl ⟨rfl, by omega⟩), by
  show (jd_pi _ 118 2 _).2.1 118 1 = _
  rw [pi_ne _ _ (by omega), pi_eq], pi_eq _ _ _ _⟩
def wtF (B : Bch) (s p : Nat) : Nat := if B 5 p = 0 then 1 else if decide (p = s) = decide (B 5 p = 2) then B 8 2 else 100 - B 8 2
def prN (f : Nat → Nat) : Nat → Nat
  | 0 => 1
  | n + 1 => prN f n * f n
def smN (f : Nat → Nat) : Nat → Nat
  | 0 => 0
  | n + 1 => smN f n + f n
def wt (B : Bch) (s : Nat) : Nat := prN (wtF B s) (B 8 3)
def SG (B : Bch) (σ : jd_Hp) : Prop := (∀ p, p < B 8 3 → σ.2.2.1 105 p = lN (wt B p)) ∧ σ.2.1 104 1 = nI (B 8 3) ∧ σ.2.2.1 104 2 = lN (smN (wt B) (B 8 3))
def RXc (o : BO) (T : Nat) (σ : jd_Hp) : Prop := Wd σ ∧ o.elim (σ.2.1 32 10 = nI 0) fun x => σ.2.1 32 10 = nI 1 ∧ CX x.1 x.2 T σ ∧ bOk x.1 ∧ nOk x.1 x.2 ∧ SG x.1 σ
def RMc (o : BO) (b : Nat) (σ : jd_Hp) : Prop := Wd σ ∧ o.elim (σ.2.2.2 118 3 = none) fun x => σ.2.2.2 118 3 = some b ∧ MT x.1 b σ ∧ MV x.1 x.2 σ ∧ bOk x.1 ∧ nOk x.1 x.2
def ixN (p : Int32) (n : Nat) : Option Nat := if ¬ p < 0 ∧ p.toNatClampNeg < n then some p.toNatClampNeg else none
def rgN (v : Int32) (lo hi : Nat) : Option Nat := if v < nI lo ∨ nI hi < v then none else some v.toNatClampNeg
theorem ixN_some {p : Int32} {n j : Nat} (h : ixN p n = some j) : j < n ∧ p = nI j := by
  unfold ixN at h
  split at h
  · rename_i h1
    injection h with h
    obtain ⟨k, hk, rfl⟩ := nI_of h1.1
    rw [nI_clamp hk] at h h1
    subst h
    exact ⟨h1.2, rfl⟩
  · exact absurd h (by simp)
theorem ixN_none {p : Int32} {n : Nat} (hn : n < 2 ^ 31) (h : ixN p n = none) : p < nI 0 ∨ ¬ p < nI 0 ∧ nI n ≤ p := by
  unfold ixN at h
  split at h
  · exact absurd h (by simp)
  · rename_i h1
    by_cases h2 : p < 0
    · exact Or.inl h2
    · obtain ⟨k, hk, rfl⟩ := nI_of h2
      rw [nI_clamp hk] at h1
      refine Or.inr ⟨h2, nI_le ?_ hk⟩
      by_cases h3 : k < n
      · exact absurd ⟨h2, h3⟩ h1
      · omega
theorem rgN_some {v : Int32} {lo hi j : Nat} (hh : hi < 2 ^ 31) (h : rgN v lo hi = some j) (hl : lo < 2 ^ 31) : v = nI j ∧ lo ≤ j ∧ j ≤ hi := by
  unfold rgN at h
  split at h
  · exact absurd h (by simp)
  · rename_i h1
    injection h with h
    have h2 : ¬ v < 0 := fun h3 => h1 (Or.inl (Int32.lt_of_lt_of_le h3 (nI_pos' hl)))
    obtain ⟨k, hk, rfl⟩ := nI_of h2
    rw [nI_clamp hk] at h
    subst h
    rw [nI_ltI hk hl, nI_ltI hh hk] at h1
    exact ⟨rfl, by omega, by omega⟩
theorem rgN_none {v : Int32} {lo hi : Nat} (h : rgN v lo hi = none) : v < nI lo ∨ ¬ v < nI lo ∧ nI hi < v := by
  unfold rgN at h
  split at h
  · rename_i h1
    by_cases h2 : v < nI lo
    · exact Or.inl h2
    · exact Or.inr ⟨h2, h1.resolve_left h2⟩
  · exact absurd h (by simp)
section
variable {B : Bch} {N : Nw} {T b : Nat} {σ σ' : jd_Hp} {p : Int32} {j : Nat}
theorem x_isPerson (h : CX B N T σ) (h10 : σ.2.1 32 10 = nI 1) (hb : bOk B) (p : Int32) : m_X11_isPerson 32 p σ = some (if (ixN p (B 8 3)).isSome then nI 1 else nI 0, σ) := by
  obtain ⟨⟨hW, hT, hS, hC, hN⟩, hD⟩ := h
  obtain ⟨b1, b2, b3, b4, b5, b6, b7, b8, b9, b10, bp⟩ := hb
  unfold m_X11_isPerson
  rcases hj : ixN p (B 8 3) with _ | j
  · rcases ixN_none (by omega) hj with h1 | ⟨h1, h2⟩
    · simp (disch := omega) only [jb_some, jli, jif, jd_q, jd_K0, jpi_s, jpi_l, jpi_p, jpl_s, jpl_i, jpl_p, if_true, if_false, if_pos, if_neg, not_true_eq_false, not_false_eq_true, ite_true, ite_false, Nat.not_lt_zero, eq_self, Nat.le_refl, Nat.lt_irrefl, Bool.false_eq_true, or0, cpy_r, reduceCtorEq, nI_add, nI_leI, nI_ltI, nI_eq, pk_mul, abs_nI, max_nI, min_nI, nI_m1, nI_m2, nI_le1, m1_lt, m2_lt, and_nI, or_nI, an_nI, has_nI, bit_nI, bc_nI, bits_nI, lx0, lx1, lx2, lx3, lx4, lx5, lx6, lx7, lx8, lx9, lx10, lx11, lx16, lx20, lx40, lx60, lx90, lx99, lx100, lx200, lx900, lx999, lx9999, jo_32 hW, jo_33 hW, jo_35 hW, jo_40 hW, jo_41 hW, jo_56 hW, jo_97 hW, jo_100 hW, jo_104 hW, jo_106 hW, jo_108 hW, ja_34 hW, ja_36 hW, ja_37 hW, ja_38 hW, ja_39 hW, ja_42 hW, ja_43 hW, ja_44 hW, ja_45 hW, ja_46 hW, ja_98 hW, ja_99 hW, ja_101 hW, ja_102 hW, ja_103 hW, wr_32_0 hW, wr_32_1 hW, wr_32_2 hW, wr_32_3 hW, wr_32_4 hW, wr_32_5 hW, wr_32_6 hW, wr_32_7 hW, wr_32_8 hW, wr_33_0 hW, wr_35_0 hW, wr_35_1 hW, wr_35_2 hW, wr_35_3 hW, wr_35_4 hW, wr_40_0 hW, wr_40_1 hW, wr_40_2 hW, wr_40_3 hW, wr_40_4 hW, wr_41_0 hW, wr_56_0 hW, wr_56_1 hW, wr_97_0 hW, wr_97_1 hW, wr_100_0 hW, wr_100_1 hW, wr_100_2 hW, wr_104_0 hW, wr_106_0 hW, joT hW hT, jaT1 hW hT, jaT2 hW hT, jaT3 hW hT, jaT4 hW hT, jaT5 hW hT, jaT6 hW hT, jaT7 hW hT, jaT8 hW hT, wrT0 hW hT, wrT1 hW hT, wrT2 hW hT, wrT3 hW hT, wrT4 hW hT, wrT5 hW hT, wrT6 hW hT, wrT7 hW hT, hS, ct_a0 hC, ct_a1 hC, ct_a2 hC, ct_a3 hC, ct_a4 hC, ct_a5 hC, ct_a6 hC, ct_a7 hC, ct_s0 hC, ct_s1 hC, ct_s2 hC, ct_s3 hC, ct_s4 hC, ct_s5 hC, ct_s6 hC, ct_s7 hC, cn_p hN, cn_m hN, cn_l hN, cn_t hN, h10, h1, Option.isSome]
    · simp (disch := omega) only [jb_some, jli, jif, jd_q, jd_K0, jpi_s, jpi_l, jpi_p, jpl_s, jpl_i, jpl_p, if_true, if_false, if_pos, if_neg, not_true_eq_false, not_false_eq_true, ite_true, ite_false, Nat.not_lt_zero, eq_self, Nat.le_refl, Nat.lt_irrefl, Bool.false_eq_true, or0, cpy_r, reduceCtorEq, nI_add, nI_leI, nI_ltI, nI_eq, pk_mul, abs_nI, max_nI, min_nI, nI_m1, nI_m2, nI_le1, m1_lt, m2_lt, and_nI, or_nI, an_nI, has_nI, bit_nI, bc_nI, bits_nI, lx0, lx1, lx2, lx3, lx4, lx5, lx6, lx7, lx8, lx9, lx10, lx11, lx16, lx20, lx40, lx60, lx90, lx99, lx100, lx200, lx900, lx999, lx9999, jo_32 hW, jo_33 hW, jo_35 hW, jo_40 hW, jo_41 hW, jo_56 hW, jo_97 hW, jo_100 hW, jo_104 hW, jo_106 hW, jo_108 hW, ja_34 hW, ja_36 hW, ja_37 hW, ja_38 hW, ja_39 hW, ja_42 hW, ja_43 hW, ja_44 hW, ja_45 hW, ja_46 hW, ja_98 hW, ja_99 hW, ja_101 hW, ja_102 hW, ja_103 hW, wr_32_0 hW, wr_32_1 hW, wr_32_2 hW, wr_32_3 hW, wr_32_4 hW, wr_32_5 hW, wr_32_6 hW, wr_32_7 hW, wr_32_8 hW, wr_33_0 hW, wr_35_0 hW, wr_35_1 hW, wr_35_2 hW, wr_35_3 hW, wr_35_4 hW, wr_40_0 hW, wr_40_1 hW, wr_40_2 hW, wr_40_3 hW, wr_40_4 hW, wr_41_0 hW, wr_56_0 hW, wr_56_1 hW, wr_97_0 hW, wr_97_1 hW, wr_100_0 hW, wr_100_1 hW, wr_100_2 hW, wr_104_0 hW, wr_106_0 hW, joT hW hT, jaT1 hW hT, jaT2 hW hT, jaT3 hW hT, jaT4 hW hT, jaT5 hW hT, jaT6 hW hT, jaT7 hW hT, jaT8 hW hT, wrT0 hW hT, wrT1 hW hT, wrT2 hW hT, wrT3 hW hT, wrT4 hW hT, wrT5 hW hT, wrT6 hW hT, wrT7 hW hT, hS, ct_a0 hC, ct_a1 hC, ct_a2 hC, ct_a3 hC, ct_a4 hC, ct_a5 hC, ct_a6 hC, ct_a7 hC, ct_s0 hC, ct_s1 hC, ct_s2 hC, ct_s3 hC, ct_s4 hC, ct_s5 hC, ct_s6 hC, ct_s7 hC, cn_p hN, cn_m hN, cn_l hN, cn_t hN, h10, h1, h2, Option.isSome]
  · obtain ⟨h1, rfl⟩ := ixN_some hj
    simp (disch := omega) only [jb_some, jli, jif, jd_q, jd_K0, jpi_s, jpi_l, jpi_p, jpl_s, jpl_i, jpl_p, if_true, if_false, if_pos, if_neg, not_true_eq_false, not_false_eq_true, ite_true, ite_false, Nat.not_lt_zero, eq_self, Nat.le_refl, Nat.lt_irrefl, Bool.false_eq_true, or0, cpy_r, reduceCtorEq, nI_add, nI_leI, nI_ltI, nI_eq, pk_mul, abs_nI, max_nI, min_nI, nI_m1, nI_m2, nI_le1, m1_lt, m2_lt, and_nI, or_nI, an_nI, has_nI, bit_nI, bc_nI, bits_nI, lx0, lx1, lx2, lx3, lx4, lx5, lx6, lx7, lx8, lx9, lx10, lx11, lx16, lx20, lx40, lx60, lx90, lx99, lx100, lx200, lx900, lx999, lx9999, jo_32 hW, jo_33 hW, jo_35 hW, jo_40 hW, jo_41 hW, jo_56 hW, jo_97 hW, jo_100 hW, jo_104 hW, jo_106 hW, jo_108 hW, ja_34 hW, ja_36 hW, ja_37 hW, ja_38 hW, ja_39 hW, ja_42 hW, ja_43 hW, ja_44 hW, ja_45 hW, ja_46 hW, ja_98 hW, ja_99 hW, ja_101 hW, ja_102 hW, ja_103 hW, wr_32_0 hW, wr_32_1 hW, wr_32_2 hW, wr_32_3 hW, wr_32_4 hW, wr_32_5 hW, wr_32_6 hW, wr_32_7 hW, wr_32_8 hW, wr_33_0 hW, wr_35_0 hW, wr_35_1 hW, wr_35_2 hW, wr_35_3 hW, wr_35_4 hW, wr_40_0 hW, wr_40_1 hW, wr_40_2 hW, wr_40_3 hW, wr_40_4 hW, wr_41_0 hW, wr_56_0 hW, wr_56_1 hW, wr_97_0 hW, wr_97_1 hW, wr_100_0 hW, wr_100_1 hW, wr_100_2 hW, wr_104_0 hW, wr_106_0 hW, joT hW hT, jaT1 hW hT, jaT2 hW hT, jaT3 hW hT, jaT4 hW hT, jaT5 hW hT, jaT6 hW hT, jaT7 hW hT, jaT8 hW hT, wrT0 hW hT, wrT1 hW hT, wrT2 hW hT, wrT3 hW hT, wrT4 hW hT, wrT5 hW hT, wrT6 hW hT, wrT7 hW hT, hS, ct_a0 hC, ct_a1 hC, ct_a2 hC, ct_a3 hC, ct_a4 hC, ct_a5 hC, ct_a6 hC, ct_a7 hC, ct_s0 hC, ct_s1 hC, ct_s2 hC, ct_s3 hC, ct_s4 hC, ct_s5 hC, ct_s6 hC, ct_s7 hC, cn_p hN, cn_m hN, cn_l hN, cn_t hN, h10, Option.isSome]
theorem x_isPost (h : CX B N T σ) (h10 : σ.2.1 32 10 = nI 1) (hb : bOk B) (p : Int32) : m_X11_isPost 32 p σ = some (if (ixN p (B 8 4)).isSome then nI 1 else nI 0, σ) := by
  obtain ⟨⟨hW, hT, hS, hC, hN⟩, hD⟩ := h
  obtain ⟨b1, b2, b3, b4, b5, b6, b7, b8, b9, b10, bp⟩ := hb
  unfold m_X11_isPost
  rcases hj : ixN p (B 8 4) with _ | j
  · rcases ixN_none (by omega) hj with h1 | ⟨h1, h2⟩
    · simp (disch := omega) only [jb_some, jli, jif, jd_q, jd_K0, jpi_s, jpi_l, jpi_p, jpl_s, jpl_i, jpl_p, if_true, if_false, if_pos, if_neg, not_true_eq_false, not_false_eq_true, ite_true, ite_false, Nat.not_lt_zero, eq_self, Nat.le_refl, Nat.lt_irrefl, Bool.false_eq_true, or0, cpy_r, reduceCtorEq, nI_add, nI_leI, nI_ltI, nI_eq, pk_mul, abs_nI, max_nI, min_nI, nI_m1, nI_m2, nI_le1, m1_lt, m2_lt, and_nI, or_nI, an_nI, has_nI, bit_nI, bc_nI, bits_nI, lx0, lx1, lx2, lx3, lx4, lx5, lx6, lx7, lx8, lx9, lx10, lx11, lx16, lx20, lx40, lx60, lx90, lx99, lx100, lx200, lx900, lx999, lx9999, jo_32 hW, jo_33 hW, jo_35 hW, jo_40 hW, jo_41 hW, jo_56 hW, jo_97 hW, jo_100 hW, jo_104 hW, jo_106 hW, jo_108 hW, ja_34 hW, ja_36 hW, ja_37 hW, ja_38 hW, ja_39 hW, ja_42 hW, ja_43 hW, ja_44 hW, ja_45 hW, ja_46 hW, ja_98 hW, ja_99 hW, ja_101 hW, ja_102 hW, ja_103 hW, wr_32_0 hW, wr_32_1 hW, wr_32_2 hW, wr_32_3 hW, wr_32_4 hW, wr_32_5 hW, wr_32_6 hW, wr_32_7 hW, wr_32_8 hW, wr_33_0 hW, wr_35_0 hW, wr_35_1 hW, wr_35_2 hW, wr_35_3 hW, wr_35_4 hW, wr_40_0 hW, wr_40_1 hW, wr_40_2 hW, wr_40_3 hW, wr_40_4 hW, wr_41_0 hW, wr_56_0 hW, wr_56_1 hW, wr_97_0 hW, wr_97_1 hW, wr_100_0 hW, wr_100_1 hW, wr_100_2 hW, wr_104_0 hW, wr_106_0 hW, joT hW hT, jaT1 hW hT, jaT2 hW hT, jaT3 hW hT, jaT4 hW hT, jaT5 hW hT, jaT6 hW hT, jaT7 hW hT, jaT8 hW hT, wrT0 hW hT, wrT1 hW hT, wrT2 hW hT, wrT3 hW hT, wrT4 hW hT, wrT5 hW hT, wrT6 hW hT, wrT7 hW hT, hS, ct_a0 hC, ct_a1 hC, ct_a2 hC, ct_a3 hC, ct_a4 hC, ct_a5 hC, ct_a6 hC, ct_a7 hC, ct_s0 hC, ct_s1 hC, ct_s2 hC, ct_s3 hC, ct_s4 hC, ct_s5 hC, ct_s6 hC, ct_s7 hC, cn_p hN, cn_m hN, cn_l hN, cn_t hN, h10, h1, Option.isSome]
    · simp (disch := omega) only [jb_some, jli, jif, jd_q, jd_K0, jpi_s, jpi_l, jpi_p, jpl_s, jpl_i, jpl_p, if_true, if_false, if_pos, if_neg, not_true_eq_false, not_false_eq_true, ite_true, ite_false, Nat.not_lt_zero, eq_self, Nat.le_refl, Nat.lt_irrefl, Bool.false_eq_true, or0, cpy_r, reduceCtorEq, nI_add, nI_leI, nI_ltI, nI_eq, pk_mul, abs_nI, max_nI, min_nI, nI_m1, nI_m2, nI_le1, m1_lt, m2_lt, and_nI, or_nI, an_nI, has_nI, bit_nI, bc_nI, bits_nI, lx0, lx1, lx2, lx3, lx4, lx5, lx6, lx7, lx8, lx9, lx10, lx11, lx16, lx20, lx40, lx60, lx90, lx99, lx100, lx200, lx900, lx999, lx9999, jo_32 hW, jo_33 hW, jo_35 hW, jo_40 hW, jo_41 hW, jo_56 hW, jo_97 hW, jo_100 hW, jo_104 hW, jo_106 hW, jo_108 hW, ja_34 hW, ja_36 hW, ja_37 hW, ja_38 hW, ja_39 hW, ja_42 hW, ja_43 hW, ja_44 hW, ja_45 hW, ja_46 hW, ja_98 hW, ja_99 hW, ja_101 hW, ja_102 hW, ja_103 hW, wr_32_0 hW, wr_32_1 hW, wr_32_2 hW, wr_32_3 hW, wr_32_4 hW, wr_32_5 hW, wr_32_6 hW, wr_32_7 hW, wr_32_8 hW, wr_33_0 hW, wr_35_0 hW, wr_35_1 hW, wr_35_2 hW, wr_35_3 hW, wr_35_4 hW, wr_40_0 hW, wr_40_1 hW, wr_40_2 hW, wr_40_3 hW, wr_40_4 hW, wr_41_0 hW, wr_56_0 hW, wr_56_1 hW, wr_97_0 hW, wr_97_1 hW, wr_100_0 hW, wr_100_1 hW, wr_100_2 hW, wr_104_0 hW, wr_106_0 hW, joT hW hT, jaT1 hW hT, jaT2 hW hT, jaT3 hW hT, jaT4 hW hT, jaT5 hW hT, jaT6 hW hT, jaT7 hW hT, jaT8 hW hT, wrT0 hW hT, wrT1 hW hT, wrT2 hW hT, wrT3 hW hT, wrT4 hW hT, wrT5 hW hT, wrT6 hW hT, wrT7 hW hT, hS, ct_a0 hC, ct_a1 hC, ct_a2 hC, ct_a3 hC, ct_a4 hC, ct_a5 hC, ct_a6 hC, ct_a7 hC, ct_s0 hC, ct_s1 hC, ct_s2 hC, ct_s3 hC, ct_s4 hC, ct_s5 hC, ct_s6 hC, ct_s7 hC, cn_p hN, cn_m hN, cn_l hN, cn_t hN, h10, h1, h2, Option.isSome]
  · obtain ⟨h1, rfl⟩ := ixN_some hj
    simp (disch := omega) only [jb_some, jli, jif, jd_q, jd_K0, jpi_s, jpi_l, jpi_p, jpl_s, jpl_i, jpl_p, if_true, if_false, if_pos, if_neg, not_true_eq_false, not_false_eq_true, ite_true, ite_false, Nat.not_lt_zero, eq_self, Nat.le_refl, Nat.lt_irrefl, Bool.false_eq_true, or0, cpy_r, reduceCtorEq, nI_add, nI_leI, nI_ltI, nI_eq, pk_mul, abs_nI, max_nI, min_nI, nI_m1, nI_m2, nI_le1, m1_lt, m2_lt, and_nI, or_nI, an_nI, has_nI, bit_nI, bc_nI, bits_nI, lx0, lx1, lx2, lx3, lx4, lx5, lx6, lx7, lx8, lx9, lx10, lx11, lx16, lx20, lx40, lx60, lx90, lx99, lx100, lx200, lx900, lx999, lx9999, jo_32 hW, jo_33 hW, jo_35 hW, jo_40 hW, jo_41 hW, jo_56 hW, jo_97 hW, jo_100 hW, jo_104 hW, jo_106 hW, jo_108 hW, ja_34 hW, ja_36 hW, ja_37 hW, ja_38 hW, ja_39 hW, ja_42 hW, ja_43 hW, ja_44 hW, ja_45 hW, ja_46 hW, ja_98 hW, ja_99 hW, ja_101 hW, ja_102 hW, ja_103 hW, wr_32_0 hW, wr_32_1 hW, wr_32_2 hW, wr_32_3 hW, wr_32_4 hW, wr_32_5 hW, wr_32_6 hW, wr_32_7 hW, wr_32_8 hW, wr_33_0 hW, wr_35_0 hW, wr_35_1 hW, wr_35_2 hW, wr_35_3 hW, wr_35_4 hW, wr_40_0 hW, wr_40_1 hW, wr_40_2 hW, wr_40_3 hW, wr_40_4 hW, wr_41_0 hW, wr_56_0 hW, wr_56_1 hW, wr_97_0 hW, wr_97_1 hW, wr_100_0 hW, wr_100_1 hW, wr_100_2 hW, wr_104_0 hW, wr_106_0 hW, joT hW hT, jaT1 hW hT, jaT2 hW hT, jaT3 hW hT, jaT4 hW hT, jaT5 hW hT, jaT6 hW hT, jaT7 hW hT, jaT8 hW hT, wrT0 hW hT, wrT1 hW hT, wrT2 hW hT, wrT3 hW hT, wrT4 hW hT, wrT5 hW hT, wrT6 hW hT, wrT7 hW hT, hS, ct_a0 hC, ct_a1 hC, ct_a2 hC, ct_a3 hC, ct_a4 hC, ct_a5 hC, ct_a6 hC, ct_a7 hC, ct_s0 hC, ct_s1 hC, ct_s2 hC, ct_s3 hC, ct_s4 hC, ct_s5 hC, ct_s6 hC, ct_s7 hC, cn_p hN, cn_m hN, cn_l hN, cn_t hN, h10, Option.isSome]
theorem y_isPerson (hS : σ.2.2.2 118 3 = some b) (hC : MT B b σ) (hb : bOk B) (p : Int32) : m_X13_isPerson 118 p σ = some (if (ixN p (B 8 3)).isSome then nI 1 else nI 0, σ) := by
  have b2 := hb.2.1
  unfold m_X13_isPerson
  rcases hj : ixN p (B 8 3) with _ | j
  · rcases ixN_none (by omega) hj with h1 | ⟨h1, h2⟩
    · simp (disch := omega) only [jb_some, jli, jif, jd_q, jd_K0, jpi_s, jpi_l, jpi_p, jpl_s, jpl_i, jpl_p, if_true, if_false, if_pos, if_neg, not_true_eq_false, not_false_eq_true, ite_true, ite_false, Nat.not_lt_zero, eq_self, Nat.le_refl, Nat.lt_irrefl, Bool.false_eq_true, or0, cpy_r, reduceCtorEq, nI_add, nI_leI, nI_ltI, nI_eq, pk_mul, abs_nI, max_nI, min_nI, nI_m1, nI_m2, nI_le1, m1_lt, m2_lt, and_nI, or_nI, an_nI, has_nI, bit_nI, bc_nI, bits_nI, lx0, lx1, lx2, lx3, lx4, lx5, lx6, lx7, lx8, lx9, lx10, lx11, lx16, lx20, lx40, lx60, lx90, lx99, lx100, lx200, lx900, lx999, lx9999, hS, h1, Option.isSome, reduceCtorEq, mb_o hC, mb_s3 hC]
    · simp (disch := omega) only [jb_some, jli, jif, jd_q, jd_K0, jpi_s, jpi_l, jpi_p, jpl_s, jpl_i, jpl_p, if_true, if_false, if_pos, if_neg, not_true_eq_false, not_false_eq_true, ite_true, ite_false, Nat.not_lt_zero, eq_self, Nat.le_refl, Nat.lt_irrefl, Bool.false_eq_true, or0, cpy_r, reduceCtorEq, nI_add, nI_leI, nI_ltI, nI_eq, pk_mul, abs_nI, max_nI, min_nI, nI_m1, nI_m2, nI_le1, m1_lt, m2_lt, and_nI, or_nI, an_nI, has_nI, bit_nI, bc_nI, bits_nI, lx0, lx1, lx2, lx3, lx4, lx5, lx6, lx7, lx8, lx9, lx10, lx11, lx16, lx20, lx40, lx60, lx90, lx99, lx100, lx200, lx900, lx999, lx9999, hS, h1, h2, Option.isSome, reduceCtorEq, mb_o hC, mb_s3 hC]
  · obtain ⟨h1, rfl⟩ := ixN_some hj
    simp (disch := omega) only [jb_some, jli, jif, jd_q, jd_K0, jpi_s, jpi_l, jpi_p, jpl_s, jpl_i, jpl_p, if_true, if_false, if_pos, if_neg, not_true_eq_false, not_false_eq_true, ite_true, ite_false, Nat.not_lt_zero, eq_self, Nat.le_refl, Nat.lt_irrefl, Bool.false_eq_true, or0, cpy_r, reduceCtorEq, nI_add, nI_leI, nI_ltI, nI_eq, pk_mul, abs_nI, max_nI, min_nI, nI_m1, nI_m2, nI_le1, m1_lt, m2_lt, and_nI, or_nI, an_nI, has_nI, bit_nI, bc_nI, bits_nI, lx0, lx1, lx2, lx3, lx4, lx5, lx6, lx7, lx8, lx9, lx10, lx11, lx16, lx20, lx40, lx60, lx90, lx99, lx100, lx200, lx900, lx999, lx9999, hS, Option.isSome, reduceCtorEq, mb_o hC, mb_s3 hC]
theorem y_isPost (hS : σ.2.2.2 118 3 = some b) (hC : MT B b σ) (hb : bOk B) (p : Int32) : m_X13_isPost 118 p σ = some (if (ixN p (B 8 4)).isSome then nI 1 else nI 0, σ) := by
  have b2 := hb.2.2.1
  unfold m_X13_isPost
  rcases hj : ixN p (B 8 4) with _ | j
  · rcases ixN_none (by omega) hj with h1 | ⟨h1, h2⟩
    · simp (disch := omega) only [jb_some, jli, jif, jd_q, jd_K0, jpi_s, jpi_l, jpi_p, jpl_s, jpl_i, jpl_p, if_true, if_false, if_pos, if_neg, not_true_eq_false, not_false_eq_true, ite_true, ite_false, Nat.not_lt_zero, eq_self, Nat.le_refl, Nat.lt_irrefl, Bool.false_eq_true, or0, cpy_r, reduceCtorEq, nI_add, nI_leI, nI_ltI, nI_eq, pk_mul, abs_nI, max_nI, min_nI, nI_m1, nI_m2, nI_le1, m1_lt, m2_lt, and_nI, or_nI, an_nI, has_nI, bit_nI, bc_nI, bits_nI, lx0, lx1, lx2, lx3, lx4, lx5, lx6, lx7, lx8, lx9, lx10, lx11, lx16, lx20, lx40, lx60, lx90, lx99, lx100, lx200, lx900, lx999, lx9999, hS, h1, Option.isSome, reduceCtorEq, mb_o hC, mb_s4 hC]
    · simp (disch := omega) only [jb_some, jli, jif, jd_q, jd_K0, jpi_s, jpi_l, jpi_p, jpl_s, jpl_i, jpl_p, if_true, if_false, if_pos, if_neg, not_true_eq_false, not_false_eq_true, ite_true, ite_false, Nat.not_lt_zero, eq_self, Nat.le_refl, Nat.lt_irrefl, Bool.false_eq_true, or0, cpy_r, reduceCtorEq, nI_add, nI_leI, nI_ltI, nI_eq, pk_mul, abs_nI, max_nI, min_nI, nI_m1, nI_m2, nI_le1, m1_lt, m2_lt, and_nI, or_nI, an_nI, has_nI, bit_nI, bc_nI, bits_nI, lx0, lx1, lx2, lx3, lx4, lx5, lx6, lx7, lx8, lx9, lx10, lx11, lx16, lx20, lx40, lx60, lx90, lx99, lx100, lx200, lx900, lx999, lx9999, hS, h1, h2, Option.isSome, reduceCtorEq, mb_o hC, mb_s4 hC]
  · obtain ⟨h1, rfl⟩ := ixN_some hj
    simp (disch := omega) only [jb_some, jli, jif, jd_q, jd_K0, jpi_s, jpi_l, jpi_p, jpl_s, jpl_i, jpl_p, if_true, if_false, if_pos, if_neg, not_true_eq_false, not_false_eq_true, ite_true, ite_false, Nat.not_lt_zero, eq_self, Nat.le_refl, Nat.lt_irrefl, Bool.false_eq_true, or0, cpy_r, reduceCtorEq, nI_add, nI_leI, nI_ltI, nI_eq, pk_mul, abs_nI, max_nI, min_nI, nI_m1, nI_m2, nI_le1, m1_lt, m2_lt, and_nI, or_nI, an_nI, has_nI, bit_nI, bc_nI, bits_nI, lx0, lx1, lx2, lx3, lx4, lx5, lx6, lx7, lx8, lx9, lx10, lx11, lx16, lx20, lx40, lx60, lx90, lx99, lx100, lx200, lx900, lx999, lx9999, hS, Option.isSome, reduceCtorEq, mb_o hC, mb_s4 hC]
theorem y_in (v : Int32) (lo hi : Nat) (hl : lo < 2 ^ 31) (hh : hi < 2 ^ 31) : m_X13_in v (nI lo) (nI hi) σ = some (if (rgN v lo hi).isSome then nI 1 else nI 0, σ) := by
  unfold m_X13_in
  rcases hj : rgN v lo hi with _ | j
  · rcases rgN_none hj with h1 | ⟨h1, h2⟩
    · simp (disch := omega) only [jb_some, jli, jif, jd_q, jd_K0, jpi_s, jpi_l, jpi_p, jpl_s, jpl_i, jpl_p, if_true, if_false, if_pos, if_neg, not_true_eq_false, not_false_eq_true, ite_true, ite_false, Nat.not_lt_zero, eq_self, Nat.le_refl, Nat.lt_irrefl, Bool.false_eq_true, or0, cpy_r, reduceCtorEq, nI_add, nI_leI, nI_ltI, nI_eq, pk_mul, abs_nI, max_nI, min_nI, nI_m1, nI_m2, nI_le1, m1_lt, m2_lt, and_nI, or_nI, an_nI, has_nI, bit_nI, bc_nI, bits_nI, lx0, lx1, lx2, lx3, lx4, lx5, lx6, lx7, lx8, lx9, lx10, lx11, lx16, lx20, lx40, lx60, lx90, lx99, lx100, lx200, lx900, lx999, lx9999, h1, Option.isSome]
    · simp (disch := omega) only [jb_some, jli, jif, jd_q, jd_K0, jpi_s, jpi_l, jpi_p, jpl_s, jpl_i, jpl_p, if_true, if_false, if_pos, if_neg, not_true_eq_false, not_false_eq_true, ite_true, ite_false, Nat.not_lt_zero, eq_self, Nat.le_refl, Nat.lt_irrefl, Bool.false_eq_true, or0, cpy_r, reduceCtorEq, nI_add, nI_leI, nI_ltI, nI_eq, pk_mul, abs_nI, max_nI, min_nI, nI_m1, nI_m2, nI_le1, m1_lt, m2_lt, and_nI, or_nI, an_nI, has_nI, bit_nI, bc_nI, bits_nI, lx0, lx1, lx2, lx3, lx4, lx5, lx6, lx7, lx8, lx9, lx10, lx11, lx16, lx20, lx40, lx60, lx90, lx99, lx100, lx200, lx900, lx999, lx9999, h1, h2, Option.isSome]
  · obtain ⟨rfl, h1, h2⟩ := rgN_some hh hj hl
    have h3 : ¬ j < lo := by omega
    have h4 : ¬ hi < j := by omega
    simp (disch := omega) only [jb_some, jli, jif, jd_q, jd_K0, jpi_s, jpi_l, jpi_p, jpl_s, jpl_i, jpl_p, if_true, if_false, if_pos, if_neg, not_true_eq_false, not_false_eq_true, ite_true, ite_false, Nat.not_lt_zero, eq_self, Nat.le_refl, Nat.lt_irrefl, Bool.false_eq_true, or0, cpy_r, reduceCtorEq, nI_add, nI_leI, nI_ltI, nI_eq, pk_mul, abs_nI, max_nI, min_nI, nI_m1, nI_m2, nI_le1, m1_lt, m2_lt, and_nI, or_nI, an_nI, has_nI, bit_nI, bc_nI, bits_nI, lx0, lx1, lx2, lx3, lx4, lx5, lx6, lx7, lx8, lx9, lx10, lx11, lx16, lx20, lx40, lx60, lx90, lx99, lx100, lx200, lx900, lx999, lx9999, h3, h4, Option.isSome]
theorem MT_of (h : MT B b σ) (e1 : σ'.1 = σ.1) (e2 : σ'.2.2.2 = σ.2.2.2) (e : ∀ a k, b ≤ a → σ'.2.1 a k = σ.2.1 a k) : MT B b σ' := by
  obtain ⟨h0, h1, h2, h3, h4, h5, h6, h7⟩ := h
  unfold MT
  rw [e1, e2]
  exact ⟨h0, h1, h2, h3, h4, fun i hi => (e _ _ (by omega)).trans (h5 i hi), fun k p hk hp => (e _ _ (by omega)).trans (h6 k p hk hp), fun k q hk hq => (e _ _ (by omega)).trans (h7 k q hk hq)⟩
theorem MV_of (h : MV B N σ) (e : ∀ k, σ'.2.1 120 k = σ.2.1 120 k) : MV B N σ' := ⟨fun p hp => (e _).trans (h.1 p hp), (e _).trans h.2.1, (e _).trans h.2.2.1, (e _).trans h.2.2.2⟩
theorem RMc_fr {o : BO} {L : Nat → Prop} (h : RMc o b σ) (f : Fr DM L σ σ') : RMc o b σ' := by
  obtain ⟨hW, h⟩ := h
  refine ⟨Fr_Wd f hW, ?_⟩
  rcases o with _ | ⟨B, N⟩
  · show σ'.2.2.2 118 3 = none
    rw [f.2.1]
    exact h
  · obtain ⟨h1, h2, h3, h4, h5⟩ := h
    refine ⟨?_, MT_of h2 f.1 f.2.1 fun a k ha => f.2.2.1 a k ?_, MV_of h3 fun k => f.2.2.1 120 k ?_, h4, h5⟩
    · rw [f.2.1]
      exact h1
    · have := h2.1
      unfold DM
      omega
    · unfold DM
      omega
theorem RXc_fr {o : BO} (h : RXc o T σ) (f : Fr DQ LQ σ σ') : RXc o T σ' := by
  obtain ⟨hW, h⟩ := h
  refine ⟨Fr_Wd f hW, ?_⟩
  have g : ∀ a k, ¬ DQ a k → σ'.2.1 a k = σ.2.1 a k := f.2.2.1
  rcases o with _ | ⟨B, N⟩
  · show σ'.2.1 32 10 = nI 0
    rw [g 32 10 (by unfold DQ; omega)]
    exact h
  · obtain ⟨h1, ⟨⟨hW', hT, hS, hC, hN⟩, c1, c2, c3, c4, c5⟩, h4, h5, s1, s2, s3⟩ := h
    refine ⟨?_, ⟨⟨Fr_Wd f hW, hT, by rw [f.2.1]; exact hS, CT_of hC fun a k h1 h2 => g a k ?_, CN_of hN fun a k h1 => g a k ?_⟩, fun p hp => ?_, fun p hp => ?_, fun p hp => ?_, ?_, ?_⟩, h4, h5, fun p hp => ?_, ?_, ?_⟩
    · rw [g 32 10 (by unfold DQ; omega)]
      exact h1
    · unfold DQ
      omega
    · unfold DQ
      omega
    · rw [g 43 p (by unfold DQ; omega)]
      exact c1 p hp
    · rw [g 44 p (by unfold DQ; omega)]
      exact c2 p hp
    · rw [g 45 p (by unfold DQ; omega)]
      exact c3 p hp
    · rw [g 40 6 (by unfold DQ; omega)]
      exact c4
    · rw [g 40 7 (by unfold DQ; omega)]
      exact c5
    · rw [f.2.2.2 105 p (by unfold LQ; omega)]
      exact s1 p hp
    · rw [g 104 1 (by unfold DQ; omega)]
      exact s2
    · rw [f.2.2.2 104 2 (by unfold LQ; omega)]
      exact s3
/-- what the reference works on -/
def wk (σ : jd_Hp) : jd_Hp := cpy σ 121 (σ.2.1 120) 9
theorem y_works (hW : Wd σ) : m_X13_works 118 σ = some ((), wk σ) := by
  unfold m_X13_works
  rw [jlp_h 9 (fun i => nI i) (fun i => cpy σ 121 (σ.2.1 120) i) () (wk σ) (jfu (by omega)) ?_ ?_ ?_ ?_]
  · rfl
  · rfl
  · exact (cpy_0 _ _ _).symm
  · intro i hi
    have h1 : ¬ 9 ≤ i := by omega
    simp (disch := omega) only [jb_some, jli, jif, jd_q, jd_K0, jpi_s, jpi_l, jpi_p, jpl_s, jpl_i, jpl_p, if_true, if_false, if_pos, if_neg, not_true_eq_false, not_false_eq_true, ite_true, ite_false, Nat.not_lt_zero, eq_self, Nat.le_refl, Nat.lt_irrefl, Bool.false_eq_true, or0, cpy_r, reduceCtorEq, nI_add, nI_leI, nI_ltI, nI_eq, pk_mul, abs_nI, max_nI, min_nI, nI_m1, nI_m2, nI_le1, m1_lt, m2_lt, and_nI, or_nI, an_nI, has_nI, bit_nI, bc_nI, bits_nI, lx0, lx1, lx2, lx3, lx4, lx5, lx6, lx7, lx8, lx9, lx10, lx11, lx16, lx20, lx40, lx60, lx90, lx99, lx100, lx200, lx900, lx999, lx9999, jo_118 hW, ja_119 hW, ja_120 hW, ja_121 hW, ja_122 hW, ja_123 hW, ja_124 hW, ja_125 hW, ja_126 hW, ja_127 hW, ja_128 hW, ja_129 hW, wr_118_5 hW, wr_118_15 hW, wr_118_16 hW, wr_118_17 hW, wr_118_18 hW, wr_118_21 hW, wr_118_22 hW, wr_118_23 hW, wr_118_25 hW, wr_118_26 hW, wr_118_27 hW, h1, jo_cpy, jia_cpy, cpy_r]
    rw [← cpy_s, cpy_i, if_neg (by omega)]
  · simp (disch := omega) only [jb_some, jli, jif, jd_q, jd_K0, jpi_s, jpi_l, jpi_p, jpl_s, jpl_i, jpl_p, if_true, if_false, if_pos, if_neg, not_true_eq_false, not_false_eq_true, ite_true, ite_false, Nat.not_lt_zero, eq_self, Nat.le_refl, Nat.lt_irrefl, Bool.false_eq_true, or0, cpy_r, reduceCtorEq, nI_add, nI_leI, nI_ltI, nI_eq, pk_mul, abs_nI, max_nI, min_nI, nI_m1, nI_m2, nI_le1, m1_lt, m2_lt, and_nI, or_nI, an_nI, has_nI, bit_nI, bc_nI, bits_nI, lx0, lx1, lx2, lx3, lx4, lx5, lx6, lx7, lx8, lx9, lx10, lx11, lx16, lx20, lx40, lx60, lx90, lx99, lx100, lx200, lx900, lx999, lx9999, jo_118 hW, ja_119 hW, ja_120 hW, ja_121 hW, ja_122 hW, ja_123 hW, ja_124 hW, ja_125 hW, ja_126 hW, ja_127 hW, ja_128 hW, ja_129 hW, wr_118_5 hW, wr_118_15 hW, wr_118_16 hW, wr_118_17 hW, wr_118_18 hW, wr_118_21 hW, wr_118_22 hW, wr_118_23 hW, wr_118_25 hW, wr_118_26 hW, wr_118_27 hW]
    rfl
theorem wk_fr (σ : jd_Hp) : Fr DM L0 σ (wk σ) := ⟨rfl, rfl, fun a k h => by
  show (cpy σ 121 _ 9).2.1 a k = _
  rw [cpy_i, if_neg]
  intro h1
  exact h (Or.inr (Or.inl h1.1)), fun _ _ _ => rfl⟩
theorem wk_MA (hW : Wd σ) (hS : σ.2.2.2 118 3 = some b) (hC : MT B b σ) (hV : MV B N σ) (hb : bOk B) : MA B N b (wk σ) := by
  have b2 := hb.2.1
  refine ⟨hW, hS, MT_of hC rfl rfl fun a k ha => ?_, fun p hp => ?_, ?_, ?_, ?_⟩
  · have := hC.1
    show (cpy σ 121 _ 9).2.1 a k = _
    rw [cpy_i, if_neg (by omega)]
  · show (cpy σ 121 _ 9).2.1 121 p = _
    rw [cpy_i, if_pos ⟨rfl, by omega⟩]
    exact hV.1 p hp
  · show (cpy σ 121 _ 9).2.1 121 6 = _
    rw [cpy_i, if_pos ⟨rfl, by omega⟩]
    exact hV.2.1
  · show (cpy σ 121 _ 9).2.1 121 7 = _
    rw [cpy_i, if_pos ⟨rfl, by omega⟩]
    exact hV.2.2.1
  · show (cpy σ 121 _ 9).2.1 121 8 = _
    rw [cpy_i, if_pos ⟨rfl, by omega⟩]
    exact hV.2.2.2
theorem wk_MV (hV : MV B N σ) : MV B N (wk σ) := MV_of hV fun k => by
  show (cpy σ 121 _ 9).2.1 120 k = _
  rw [cpy_i, if_neg (by omega)]
end
