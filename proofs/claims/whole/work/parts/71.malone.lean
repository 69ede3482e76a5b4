/-! P (21): one guard alone, the reference -/
def Rn {S T : Type} (body : S → jd_Hp → Option ((S ⊕ T) × jd_Hp)) (k : Nat) (s : S) (σ : jd_Hp) (s' : S) (σ' : jd_Hp) : Prop := ∀ f, jd_lp body (f + k) s σ = jd_lp body f s' σ'
section
variable {S T : Type} {body : S → jd_Hp → Option ((S ⊕ T) × jd_Hp)} {j k : Nat} {s s' s'' : S} {σ σ' σ'' σt : jd_Hp} {t : T}
theorem Rn_1 (h : body s σ = some (.inl s', σ')) : Rn body 1 s σ s' σ' := fun f => by
  show jd_b (body s σ) _ = _
  rw [h]
  rfl
theorem Rn_tr (h : Rn body k s σ s' σ') (g : Rn body j s' σ' s'' σ'') : Rn body (j + k) s σ s'' σ'' := fun f => by
  rw [← Nat.add_assoc, h (f + j), g f]
theorem Rn_end (h : Rn body k s σ s' σ') (g : body s' σ' = some (.inr t, σt)) {n : Nat} (hn : k < n) : jd_lp body n s σ = some (t, σt) := by
  obtain ⟨f, rfl⟩ : ∃ f, n = f + 1 + k := ⟨n - 1 - k, by omega⟩
  rw [h (f + 1)]
  show jd_b (body s' σ') _ = _
  rw [g]
  rfl
end
def alI (q n u a : Int32) (σ : jd_Hp) : Option (Int32 × jd_Hp) := jd_lp (S := Int32) (T := Int32) (fun s20 σ20 =>
jd_o σ20 (13, 29) (some 118) fun a22 =>
jd_o σ20 (12, 20) (σ20.2.2.2 a22 3) fun a23 =>
jd_if ((σ20.2.1 a23 3) ≤ s20) (
some ((Sum.inr s20), σ20)) (
jd_b (m_X13_bit u s20 σ20) fun r24 σ24 =>
jd_if (¬ r24 = 0) (
some (Sum.inl (s20 + 1), σ24)) (
jd_ia σ24 20 (σ24.2.2.2 a22 22) n fun a25 j25 =>
jd_b (m_X13_freeBehind a22 q s20 (σ24.2.1 a25 j25) σ24) fun r26 σ26 =>
jd_if (¬ r26 = 9999) (
some ((Sum.inr s20), σ26)) (
some (Sum.inl (s20 + 1), σ26))))) jd_fu a σ
def alC (x46 : Int32) (σ : jd_Hp) : Option (Unit × jd_Hp) := jd_lp (S := Int32) (T := Unit) (fun s49 σ49 =>
jd_if (x46 ≤ s49) (
some ((Sum.inr ()), σ49)) (
jd_o σ49 (13, 29) (some 118) fun a51 =>
jd_ia σ49 20 (σ49.2.2.2 a51 21) s49 fun a52 j52 =>
jd_ia σ49 20 (σ49.2.2.2 a51 23) s49 fun a53 j53 =>
jd_li (jd_pi σ49 a53 j53 (σ49.2.1 a52 j52)) fun τ54 =>
some (Sum.inl (s49 + 1), τ54))) jd_fu 0 σ
def alB (q : Int32) (s8 : Int32 × Int32 × Int32) (σ8 : jd_Hp) : Option (((Int32 × Int32 × Int32) ⊕ Int32) × jd_Hp) :=
jd_if (s8.2.2 < 0) (
some ((Sum.inr s8.1), σ8)) (
jd_o σ8 (13, 29) (some 118) fun a10 =>
jd_ia σ8 20 (σ8.2.2.2 a10 21) s8.2.2 fun a11 j11 =>
jd_b (α := Int32) (
jd_if ((σ8.2.1 a11 j11) < 0) (
some (s8.2.1, σ8)) (
jd_ia σ8 20 (σ8.2.2.2 a10 21) s8.2.2 fun a15 j15 =>
jd_li (s8.2.1 &&& ((1 <<< ((σ8.2.1 a15 j15) &&& 31)) ^^^ (-1))) fun x16 =>
some (x16, σ8))) fun t14 σ14 =>
jd_o σ14 (13, 29) (some 118) fun a17 =>
jd_ia σ14 20 (σ14.2.2.2 a17 21) s8.2.2 fun a18 j18 =>
jd_li ((σ14.2.1 a18 j18) + 1) fun x19 =>
jd_b (alI q s8.2.2 t14 x19 σ14) fun t21 σ21 =>
jd_o σ21 (13, 29) (some 118) fun a27 =>
jd_o σ21 (12, 20) (σ21.2.2.2 a27 3) fun a28 =>
jd_if (¬ t21 = (σ21.2.1 a28 3)) (
jd_ia σ21 20 (σ21.2.2.2 a27 21) s8.2.2 fun a29 j29 =>
jd_li (jd_pi σ21 a29 j29 t21) fun τ30 =>
jd_li (t14 ||| (1 <<< (t21 &&& 31))) fun x31 =>
jd_ia τ30 20 (τ30.2.2.2 a27 22) s8.2.2 fun a32 j32 =>
jd_b (m_X13_freeBehind a27 q t21 (τ30.2.1 a32 j32) τ30) fun r33 σ33 =>
jd_ia σ33 20 (τ30.2.2.2 a27 22) (s8.2.2 + 1) fun a34 j34 =>
jd_li (jd_pi σ33 a34 j34 r33) fun τ35 =>
jd_b (α := Int32) (
jd_if ((s8.2.2 + 1) ≤ s8.1) (
some (s8.1, τ35)) (
jd_li (s8.2.2 + 1) fun x46 =>
jd_ia τ35 20 (τ35.2.2.2 a27 22) x46 fun a47 j47 =>
jd_li (jd_pi τ35 a27 24 (τ35.2.1 a47 j47)) fun τ48 =>
jd_b (alC x46 τ48) fun t50 σ50 =>
some (x46, σ50))) fun t45 σ45 =>
jd_o σ45 (13, 29) (some 118) fun a55 =>
jd_ia σ45 20 (σ45.2.2.2 a55 21) (s8.2.2 + 1) fun a56 j56 =>
jd_li (jd_pi σ45 a56 j56 (-1)) fun τ57 =>
some (Sum.inl (t45, x31, (s8.2.2 + 1)), τ57)) (
some (Sum.inl (s8.1, t14, (s8.2.2 + (-1))), σ21)))
theorem alones_eq (q : Int32) (σ : jd_Hp) : m_X13_alones 118 q σ = 
jd_ia σ 20 (σ.2.2.2 118 15) 8 fun a1 j1 =>
jd_ia σ 20 (σ.2.2.2 118 22) 0 fun a2 j2 =>
jd_li (jd_pi σ a2 j2 (σ.2.1 a1 j1)) fun τ3 =>
jd_ia τ3 20 (τ3.2.2.2 118 22) 0 fun a4 j4 =>
jd_li (jd_pi τ3 118 24 (τ3.2.1 a4 j4)) fun τ5 =>
jd_ia τ5 20 (τ5.2.2.2 118 21) 0 fun a6 j6 =>
jd_li (jd_pi τ5 a6 j6 (-1)) fun τ7 =>
jd_b (jd_lp (alB q) jd_fu (0, 0, 0) τ7) fun t9 σ9 =>
some (t9, σ9) := id rfl
def AQ (s : AS) (σ : jd_Hp) : Prop := σ.2.1 118 24 = nI s.1 ∧ ∀ i, i < s.2.length → σ.2.1 126 i = nI (s.2.getD i 0)
def AW (r : List Nat) (σ : jd_Hp) : Prop := ∀ i, i < r.length → σ.2.1 124 i = nI (r.getD i 0)
def DL (a k : Nat) : Prop := a = 118 ∧ k = 24 ∨ a = 124 ∨ a = 125 ∨ a = 126
def li1 (o : Option Nat) : Int32 := o.elim (- nI 1) nI
def ul (u : Nat) (o : Option Nat) : Nat := o.elim u fun p => u ||| 2 ^ p
def lo1 (o : Option Nat) : Nat := o.elim 0 fun p => p + 1
def KA : Nat → Nat
  | 0 => 1
  | d + 1 => (d + 1) * (1 + KA d) + 1
def uc (u c : Nat) : Nat → Nat
  | 0 => 0
  | m + 1 => (if u.testBit c then 0 else 1) + uc u (c + 1) m
theorem fin_uc : ∀ u, u < 64 → ∀ n, n < 7 → uc u 0 n + pc u ≤ 6 := by decide +kernel
theorem fin_u6 : ∀ u, u < 64 → pc u = 6 → ∀ p, p < 6 → u.testBit p = true := by decide +kernel
theorem m11 : - nI 1 + nI 1 = nI 0 := by decide
theorem m1_ltk {a : Nat} (ha : a < 2 ^ 31) : (- nI 1 < nI a) = True := by
  refine eq_true ?_
  rw [Int32.lt_iff_toInt_lt, nI_toInt ha]
  have : (- nI 1).toInt = -1 := by decide +kernel
  omega
theorem nI_dec (n : Nat) : nI (n + 1) + - nI 1 = nI n := by
  rw [← Int32.sub_eq_add_neg, nI_sub (by omega)]
  rfl
section
variable {B : Bch} {N : Nw} {b : Nat} {σ σ' : jd_Hp}
theorem DL_DM (f : Fr DL L0 σ σ') : Fr DM L0 σ σ' := Fr_mono f (fun a k h => by
  unfold DL at h
  unfold DM
  omega) (fun a h => h)
theorem MA_fr (h : MA B N b σ) (f : Fr DL L0 σ σ') : MA B N b σ' := by
  obtain ⟨hW, hS, hC, h1, h2, h3, h4⟩ := h
  have g : ∀ k, σ'.2.1 121 k = σ.2.1 121 k := fun k => f.2.2.1 121 k (by unfold DL; omega)
  exact ⟨Fr_Wd f hW, by rw [f.2.1]; exact hS, MT_fr hC (DL_DM f), fun p hp => (g p).trans (h1 p hp), (g 6).trans h2, (g 7).trans h3, (g 8).trans h4⟩
set_option maxHeartbeats 4000000 in
theorem y_freeBehind (h : MA B N b σ) (hb : bOk B) (hn : nOk B N) {q p f : Nat} (hq : q < B 8 4) (hp : p < B 8 3) (hf : f ≤ 999) : m_X13_freeBehind 118 (nI q) (nI p) (nI f) σ = some (nI ((fb1 B N q f p).elim 9999 id), σ) := by
  have e1 := y_sinksAt h hb hn hp
  have e2 := y_timeTo h hb hn hq hp
  have b2 := hb.2.1
  have b5 := hb.2.2.2.2.1
  have e5 := time_le hb (hn.1 p (by omega)) q
  obtain ⟨hW, hS, hC, hX⟩ := h
  unfold m_X13_freeBehind
  rcases hs : sink B N p with _ | t
  · have e1' : m_X13_sinksAt 118 (nI p) σ = some (nI 9999, σ) := by
      rw [hs] at e1
      exact e1
    have hf0 : fb1 B N q f p = none := by simp [fb1, hs]
    simp (disch := omega) only [jb_some, jli, jif, jd_q, jd_K0, jpi_s, jpi_l, jpi_p, jpl_s, jpl_i, jpl_p, if_true, if_false, if_pos, if_neg, not_true_eq_false, not_false_eq_true, ite_true, ite_false, Nat.not_lt_zero, eq_self, Nat.le_refl, Nat.lt_irrefl, Bool.false_eq_true, or0, jo_pi, jo_pl, jia_pi, jia_pl, jo_cpy, jia_cpy, cpy_r, m_X11_grant, m_X11_refuse, m_X13_good, m_X13_refused, reduceCtorEq, nI_add, nI_leI, nI_ltI, nI_eq, pk_mul, abs_nI, max_nI, min_nI, nI_m1, nI_m2, nI_le1, m1_lt, m2_lt, and_nI, or_nI, an_nI, has_nI, bit_nI, bc_nI, bits_nI, lx0, lx1, lx2, lx3, lx4, lx5, lx6, lx7, lx8, lx9, lx10, lx11, lx16, lx20, lx40, lx60, lx90, lx99, lx100, lx200, lx900, lx999, lx9999, jo_118 hW, ja_119 hW, ja_120 hW, ja_121 hW, ja_122 hW, ja_123 hW, ja_124 hW, ja_125 hW, ja_126 hW, ja_127 hW, ja_128 hW, ja_129 hW, wr_118_5 hW, wr_118_15 hW, wr_118_16 hW, wr_118_17 hW, wr_118_18 hW, wr_118_21 hW, wr_118_22 hW, wr_118_23 hW, wr_118_25 hW, wr_118_26 hW, wr_118_27 hW, hS, mb_o hC, mb_j0 hC, mb_j1 hC, mb_j2 hC, mb_j3 hC, mb_j4 hC, mb_j5 hC, mb_j6 hC, mb_j7 hC, mb_r0 hC, mb_r1 hC, mb_r2 hC, mb_r3 hC, mb_r4 hC, mb_r5 hC, mb_r6 hC, mb_r7 hC, mb_a0 hC, mb_a1 hC, mb_a2 hC, mb_a3 hC, mb_a4 hC, mb_a5 hC, mb_a6 hC, mb_a7 hC, mb_s0 hC, mb_s1 hC, mb_s2 hC, mb_s3 hC, mb_s4 hC, mb_s5 hC, mb_s6 hC, mb_s7 hC, mx_p hX, mx_6 hX, mx_7 hX, mx_8 hX, e1', hf0, Option.elim]
  · have e1' : m_X13_sinksAt 118 (nI p) σ = some (nI t, σ) := by
      rw [hs] at e1
      exact e1
    have e4 := sink_le hb hs
    have n9 : ¬ t = 9999 := by omega
    by_cases hg : max f t + time B N q p ≤ t + B 8 0
    · have hf1 : fb1 B N q f p = some (max f t + time B N q p + time B N q p) := by simp [fb1, hs, hg]
      by_cases hft : f ≤ t
      · have hm : max f t = t := by omega
        rw [hm] at hg hf1
        simp (disch := omega) only [jb_some, jli, jif, jd_q, jd_K0, jpi_s, jpi_l, jpi_p, jpl_s, jpl_i, jpl_p, if_true, if_false, if_pos, if_neg, not_true_eq_false, not_false_eq_true, ite_true, ite_false, Nat.not_lt_zero, eq_self, Nat.le_refl, Nat.lt_irrefl, Bool.false_eq_true, or0, jo_pi, jo_pl, jia_pi, jia_pl, jo_cpy, jia_cpy, cpy_r, m_X11_grant, m_X11_refuse, m_X13_good, m_X13_refused, reduceCtorEq, nI_add, nI_leI, nI_ltI, nI_eq, pk_mul, abs_nI, max_nI, min_nI, nI_m1, nI_m2, nI_le1, m1_lt, m2_lt, and_nI, or_nI, an_nI, has_nI, bit_nI, bc_nI, bits_nI, lx0, lx1, lx2, lx3, lx4, lx5, lx6, lx7, lx8, lx9, lx10, lx11, lx16, lx20, lx40, lx60, lx90, lx99, lx100, lx200, lx900, lx999, lx9999, jo_118 hW, ja_119 hW, ja_120 hW, ja_121 hW, ja_122 hW, ja_123 hW, ja_124 hW, ja_125 hW, ja_126 hW, ja_127 hW, ja_128 hW, ja_129 hW, wr_118_5 hW, wr_118_15 hW, wr_118_16 hW, wr_118_17 hW, wr_118_18 hW, wr_118_21 hW, wr_118_22 hW, wr_118_23 hW, wr_118_25 hW, wr_118_26 hW, wr_118_27 hW, hS, mb_o hC, mb_j0 hC, mb_j1 hC, mb_j2 hC, mb_j3 hC, mb_j4 hC, mb_j5 hC, mb_j6 hC, mb_j7 hC, mb_r0 hC, mb_r1 hC, mb_r2 hC, mb_r3 hC, mb_r4 hC, mb_r5 hC, mb_r6 hC, mb_r7 hC, mb_a0 hC, mb_a1 hC, mb_a2 hC, mb_a3 hC, mb_a4 hC, mb_a5 hC, mb_a6 hC, mb_a7 hC, mb_s0 hC, mb_s1 hC, mb_s2 hC, mb_s3 hC, mb_s4 hC, mb_s5 hC, mb_s6 hC, mb_s7 hC, mx_p hX, mx_6 hX, mx_7 hX, mx_8 hX, e1', e2, hf1, Option.elim, id, hft, hg, n9]
      · have hm : max f t = f := by omega
        rw [hm] at hg hf1
        simp (disch := omega) only [jb_some, jli, jif, jd_q, jd_K0, jpi_s, jpi_l, jpi_p, jpl_s, jpl_i, jpl_p, if_true, if_false, if_pos, if_neg, not_true_eq_false, not_false_eq_true, ite_true, ite_false, Nat.not_lt_zero, eq_self, Nat.le_refl, Nat.lt_irrefl, Bool.false_eq_true, or0, jo_pi, jo_pl, jia_pi, jia_pl, jo_cpy, jia_cpy, cpy_r, m_X11_grant, m_X11_refuse, m_X13_good, m_X13_refused, reduceCtorEq, nI_add, nI_leI, nI_ltI, nI_eq, pk_mul, abs_nI, max_nI, min_nI, nI_m1, nI_m2, nI_le1, m1_lt, m2_lt, and_nI, or_nI, an_nI, has_nI, bit_nI, bc_nI, bits_nI, lx0, lx1, lx2, lx3, lx4, lx5, lx6, lx7, lx8, lx9, lx10, lx11, lx16, lx20, lx40, lx60, lx90, lx99, lx100, lx200, lx900, lx999, lx9999, jo_118 hW, ja_119 hW, ja_120 hW, ja_121 hW, ja_122 hW, ja_123 hW, ja_124 hW, ja_125 hW, ja_126 hW, ja_127 hW, ja_128 hW, ja_129 hW, wr_118_5 hW, wr_118_15 hW, wr_118_16 hW, wr_118_17 hW, wr_118_18 hW, wr_118_21 hW, wr_118_22 hW, wr_118_23 hW, wr_118_25 hW, wr_118_26 hW, wr_118_27 hW, hS, mb_o hC, mb_j0 hC, mb_j1 hC, mb_j2 hC, mb_j3 hC, mb_j4 hC, mb_j5 hC, mb_j6 hC, mb_j7 hC, mb_r0 hC, mb_r1 hC, mb_r2 hC, mb_r3 hC, mb_r4 hC, mb_r5 hC, mb_r6 hC, mb_r7 hC, mb_a0 hC, mb_a1 hC, mb_a2 hC, mb_a3 hC, mb_a4 hC, mb_a5 hC, mb_a6 hC, mb_a7 hC, mb_s0 hC, mb_s1 hC, mb_s2 hC, mb_s3 hC, mb_s4 hC, mb_s5 hC, mb_s6 hC, mb_s7 hC, mx_p hX, mx_6 hX, mx_7 hX, mx_8 hX, e1', e2, hf1, Option.elim, id, hft, hg, n9]
    · have hf0 : fb1 B N q f p = none := by simp [fb1, hs, hg]
      by_cases hft : f ≤ t
      · have hm : max f t = t := by omega
        rw [hm] at hg
        simp (disch := omega) only [jb_some, jli, jif, jd_q, jd_K0, jpi_s, jpi_l, jpi_p, jpl_s, jpl_i, jpl_p, if_true, if_false, if_pos, if_neg, not_true_eq_false, not_false_eq_true, ite_true, ite_false, Nat.not_lt_zero, eq_self, Nat.le_refl, Nat.lt_irrefl, Bool.false_eq_true, or0, jo_pi, jo_pl, jia_pi, jia_pl, jo_cpy, jia_cpy, cpy_r, m_X11_grant, m_X11_refuse, m_X13_good, m_X13_refused, reduceCtorEq, nI_add, nI_leI, nI_ltI, nI_eq, pk_mul, abs_nI, max_nI, min_nI, nI_m1, nI_m2, nI_le1, m1_lt, m2_lt, and_nI, or_nI, an_nI, has_nI, bit_nI, bc_nI, bits_nI, lx0, lx1, lx2, lx3, lx4, lx5, lx6, lx7, lx8, lx9, lx10, lx11, lx16, lx20, lx40, lx60, lx90, lx99, lx100, lx200, lx900, lx999, lx9999, jo_118 hW, ja_119 hW, ja_120 hW, ja_121 hW, ja_122 hW, ja_123 hW, ja_124 hW, ja_125 hW, ja_126 hW, ja_127 hW, ja_128 hW, ja_129 hW, wr_118_5 hW, wr_118_15 hW, wr_118_16 hW, wr_118_17 hW, wr_118_18 hW, wr_118_21 hW, wr_118_22 hW, wr_118_23 hW, wr_118_25 hW, wr_118_26 hW, wr_118_27 hW, hS, mb_o hC, mb_j0 hC, mb_j1 hC, mb_j2 hC, mb_j3 hC, mb_j4 hC, mb_j5 hC, mb_j6 hC, mb_j7 hC, mb_r0 hC, mb_r1 hC, mb_r2 hC, mb_r3 hC, mb_r4 hC, mb_r5 hC, mb_r6 hC, mb_r7 hC, mb_a0 hC, mb_a1 hC, mb_a2 hC, mb_a3 hC, mb_a4 hC, mb_a5 hC, mb_a6 hC, mb_a7 hC, mb_s0 hC, mb_s1 hC, mb_s2 hC, mb_s3 hC, mb_s4 hC, mb_s5 hC, mb_s6 hC, mb_s7 hC, mx_p hX, mx_6 hX, mx_7 hX, mx_8 hX, e1', e2, hf0, Option.elim, id, hft, hg, n9]
      · have hm : max f t = f := by omega
        rw [hm] at hg
        simp (disch := omega) only [jb_some, jli, jif, jd_q, jd_K0, jpi_s, jpi_l, jpi_p, jpl_s, jpl_i, jpl_p, if_true, if_false, if_pos, if_neg, not_true_eq_false, not_false_eq_true, ite_true, ite_false, Nat.not_lt_zero, eq_self, Nat.le_refl, Nat.lt_irrefl, Bool.false_eq_true, or0, jo_pi, jo_pl, jia_pi, jia_pl, jo_cpy, jia_cpy, cpy_r, m_X11_grant, m_X11_refuse, m_X13_good, m_X13_refused, reduceCtorEq, nI_add, nI_leI, nI_ltI, nI_eq, pk_mul, abs_nI, max_nI, min_nI, nI_m1, nI_m2, nI_le1, m1_lt, m2_lt, and_nI, or_nI, an_nI, has_nI, bit_nI, bc_nI, bits_nI, lx0, lx1, lx2, lx3, lx4, lx5, lx6, lx7, lx8, lx9, lx10, lx11, lx16, lx20, lx40, lx60, lx90, lx99, lx100, lx200, lx900, lx999, lx9999, jo_118 hW, ja_119 hW, ja_120 hW, ja_121 hW, ja_122 hW, ja_123 hW, ja_124 hW, ja_125 hW, ja_126 hW, ja_127 hW, ja_128 hW, ja_129 hW, wr_118_5 hW, wr_118_15 hW, wr_118_16 hW, wr_118_17 hW, wr_118_18 hW, wr_118_21 hW, wr_118_22 hW, wr_118_23 hW, wr_118_25 hW, wr_118_26 hW, wr_118_27 hW, hS, mb_o hC, mb_j0 hC, mb_j1 hC, mb_j2 hC, mb_j3 hC, mb_j4 hC, mb_j5 hC, mb_j6 hC, mb_j7 hC, mb_r0 hC, mb_r1 hC, mb_r2 hC, mb_r3 hC, mb_r4 hC, mb_r5 hC, mb_r6 hC, mb_r7 hC, mb_a0 hC, mb_a1 hC, mb_a2 hC, mb_a3 hC, mb_a4 hC, mb_a5 hC, mb_a6 hC, mb_a7 hC, mb_s0 hC, mb_s1 hC, mb_s2 hC, mb_s3 hC, mb_s4 hC, mb_s5 hC, mb_s6 hC, mb_s7 hC, mx_p hX, mx_6 hX, mx_7 hX, mx_8 hX, e1', e2, hf0, Option.elim, id, hft, hg, n9]
set_option maxHeartbeats 4000000 in
theorem y_alI (h : MA B N b σ) (hb : bOk B) (hn : nOk B N) {q n u f a c : Nat} (hq : q < B 8 4) (hn6 : n ≤ 6) (hu : u < 64) (hf : f ≤ 999) (hfc : σ.2.1 125 n = nI f) (hac : a ≤ c) (hc : c ≤ B 8 3) (hno : ∀ p, a ≤ p → p < c → fbO B N q u f p = none) (hyes : c = B 8 3 ∨ ∃ g, fbO B N q u f c = some g) : alI (nI q) (nI n) (nI u) (nI a) σ = some (nI c, σ) := by
  have b2 := hb.2.1
  unfold alI
  refine jlp_p (c - a) (fun i => nI (a + i)) (nI c) (jfu (by omega)) rfl ?_ ?_
  · intro i hi
    have h1 := hno (a + i) (by omega) (by omega)
    have h2 : a + i < B 8 3 := by omega
    have ni : ¬ B 8 3 ≤ a + i := by omega
    have e3 := y_freeBehind h hb hn hq h2 hf
    obtain ⟨hW, hS, hC, hX⟩ := h
    show _ = some (Sum.inl (nI (a + i + 1)), σ)
    rcases hb1 : u.testBit (a + i) with _ | _
    · have e4 : fb1 B N q f (a + i) = none := by simpa [fbO, hb1] using h1
      rw [e4] at e3
      simp (disch := omega) only [jb_some, jli, jif, jd_q, jd_K0, jpi_s, jpi_l, jpi_p, jpl_s, jpl_i, jpl_p, if_true, if_false, if_pos, if_neg, not_true_eq_false, not_false_eq_true, ite_true, ite_false, Nat.not_lt_zero, eq_self, Nat.le_refl, Nat.lt_irrefl, Bool.false_eq_true, or0, jo_pi, jo_pl, jia_pi, jia_pl, jo_cpy, jia_cpy, cpy_r, m_X11_grant, m_X11_refuse, m_X13_good, m_X13_refused, reduceCtorEq, nI_add, nI_leI, nI_ltI, nI_eq, pk_mul, abs_nI, max_nI, min_nI, nI_m1, nI_m2, nI_le1, m1_lt, m2_lt, and_nI, or_nI, an_nI, has_nI, bit_nI, bc_nI, bits_nI, lx0, lx1, lx2, lx3, lx4, lx5, lx6, lx7, lx8, lx9, lx10, lx11, lx16, lx20, lx40, lx60, lx90, lx99, lx100, lx200, lx900, lx999, lx9999, jo_118 hW, ja_119 hW, ja_120 hW, ja_121 hW, ja_122 hW, ja_123 hW, ja_124 hW, ja_125 hW, ja_126 hW, ja_127 hW, ja_128 hW, ja_129 hW, wr_118_5 hW, wr_118_15 hW, wr_118_16 hW, wr_118_17 hW, wr_118_18 hW, wr_118_21 hW, wr_118_22 hW, wr_118_23 hW, wr_118_25 hW, wr_118_26 hW, wr_118_27 hW, hS, mb_o hC, mb_j0 hC, mb_j1 hC, mb_j2 hC, mb_j3 hC, mb_j4 hC, mb_j5 hC, mb_j6 hC, mb_j7 hC, mb_r0 hC, mb_r1 hC, mb_r2 hC, mb_r3 hC, mb_r4 hC, mb_r5 hC, mb_r6 hC, mb_r7 hC, mb_a0 hC, mb_a1 hC, mb_a2 hC, mb_a3 hC, mb_a4 hC, mb_a5 hC, mb_a6 hC, mb_a7 hC, mb_s0 hC, mb_s1 hC, mb_s2 hC, mb_s3 hC, mb_s4 hC, mb_s5 hC, mb_s6 hC, mb_s7 hC, mx_p hX, mx_6 hX, mx_7 hX, mx_8 hX, ni, hb1, e3, hfc, Option.elim]
    · simp (disch := omega) only [jb_some, jli, jif, jd_q, jd_K0, jpi_s, jpi_l, jpi_p, jpl_s, jpl_i, jpl_p, if_true, if_false, if_pos, if_neg, not_true_eq_false, not_false_eq_true, ite_true, ite_false, Nat.not_lt_zero, eq_self, Nat.le_refl, Nat.lt_irrefl, Bool.false_eq_true, or0, jo_pi, jo_pl, jia_pi, jia_pl, jo_cpy, jia_cpy, cpy_r, m_X11_grant, m_X11_refuse, m_X13_good, m_X13_refused, reduceCtorEq, nI_add, nI_leI, nI_ltI, nI_eq, pk_mul, abs_nI, max_nI, min_nI, nI_m1, nI_m2, nI_le1, m1_lt, m2_lt, and_nI, or_nI, an_nI, has_nI, bit_nI, bc_nI, bits_nI, lx0, lx1, lx2, lx3, lx4, lx5, lx6, lx7, lx8, lx9, lx10, lx11, lx16, lx20, lx40, lx60, lx90, lx99, lx100, lx200, lx900, lx999, lx9999, jo_118 hW, ja_119 hW, ja_120 hW, ja_121 hW, ja_122 hW, ja_123 hW, ja_124 hW, ja_125 hW, ja_126 hW, ja_127 hW, ja_128 hW, ja_129 hW, wr_118_5 hW, wr_118_15 hW, wr_118_16 hW, wr_118_17 hW, wr_118_18 hW, wr_118_21 hW, wr_118_22 hW, wr_118_23 hW, wr_118_25 hW, wr_118_26 hW, wr_118_27 hW, hS, mb_o hC, mb_j0 hC, mb_j1 hC, mb_j2 hC, mb_j3 hC, mb_j4 hC, mb_j5 hC, mb_j6 hC, mb_j7 hC, mb_r0 hC, mb_r1 hC, mb_r2 hC, mb_r3 hC, mb_r4 hC, mb_r5 hC, mb_r6 hC, mb_r7 hC, mb_a0 hC, mb_a1 hC, mb_a2 hC, mb_a3 hC, mb_a4 hC, mb_a5 hC, mb_a6 hC, mb_a7 hC, mb_s0 hC, mb_s1 hC, mb_s2 hC, mb_s3 hC, mb_s4 hC, mb_s5 hC, mb_s6 hC, mb_s7 hC, mx_p hX, mx_6 hX, mx_7 hX, mx_8 hX, ni, hb1]
  · have hk : a + (c - a) = c := by omega
    rcases hyes with h1 | ⟨g, h1⟩
    · have hk' : a + (B 8 3 - a) = B 8 3 := by omega
      obtain ⟨hW, hS, hC, hX⟩ := h
      simp (disch := omega) only [jb_some, jli, jif, jd_q, jd_K0, jpi_s, jpi_l, jpi_p, jpl_s, jpl_i, jpl_p, if_true, if_false, if_pos, if_neg, not_true_eq_false, not_false_eq_true, ite_true, ite_false, Nat.not_lt_zero, eq_self, Nat.le_refl, Nat.lt_irrefl, Bool.false_eq_true, or0, jo_pi, jo_pl, jia_pi, jia_pl, jo_cpy, jia_cpy, cpy_r, m_X11_grant, m_X11_refuse, m_X13_good, m_X13_refused, reduceCtorEq, nI_add, nI_leI, nI_ltI, nI_eq, pk_mul, abs_nI, max_nI, min_nI, nI_m1, nI_m2, nI_le1, m1_lt, m2_lt, and_nI, or_nI, an_nI, has_nI, bit_nI, bc_nI, bits_nI, lx0, lx1, lx2, lx3, lx4, lx5, lx6, lx7, lx8, lx9, lx10, lx11, lx16, lx20, lx40, lx60, lx90, lx99, lx100, lx200, lx900, lx999, lx9999, jo_118 hW, ja_119 hW, ja_120 hW, ja_121 hW, ja_122 hW, ja_123 hW, ja_124 hW, ja_125 hW, ja_126 hW, ja_127 hW, ja_128 hW, ja_129 hW, wr_118_5 hW, wr_118_15 hW, wr_118_16 hW, wr_118_17 hW, wr_118_18 hW, wr_118_21 hW, wr_118_22 hW, wr_118_23 hW, wr_118_25 hW, wr_118_26 hW, wr_118_27 hW, hS, mb_o hC, mb_j0 hC, mb_j1 hC, mb_j2 hC, mb_j3 hC, mb_j4 hC, mb_j5 hC, mb_j6 hC, mb_j7 hC, mb_r0 hC, mb_r1 hC, mb_r2 hC, mb_r3 hC, mb_r4 hC, mb_r5 hC, mb_r6 hC, mb_r7 hC, mb_a0 hC, mb_a1 hC, mb_a2 hC, mb_a3 hC, mb_a4 hC, mb_a5 hC, mb_a6 hC, mb_a7 hC, mb_s0 hC, mb_s1 hC, mb_s2 hC, mb_s3 hC, mb_s4 hC, mb_s5 hC, mb_s6 hC, mb_s7 hC, mx_p hX, mx_6 hX, mx_7 hX, mx_8 hX, hk', h1]
    · by_cases hc3 : c = B 8 3
      · have hk' : a + (B 8 3 - a) = B 8 3 := by omega
        obtain ⟨hW, hS, hC, hX⟩ := h
        simp (disch := omega) only [jb_some, jli, jif, jd_q, jd_K0, jpi_s, jpi_l, jpi_p, jpl_s, jpl_i, jpl_p, if_true, if_false, if_pos, if_neg, not_true_eq_false, not_false_eq_true, ite_true, ite_false, Nat.not_lt_zero, eq_self, Nat.le_refl, Nat.lt_irrefl, Bool.false_eq_true, or0, jo_pi, jo_pl, jia_pi, jia_pl, jo_cpy, jia_cpy, cpy_r, m_X11_grant, m_X11_refuse, m_X13_good, m_X13_refused, reduceCtorEq, nI_add, nI_leI, nI_ltI, nI_eq, pk_mul, abs_nI, max_nI, min_nI, nI_m1, nI_m2, nI_le1, m1_lt, m2_lt, and_nI, or_nI, an_nI, has_nI, bit_nI, bc_nI, bits_nI, lx0, lx1, lx2, lx3, lx4, lx5, lx6, lx7, lx8, lx9, lx10, lx11, lx16, lx20, lx40, lx60, lx90, lx99, lx100, lx200, lx900, lx999, lx9999, jo_118 hW, ja_119 hW, ja_120 hW, ja_121 hW, ja_122 hW, ja_123 hW, ja_124 hW, ja_125 hW, ja_126 hW, ja_127 hW, ja_128 hW, ja_129 hW, wr_118_5 hW, wr_118_15 hW, wr_118_16 hW, wr_118_17 hW, wr_118_18 hW, wr_118_21 hW, wr_118_22 hW, wr_118_23 hW, wr_118_25 hW, wr_118_26 hW, wr_118_27 hW, hS, mb_o hC, mb_j0 hC, mb_j1 hC, mb_j2 hC, mb_j3 hC, mb_j4 hC, mb_j5 hC, mb_j6 hC, mb_j7 hC, mb_r0 hC, mb_r1 hC, mb_r2 hC, mb_r3 hC, mb_r4 hC, mb_r5 hC, mb_r6 hC, mb_r7 hC, mb_a0 hC, mb_a1 hC, mb_a2 hC, mb_a3 hC, mb_a4 hC, mb_a5 hC, mb_a6 hC, mb_a7 hC, mb_s0 hC, mb_s1 hC, mb_s2 hC, mb_s3 hC, mb_s4 hC, mb_s5 hC, mb_s6 hC, mb_s7 hC, mx_p hX, mx_6 hX, mx_7 hX, mx_8 hX, hk', hc3]
      · have h2 : c < B 8 3 := by omega
        have ni : ¬ B 8 3 ≤ c := by omega
        have e3 := y_freeBehind h hb hn hq h2 hf
        obtain ⟨k1, k2, -⟩ := fbO_spec hb hn (by omega) h1
        have e4 : fb1 B N q f c = some g := by simpa [fbO, k1] using h1
        have g9 : ¬ g = 9999 := by omega
        rw [e4] at e3
        obtain ⟨hW, hS, hC, hX⟩ := h
        simp (disch := omega) only [jb_some, jli, jif, jd_q, jd_K0, jpi_s, jpi_l, jpi_p, jpl_s, jpl_i, jpl_p, if_true, if_false, if_pos, if_neg, not_true_eq_false, not_false_eq_true, ite_true, ite_false, Nat.not_lt_zero, eq_self, Nat.le_refl, Nat.lt_irrefl, Bool.false_eq_true, or0, jo_pi, jo_pl, jia_pi, jia_pl, jo_cpy, jia_cpy, cpy_r, m_X11_grant, m_X11_refuse, m_X13_good, m_X13_refused, reduceCtorEq, nI_add, nI_leI, nI_ltI, nI_eq, pk_mul, abs_nI, max_nI, min_nI, nI_m1, nI_m2, nI_le1, m1_lt, m2_lt, and_nI, or_nI, an_nI, has_nI, bit_nI, bc_nI, bits_nI, lx0, lx1, lx2, lx3, lx4, lx5, lx6, lx7, lx8, lx9, lx10, lx11, lx16, lx20, lx40, lx60, lx90, lx99, lx100, lx200, lx900, lx999, lx9999, jo_118 hW, ja_119 hW, ja_120 hW, ja_121 hW, ja_122 hW, ja_123 hW, ja_124 hW, ja_125 hW, ja_126 hW, ja_127 hW, ja_128 hW, ja_129 hW, wr_118_5 hW, wr_118_15 hW, wr_118_16 hW, wr_118_17 hW, wr_118_18 hW, wr_118_21 hW, wr_118_22 hW, wr_118_23 hW, wr_118_25 hW, wr_118_26 hW, wr_118_27 hW, hS, mb_o hC, mb_j0 hC, mb_j1 hC, mb_j2 hC, mb_j3 hC, mb_j4 hC, mb_j5 hC, mb_j6 hC, mb_j7 hC, mb_r0 hC, mb_r1 hC, mb_r2 hC, mb_r3 hC, mb_r4 hC, mb_r5 hC, mb_r6 hC, mb_r7 hC, mb_a0 hC, mb_a1 hC, mb_a2 hC, mb_a3 hC, mb_a4 hC, mb_a5 hC, mb_a6 hC, mb_a7 hC, mb_s0 hC, mb_s1 hC, mb_s2 hC, mb_s3 hC, mb_s4 hC, mb_s5 hC, mb_s6 hC, mb_s7 hC, mx_p hX, mx_6 hX, mx_7 hX, mx_8 hX, hk, ni, k1, e3, hfc, Option.elim, id, g9]
theorem y_alC (hW : Wd σ) {m : Nat} (hm : m ≤ 6) : alC (nI m) σ = some ((), cpy σ 126 (σ.2.1 124) m) := by
  unfold alC
  refine jlp_h m (fun i => nI i) (fun i => cpy σ 126 (σ.2.1 124) i) () (cpy σ 126 (σ.2.1 124) m) (jfu (by omega)) rfl (cpy_0 _ _ _).symm ?_ ?_
  · intro i hi
    have h1 : ¬ m ≤ i := by omega
    simp (disch := omega) only [jb_some, jli, jif, jd_q, jd_K0, jpi_s, jpi_l, jpi_p, jpl_s, jpl_i, jpl_p, if_true, if_false, if_pos, if_neg, not_true_eq_false, not_false_eq_true, ite_true, ite_false, Nat.not_lt_zero, eq_self, Nat.le_refl, Nat.lt_irrefl, Bool.false_eq_true, or0, jo_pi, jo_pl, jia_pi, jia_pl, jo_cpy, jia_cpy, cpy_r, m_X11_grant, m_X11_refuse, m_X13_good, m_X13_refused, reduceCtorEq, nI_add, nI_leI, nI_ltI, nI_eq, pk_mul, abs_nI, max_nI, min_nI, nI_m1, nI_m2, nI_le1, m1_lt, m2_lt, and_nI, or_nI, an_nI, has_nI, bit_nI, bc_nI, bits_nI, lx0, lx1, lx2, lx3, lx4, lx5, lx6, lx7, lx8, lx9, lx10, lx11, lx16, lx20, lx40, lx60, lx90, lx99, lx100, lx200, lx900, lx999, lx9999, jo_118 hW, ja_119 hW, ja_120 hW, ja_121 hW, ja_122 hW, ja_123 hW, ja_124 hW, ja_125 hW, ja_126 hW, ja_127 hW, ja_128 hW, ja_129 hW, wr_118_5 hW, wr_118_15 hW, wr_118_16 hW, wr_118_17 hW, wr_118_18 hW, wr_118_21 hW, wr_118_22 hW, wr_118_23 hW, wr_118_25 hW, wr_118_26 hW, wr_118_27 hW, h1]
    rw [← cpy_s, cpy_i, if_neg (by omega)]
  · simp (disch := omega) only [jb_some, jli, jif, jd_q, jd_K0, jpi_s, jpi_l, jpi_p, jpl_s, jpl_i, jpl_p, if_true, if_false, if_pos, if_neg, not_true_eq_false, not_false_eq_true, ite_true, ite_false, Nat.not_lt_zero, eq_self, Nat.le_refl, Nat.lt_irrefl, Bool.false_eq_true, or0, jo_pi, jo_pl, jia_pi, jia_pl, jo_cpy, jia_cpy, cpy_r, m_X11_grant, m_X11_refuse, m_X13_good, m_X13_refused, reduceCtorEq, nI_add, nI_leI, nI_ltI, nI_eq, pk_mul, abs_nI, max_nI, min_nI, nI_m1, nI_m2, nI_le1, m1_lt, m2_lt, and_nI, or_nI, an_nI, has_nI, bit_nI, bc_nI, bits_nI, lx0, lx1, lx2, lx3, lx4, lx5, lx6, lx7, lx8, lx9, lx10, lx11, lx16, lx20, lx40, lx60, lx90, lx99, lx100, lx200, lx900, lx999, lx9999, jo_118 hW, ja_119 hW, ja_120 hW, ja_121 hW, ja_122 hW, ja_123 hW, ja_124 hW, ja_125 hW, ja_126 hW, ja_127 hW, ja_128 hW, ja_129 hW, wr_118_5 hW, wr_118_15 hW, wr_118_16 hW, wr_118_17 hW, wr_118_18 hW, wr_118_21 hW, wr_118_22 hW, wr_118_23 hW, wr_118_25 hW, wr_118_26 hW, wr_118_27 hW]
set_option maxHeartbeats 4000000 in
theorem y_alX (h : MA B N b σ) (hb : bOk B) (hn : nOk B N) {q n u f m : Nat} {l : Option Nat} (hq : q < B 8 4) (hn6 : n ≤ 6) (hu : u < 64) (hf : f ≤ 999) (hfc : σ.2.1 125 n = nI f) (hl : ∀ p, l = some p → p < B 8 3 ∧ u.testBit p = false) (hrow : σ.2.1 124 n = li1 l) (hno : ∀ p, lo1 l ≤ p → p < B 8 3 → fbO B N q u f p = none) : alB (nI q) (nI m, nI (ul u l), nI n) σ = some (.inl (nI m, nI u, nI n + -1), σ) := by
  have b2 := hb.2.1
  unfold alB
  rcases l with _ | p
  · have e1 := y_alI h hb hn hq hn6 hu hf hfc (Nat.zero_le _) (Nat.le_refl _) hno (Or.inl rfl)
    have hrow : σ.2.1 124 n = - nI 1 := hrow
    obtain ⟨hW, hS, hC, hX⟩ := h
    simp (disch := omega) only [jb_some, jli, jif, jd_q, jd_K0, jpi_s, jpi_l, jpi_p, jpl_s, jpl_i, jpl_p, if_true, if_false, if_pos, if_neg, not_true_eq_false, not_false_eq_true, ite_true, ite_false, Nat.not_lt_zero, eq_self, Nat.le_refl, Nat.lt_irrefl, Bool.false_eq_true, or0, jo_pi, jo_pl, jia_pi, jia_pl, jo_cpy, jia_cpy, cpy_r, m_X11_grant, m_X11_refuse, m_X13_good, m_X13_refused, reduceCtorEq, nI_add, nI_leI, nI_ltI, nI_eq, pk_mul, abs_nI, max_nI, min_nI, nI_m1, nI_m2, nI_le1, m1_lt, m2_lt, and_nI, or_nI, an_nI, has_nI, bit_nI, bc_nI, bits_nI, lx0, lx1, lx2, lx3, lx4, lx5, lx6, lx7, lx8, lx9, lx10, lx11, lx16, lx20, lx40, lx60, lx90, lx99, lx100, lx200, lx900, lx999, lx9999, jo_118 hW, ja_119 hW, ja_120 hW, ja_121 hW, ja_122 hW, ja_123 hW, ja_124 hW, ja_125 hW, ja_126 hW, ja_127 hW, ja_128 hW, ja_129 hW, wr_118_5 hW, wr_118_15 hW, wr_118_16 hW, wr_118_17 hW, wr_118_18 hW, wr_118_21 hW, wr_118_22 hW, wr_118_23 hW, wr_118_25 hW, wr_118_26 hW, wr_118_27 hW, hS, mb_o hC, mb_j0 hC, mb_j1 hC, mb_j2 hC, mb_j3 hC, mb_j4 hC, mb_j5 hC, mb_j6 hC, mb_j7 hC, mb_r0 hC, mb_r1 hC, mb_r2 hC, mb_r3 hC, mb_r4 hC, mb_r5 hC, mb_r6 hC, mb_r7 hC, mb_a0 hC, mb_a1 hC, mb_a2 hC, mb_a3 hC, mb_a4 hC, mb_a5 hC, mb_a6 hC, mb_a7 hC, mb_s0 hC, mb_s1 hC, mb_s2 hC, mb_s3 hC, mb_s4 hC, mb_s5 hC, mb_s6 hC, mb_s7 hC, mx_p hX, mx_6 hX, mx_7 hX, mx_8 hX, hrow, e1, ul, m11, Option.elim]
  · obtain ⟨k1, k2⟩ := hl p rfl
    have e1 := y_alI h hb hn hq hn6 hu hf hfc (a := p + 1) (by omega) (Nat.le_refl _) hno (Or.inl rfl)
    have hrow : σ.2.1 124 n = nI p := hrow
    have e2 := (fin_pd u hu p (by omega) k2).2
    obtain ⟨hW, hS, hC, hX⟩ := h
    simp (disch := omega) only [jb_some, jli, jif, jd_q, jd_K0, jpi_s, jpi_l, jpi_p, jpl_s, jpl_i, jpl_p, if_true, if_false, if_pos, if_neg, not_true_eq_false, not_false_eq_true, ite_true, ite_false, Nat.not_lt_zero, eq_self, Nat.le_refl, Nat.lt_irrefl, Bool.false_eq_true, or0, jo_pi, jo_pl, jia_pi, jia_pl, jo_cpy, jia_cpy, cpy_r, m_X11_grant, m_X11_refuse, m_X13_good, m_X13_refused, reduceCtorEq, nI_add, nI_leI, nI_ltI, nI_eq, pk_mul, abs_nI, max_nI, min_nI, nI_m1, nI_m2, nI_le1, m1_lt, m2_lt, and_nI, or_nI, an_nI, has_nI, bit_nI, bc_nI, bits_nI, lx0, lx1, lx2, lx3, lx4, lx5, lx6, lx7, lx8, lx9, lx10, lx11, lx16, lx20, lx40, lx60, lx90, lx99, lx100, lx200, lx900, lx999, lx9999, jo_118 hW, ja_119 hW, ja_120 hW, ja_121 hW, ja_122 hW, ja_123 hW, ja_124 hW, ja_125 hW, ja_126 hW, ja_127 hW, ja_128 hW, ja_129 hW, wr_118_5 hW, wr_118_15 hW, wr_118_16 hW, wr_118_17 hW, wr_118_18 hW, wr_118_21 hW, wr_118_22 hW, wr_118_23 hW, wr_118_25 hW, wr_118_26 hW, wr_118_27 hW, hS, mb_o hC, mb_j0 hC, mb_j1 hC, mb_j2 hC, mb_j3 hC, mb_j4 hC, mb_j5 hC, mb_j6 hC, mb_j7 hC, mb_r0 hC, mb_r1 hC, mb_r2 hC, mb_r3 hC, mb_r4 hC, mb_r5 hC, mb_r6 hC, mb_r7 hC, mb_a0 hC, mb_a1 hC, mb_a2 hC, mb_a3 hC, mb_a4 hC, mb_a5 hC, mb_a6 hC, mb_a7 hC, mb_s0 hC, mb_s1 hC, mb_s2 hC, mb_s3 hC, mb_s4 hC, mb_s5 hC, mb_s6 hC, mb_s7 hC, mx_p hX, mx_6 hX, mx_7 hX, mx_8 hX, hrow, e1, e2, ul, Option.elim]
set_option maxHeartbeats 8000000 in
theorem y_alS (h : MA B N b σ) (hb : bOk B) (hn : nOk B N) {q u f c g : Nat} {r : List Nat} {s : AS} {l : Option Nat} (hq : q < B 8 4) (hn6 : r.length ≤ 5) (hu : u < 64) (hf : f ≤ 999) (hfc : σ.2.1 125 r.length = nI f) (hl : ∀ p, l = some p → p < c ∧ u.testBit p = false) (hrow : σ.2.1 124 r.length = li1 l) (hc : c < B 8 3) (hno : ∀ p, lo1 l ≤ p → p < c → fbO B N q u f p = none) (hyes : fbO B N q u f c = some g) (hs : s.2.length ≤ 6) (ha : AQ s σ) (hR : AW r σ) :
    ∃ σ', alB (nI q) (nI s.2.length, nI (ul u l), nI r.length) σ = some (.inl (nI (upA s (r ++ [c]) g).2.length, nI (u ||| 2 ^ c), nI (r.length + 1)), σ') ∧ Fr DL L0 σ σ' ∧ AQ (upA s (r ++ [c]) g) σ' ∧ AW (r ++ [c]) σ' ∧ (∀ i, i ≤ r.length → σ'.2.1 125 i = σ.2.1 125 i) ∧ σ'.2.1 125 (r.length + 1) = nI g ∧ σ'.2.1 124 (r.length + 1) = - nI 1 := by
  have b2 := hb.2.1
  obtain ⟨k1, k2, -⟩ := fbO_spec hb hn (by omega) hyes
  have p64 := fin_pb u hu c (by omega)
  have F1 : Fr DL L0 σ (jd_pi σ 124 r.length (nI c)) := Fr_pi (Fr_refl _) (Or.inr (Or.inl rfl))
  have F2 : Fr DL L0 σ (jd_pi (jd_pi σ 124 r.length (nI c)) 125 (r.length + 1) (nI g)) := Fr_pi F1 (Or.inr (Or.inr (Or.inl rfl)))
  have e4 : fb1 B N q f c = some g := by simpa [fbO, k1] using hyes
  have e3 := y_freeBehind (MA_fr h F1) hb hn hq hc hf
  rw [e4] at e3
  have e3 : m_X13_freeBehind 118 (nI q) (nI c) (nI f) (jd_pi σ 124 r.length (nI c)) = some (nI g, jd_pi σ 124 r.length (nI c)) := e3
  have r1 : (jd_pi σ 124 r.length (nI c)).2.1 125 r.length = nI f := (pi_ne _ _ (by omega)).trans hfc
  have nc : ¬ c = B 8 3 := by omega
  have ll : (r ++ [c]).length = r.length + 1 := by simp
  have Rw : ∀ σ9 : jd_Hp, (∀ i, i ≤ r.length → σ9.2.1 124 i = (jd_pi σ 124 r.length (nI c)).2.1 124 i) → AW (r ++ [c]) σ9 := fun σ9 h9 i hi => by
    rw [h9 i (by omega)]
    by_cases h1 : i = r.length
    · rw [h1, pi_eq, getD_r]
    · rw [pi_ne _ _ (by omega), getD_l (by omega)]
      exact hR i (by omega)
  have inner : ∃ a : Nat, a = lo1 l ∧ alI (nI q) (nI r.length) (nI u) (nI a) σ = some (nI c, σ) := ⟨lo1 l, rfl, y_alI h hb hn hq (by omega) hu hf hfc (by
    rcases l with _ | p
    · exact Nat.zero_le _
    · exact (hl p rfl).1) (by omega) hno (Or.inr ⟨g, hyes⟩)⟩
  obtain ⟨a, hla, e1⟩ := inner
  by_cases hm : r.length + 1 ≤ s.2.length
  · have hu' : upA s (r ++ [c]) g = s := by
      unfold upA
      rw [if_neg (by omega)]
    rw [hu']
    refine ⟨jd_pi (jd_pi (jd_pi σ 124 r.length (nI c)) 125 (r.length + 1) (nI g)) 124 (r.length + 1) (- nI 1), ?_, Fr_pi F2 (Or.inr (Or.inl rfl)), ⟨?_, fun i hi => ?_⟩, Rw _ (fun i hi => ?_), fun i hi => ?_, ?_, pi_eq _ _ _ _⟩
    · unfold alB
      rcases l with _ | p
      · have hrow : σ.2.1 124 r.length = - nI 1 := hrow
        have hla : a = 0 := hla
        subst hla
        obtain ⟨hW, hS, hC, hX⟩ := h
        simp (disch := omega) only [jb_some, jli, jif, jd_q, jd_K0, jpi_s, jpi_l, jpi_p, jpl_s, jpl_i, jpl_p, if_true, if_false, if_pos, if_neg, not_true_eq_false, not_false_eq_true, ite_true, ite_false, Nat.not_lt_zero, eq_self, Nat.le_refl, Nat.lt_irrefl, Bool.false_eq_true, or0, jo_pi, jo_pl, jia_pi, jia_pl, jo_cpy, jia_cpy, cpy_r, m_X11_grant, m_X11_refuse, m_X13_good, m_X13_refused, reduceCtorEq, nI_add, nI_leI, nI_ltI, nI_eq, pk_mul, abs_nI, max_nI, min_nI, nI_m1, nI_m2, nI_le1, m1_lt, m2_lt, and_nI, or_nI, an_nI, has_nI, bit_nI, bc_nI, bits_nI, lx0, lx1, lx2, lx3, lx4, lx5, lx6, lx7, lx8, lx9, lx10, lx11, lx16, lx20, lx40, lx60, lx90, lx99, lx100, lx200, lx900, lx999, lx9999, jo_118 hW, ja_119 hW, ja_120 hW, ja_121 hW, ja_122 hW, ja_123 hW, ja_124 hW, ja_125 hW, ja_126 hW, ja_127 hW, ja_128 hW, ja_129 hW, wr_118_5 hW, wr_118_15 hW, wr_118_16 hW, wr_118_17 hW, wr_118_18 hW, wr_118_21 hW, wr_118_22 hW, wr_118_23 hW, wr_118_25 hW, wr_118_26 hW, wr_118_27 hW, hS, mb_o hC, mb_j0 hC, mb_j1 hC, mb_j2 hC, mb_j3 hC, mb_j4 hC, mb_j5 hC, mb_j6 hC, mb_j7 hC, mb_r0 hC, mb_r1 hC, mb_r2 hC, mb_r3 hC, mb_r4 hC, mb_r5 hC, mb_r6 hC, mb_r7 hC, mb_a0 hC, mb_a1 hC, mb_a2 hC, mb_a3 hC, mb_a4 hC, mb_a5 hC, mb_a6 hC, mb_a7 hC, mb_s0 hC, mb_s1 hC, mb_s2 hC, mb_s3 hC, mb_s4 hC, mb_s5 hC, mb_s6 hC, mb_s7 hC, mx_p hX, mx_6 hX, mx_7 hX, mx_8 hX, hrow, e1, ul, m11, Option.elim, nc, r1, e3, hm, ou_nI]
      · have hrow : σ.2.1 124 r.length = nI p := hrow
        have hla : a = p + 1 := hla
        subst hla
        obtain ⟨k3, k4⟩ := hl p rfl
        have e2 := (fin_pd u hu p (by omega) k4).2
        obtain ⟨hW, hS, hC, hX⟩ := h
        simp (disch := omega) only [jb_some, jli, jif, jd_q, jd_K0, jpi_s, jpi_l, jpi_p, jpl_s, jpl_i, jpl_p, if_true, if_false, if_pos, if_neg, not_true_eq_false, not_false_eq_true, ite_true, ite_false, Nat.not_lt_zero, eq_self, Nat.le_refl, Nat.lt_irrefl, Bool.false_eq_true, or0, jo_pi, jo_pl, jia_pi, jia_pl, jo_cpy, jia_cpy, cpy_r, m_X11_grant, m_X11_refuse, m_X13_good, m_X13_refused, reduceCtorEq, nI_add, nI_leI, nI_ltI, nI_eq, pk_mul, abs_nI, max_nI, min_nI, nI_m1, nI_m2, nI_le1, m1_lt, m2_lt, and_nI, or_nI, an_nI, has_nI, bit_nI, bc_nI, bits_nI, lx0, lx1, lx2, lx3, lx4, lx5, lx6, lx7, lx8, lx9, lx10, lx11, lx16, lx20, lx40, lx60, lx90, lx99, lx100, lx200, lx900, lx999, lx9999, jo_118 hW, ja_119 hW, ja_120 hW, ja_121 hW, ja_122 hW, ja_123 hW, ja_124 hW, ja_125 hW, ja_126 hW, ja_127 hW, ja_128 hW, ja_129 hW, wr_118_5 hW, wr_118_15 hW, wr_118_16 hW, wr_118_17 hW, wr_118_18 hW, wr_118_21 hW, wr_118_22 hW, wr_118_23 hW, wr_118_25 hW, wr_118_26 hW, wr_118_27 hW, hS, mb_o hC, mb_j0 hC, mb_j1 hC, mb_j2 hC, mb_j3 hC, mb_j4 hC, mb_j5 hC, mb_j6 hC, mb_j7 hC, mb_r0 hC, mb_r1 hC, mb_r2 hC, mb_r3 hC, mb_r4 hC, mb_r5 hC, mb_r6 hC, mb_r7 hC, mb_a0 hC, mb_a1 hC, mb_a2 hC, mb_a3 hC, mb_a4 hC, mb_a5 hC, mb_a6 hC, mb_a7 hC, mb_s0 hC, mb_s1 hC, mb_s2 hC, mb_s3 hC, mb_s4 hC, mb_s5 hC, mb_s6 hC, mb_s7 hC, mx_p hX, mx_6 hX, mx_7 hX, mx_8 hX, hrow, e1, e2, ul, Option.elim, nc, r1, e3, hm, ou_nI]
    · rw [pi_ne _ _ (by omega), pi_ne _ _ (by omega), pi_ne _ _ (by omega)]
      exact ha.1
    · rw [pi_ne _ _ (by omega), pi_ne _ _ (by omega), pi_ne _ _ (by omega)]
      exact ha.2 i hi
    · rw [pi_ne _ _ (by omega), pi_ne _ _ (by omega)]
    · rw [pi_ne _ _ (by omega), pi_ne _ _ (by omega), pi_ne _ _ (by omega)]
    · rw [pi_ne _ _ (by omega), pi_eq]
  · have hu' : upA s (r ++ [c]) g = (g, r ++ [c]) := by
      unfold upA
      rw [if_pos (by omega)]
    rw [hu']
    have F3 : Fr DL L0 σ (jd_pi (jd_pi (jd_pi σ 124 r.length (nI c)) 125 (r.length + 1) (nI g)) 118 24 (nI g)) := Fr_pi F2 (Or.inl ⟨rfl, rfl⟩)
    have r2 : (jd_pi (jd_pi σ 124 r.length (nI c)) 125 (r.length + 1) (nI g)).2.1 125 (r.length + 1) = nI g := pi_eq _ _ _ _
    have e5 := y_alC (Fr_Wd F3 h.1) (m := r.length + 1) (by omega)
    generalize hρ : jd_pi (jd_pi (jd_pi σ 124 r.length (nI c)) 125 (r.length + 1) (nI g)) 118 24 (nI g) = ρ at *
    have ρ1 : ∀ i, i ≤ r.length → ρ.2.1 124 i = (jd_pi σ 124 r.length (nI c)).2.1 124 i := fun i hi => by
      rw [← hρ, pi_ne _ _ (by omega), pi_ne _ _ (by omega)]
    have ρ2 : ∀ i, i ≤ r.length → ρ.2.1 125 i = σ.2.1 125 i := fun i hi => by
      rw [← hρ, pi_ne _ _ (by omega), pi_ne _ _ (by omega), pi_ne _ _ (by omega)]
    have ρ3 : ρ.2.1 125 (r.length + 1) = nI g := by
      rw [← hρ, pi_ne _ _ (by omega), pi_eq]
    have ρ4 : ρ.2.1 118 24 = nI g := by
      rw [← hρ, pi_eq]
    have hWρ := Fr_Wd F3 h.1
    have Fc : Fr DL L0 σ (cpy ρ 126 (ρ.2.1 124) (r.length + 1)) := ⟨F3.1, F3.2.1, fun a k hd => by
      rw [cpy_i, if_neg (fun h1 => hd (Or.inr (Or.inr (Or.inr h1.1))))]
      exact F3.2.2.1 a k hd, F3.2.2.2⟩
    refine ⟨jd_pi (cpy ρ 126 (ρ.2.1 124) (r.length + 1)) 124 (r.length + 1) (- nI 1), ?_, Fr_pi Fc (Or.inr (Or.inl rfl)), ⟨?_, fun i hi => ?_⟩, Rw _ (fun i hi => ?_), fun i hi => ?_, ?_, pi_eq _ _ _ _⟩
    · unfold alB
      rcases l with _ | p
      · have hrow : σ.2.1 124 r.length = - nI 1 := hrow
        have hla : a = 0 := hla
        subst hla
        obtain ⟨hW, hS, hC, hX⟩ := h
        simp (disch := omega) only [jb_some, jli, jif, jd_q, jd_K0, jpi_s, jpi_l, jpi_p, jpl_s, jpl_i, jpl_p, if_true, if_false, if_pos, if_neg, not_true_eq_false, not_false_eq_true, ite_true, ite_false, Nat.not_lt_zero, eq_self, Nat.le_refl, Nat.lt_irrefl, Bool.false_eq_true, or0, jo_pi, jo_pl, jia_pi, jia_pl, jo_cpy, jia_cpy, cpy_r, m_X11_grant, m_X11_refuse, m_X13_good, m_X13_refused, reduceCtorEq, nI_add, nI_leI, nI_ltI, nI_eq, pk_mul, abs_nI, max_nI, min_nI, nI_m1, nI_m2, nI_le1, m1_lt, m2_lt, and_nI, or_nI, an_nI, has_nI, bit_nI, bc_nI, bits_nI, lx0, lx1, lx2, lx3, lx4, lx5, lx6, lx7, lx8, lx9, lx10, lx11, lx16, lx20, lx40, lx60, lx90, lx99, lx100, lx200, lx900, lx999, lx9999, jo_118 hW, ja_119 hW, ja_120 hW, ja_121 hW, ja_122 hW, ja_123 hW, ja_124 hW, ja_125 hW, ja_126 hW, ja_127 hW, ja_128 hW, ja_129 hW, wr_118_5 hW, wr_118_15 hW, wr_118_16 hW, wr_118_17 hW, wr_118_18 hW, wr_118_21 hW, wr_118_22 hW, wr_118_23 hW, wr_118_25 hW, wr_118_26 hW, wr_118_27 hW, hS, mb_o hC, mb_j0 hC, mb_j1 hC, mb_j2 hC, mb_j3 hC, mb_j4 hC, mb_j5 hC, mb_j6 hC, mb_j7 hC, mb_r0 hC, mb_r1 hC, mb_r2 hC, mb_r3 hC, mb_r4 hC, mb_r5 hC, mb_r6 hC, mb_r7 hC, mb_a0 hC, mb_a1 hC, mb_a2 hC, mb_a3 hC, mb_a4 hC, mb_a5 hC, mb_a6 hC, mb_a7 hC, mb_s0 hC, mb_s1 hC, mb_s2 hC, mb_s3 hC, mb_s4 hC, mb_s5 hC, mb_s6 hC, mb_s7 hC, mx_p hX, mx_6 hX, mx_7 hX, mx_8 hX, hrow, e1, ul, m11, Option.elim, nc, r1, r2, e3, hm, ou_nI, hρ, e5, ll, jo_118 hWρ, wr_118_21 hWρ, ja_124 hWρ]
      · have hrow : σ.2.1 124 r.length = nI p := hrow
        have hla : a = p + 1 := hla
        subst hla
        obtain ⟨k3, k4⟩ := hl p rfl
        have e2 := (fin_pd u hu p (by omega) k4).2
        obtain ⟨hW, hS, hC, hX⟩ := h
        simp (disch := omega) only [jb_some, jli, jif, jd_q, jd_K0, jpi_s, jpi_l, jpi_p, jpl_s, jpl_i, jpl_p, if_true, if_false, if_pos, if_neg, not_true_eq_false, not_false_eq_true, ite_true, ite_false, Nat.not_lt_zero, eq_self, Nat.le_refl, Nat.lt_irrefl, Bool.false_eq_true, or0, jo_pi, jo_pl, jia_pi, jia_pl, jo_cpy, jia_cpy, cpy_r, m_X11_grant, m_X11_refuse, m_X13_good, m_X13_refused, reduceCtorEq, nI_add, nI_leI, nI_ltI, nI_eq, pk_mul, abs_nI, max_nI, min_nI, nI_m1, nI_m2, nI_le1, m1_lt, m2_lt, and_nI, or_nI, an_nI, has_nI, bit_nI, bc_nI, bits_nI, lx0, lx1, lx2, lx3, lx4, lx5, lx6, lx7, lx8, lx9, lx10, lx11, lx16, lx20, lx40, lx60, lx90, lx99, lx100, lx200, lx900, lx999, lx9999, jo_118 hW, ja_119 hW, ja_120 hW, ja_121 hW, ja_122 hW, ja_123 hW, ja_124 hW, ja_125 hW, ja_126 hW, ja_127 hW, ja_128 hW, ja_129 hW, wr_118_5 hW, wr_118_15 hW, wr_118_16 hW, wr_118_17 hW, wr_118_18 hW, wr_118_21 hW, wr_118_22 hW, wr_118_23 hW, wr_118_25 hW, wr_118_26 hW, wr_118_27 hW, hS, mb_o hC, mb_j0 hC, mb_j1 hC, mb_j2 hC, mb_j3 hC, mb_j4 hC, mb_j5 hC, mb_j6 hC, mb_j7 hC, mb_r0 hC, mb_r1 hC, mb_r2 hC, mb_r3 hC, mb_r4 hC, mb_r5 hC, mb_r6 hC, mb_r7 hC, mb_a0 hC, mb_a1 hC, mb_a2 hC, mb_a3 hC, mb_a4 hC, mb_a5 hC, mb_a6 hC, mb_a7 hC, mb_s0 hC, mb_s1 hC, mb_s2 hC, mb_s3 hC, mb_s4 hC, mb_s5 hC, mb_s6 hC, mb_s7 hC, mx_p hX, mx_6 hX, mx_7 hX, mx_8 hX, hrow, e1, e2, ul, Option.elim, nc, r1, r2, e3, hm, ou_nI, hρ, e5, ll, jo_118 hWρ, wr_118_21 hWρ, ja_124 hWρ]
    · rw [pi_ne _ _ (by omega), cpy_i, if_neg (by omega)]
      exact ρ4
    · rw [pi_ne _ _ (by omega), cpy_i, if_pos ⟨rfl, by
        have hi : i < (r ++ [c]).length := hi
        omega⟩]
      exact Rw ρ ρ1 i hi
    · rw [pi_ne _ _ (by omega), cpy_i, if_neg (by omega)]
      exact ρ1 i hi
    · rw [pi_ne _ _ (by omega), cpy_i, if_neg (by omega)]
      exact ρ2 i hi
    · rw [pi_ne _ _ (by omega), cpy_i, if_neg (by omega)]
      exact ρ3
set_option maxHeartbeats 4000000 in
theorem y_node (hb : bOk B) (hn : nOk B N) {q : Nat} (hq : q < B 8 4) : ∀ (d : Nat) (r : List Nat) (u f : Nat) (s : AS) (σ : jd_Hp), r.length + d = 6 → u < 64 → pc u = r.length → f ≤ 999 → s.2.length ≤ 6 → MA B N b σ → AQ s σ → AW r σ → σ.2.1 125 r.length = nI f → σ.2.1 124 r.length = - nI 1 →
    ∃ k σ', k ≤ KA d ∧ Rn (alB (nI q)) k (nI s.2.length, nI u, nI r.length) σ (nI (ndB B N q d r u f s).2.length, nI u, nI r.length + -1) σ' ∧ Fr DL L0 σ σ' ∧ AQ (ndB B N q d r u f s) σ' ∧ AW r σ' ∧ ∀ i, i ≤ r.length → σ'.2.1 125 i = σ.2.1 125 i := by
  intro d
  have b2 := hb.2.1
  induction d with
  | zero =>
    intro r u f s σ hd hu hpu hf hs hA ha hR hfc hrow
    refine ⟨1, σ, Nat.le_refl _, Rn_1 (y_alX hA hb hn (l := none) hq (by omega) hu hf hfc (fun p h => absurd h (by simp)) hrow fun p _ hp => ?_), Fr_refl _, ha, hR, fun _ _ => rfl⟩
    unfold fbO
    rw [if_pos (fin_u6 u hu (by omega) p (by omega))]
  | succ d ih =>
    intro r u f s σ hd hu hpu hf hs hA ha hR hfc hrow
    have Q : ∀ (m c : Nat) (l : Option Nat) (σ1 : jd_Hp), c + m = B 8 3 → (∀ p, l = some p → p < c ∧ u.testBit p = false) → (∀ p, lo1 l ≤ p → p < c → fbO B N q u f p = none) → Fr DL L0 σ σ1 → AQ (lpA (ndC B N q d r u f) c s) σ1 → AW r σ1 → (∀ i, i ≤ r.length → σ1.2.1 125 i = σ.2.1 125 i) → σ1.2.1 124 r.length = li1 l →
        ∃ k σ', k ≤ uc u c m * (1 + KA d) + 1 ∧ Rn (alB (nI q)) k (nI (lpA (ndC B N q d r u f) c s).2.length, nI (ul u l), nI r.length) σ1 (nI (lpA (ndC B N q d r u f) (B 8 3) s).2.length, nI u, nI r.length + -1) σ' ∧ Fr DL L0 σ σ' ∧ AQ (lpA (ndC B N q d r u f) (B 8 3) s) σ' ∧ AW r σ' ∧ ∀ i, i ≤ r.length → σ'.2.1 125 i = σ.2.1 125 i := by
      intro m
      induction m with
      | zero =>
        intro c l σ1 hcm hl hno F1 a1 R1 f1 row1
        have hcc : c = B 8 3 := by omega
        subst hcc
        exact ⟨1, σ1, by omega, Rn_1 (y_alX (MA_fr hA F1) hb hn hq (by omega) hu hf ((f1 _ (Nat.le_refl _)).trans hfc) hl row1 hno), F1, a1, R1, f1⟩
      | succ m ihm =>
        intro c l σ1 hcm hl hno F1 a1 R1 f1 row1
        have lp1 : lpA (ndC B N q d r u f) (c + 1) s = (fbO B N q u f c).elim (lpA (ndC B N q d r u f) c s) fun g => ndB B N q d (r ++ [c]) (u ||| 2 ^ c) g (upA (lpA (ndC B N q d r u f) c s) (r ++ [c]) g) := rfl
        have ucs : uc u c (m + 1) = (if u.testBit c then 0 else 1) + uc u (c + 1) m := rfl
        rcases hfb : fbO B N q u f c with _ | g
        · rw [hfb] at lp1
          have lp1 : lpA (ndC B N q d r u f) (c + 1) s = lpA (ndC B N q d r u f) c s := lp1
          obtain ⟨k, σ', hk, hrn, F2, a2, R2, f2⟩ := ihm (c + 1) l σ1 (by omega) (fun p hp => ⟨by have := (hl p hp).1; omega, (hl p hp).2⟩) (fun p h1 h2 => by
            by_cases hpc : p = c
            · rw [hpc]
              exact hfb
            · exact hno p h1 (by omega)) F1 (by rw [lp1]; exact a1) R1 f1 row1
          rw [lp1] at hrn
          refine ⟨k, σ', ?_, hrn, F2, a2, R2, f2⟩
          rw [ucs, Nat.add_mul]
          omega
        · rw [hfb] at lp1
          have lp1 : lpA (ndC B N q d r u f) (c + 1) s = ndB B N q d (r ++ [c]) (u ||| 2 ^ c) g (upA (lpA (ndC B N q d r u f) c s) (r ++ [c]) g) := lp1
          have hl6 : (lpA (ndC B N q d r u f) c s).2.length ≤ 6 := lpA_P (P := fun s => s.2.length ≤ 6) (fun p s' hs => by
            show ((fbO B N q u f p).elim s' fun g => ndB B N q d (r ++ [p]) (u ||| 2 ^ p) g (upA s' (r ++ [p]) g)).2.length ≤ 6
            rcases fbO B N q u f p with _ | g
            · exact hs
            · exact ndB_len d _ _ _ _ (by simp; omega) (upA_len hs (by simp; omega))) hs c
          obtain ⟨k1, k2, -⟩ := fbO_spec hb hn (by omega) hfb
          have p64 := fin_pb u hu c (by omega)
          have ppc := (fin_pd u hu c (by omega) k1).1
          have ll : (r ++ [c]).length = r.length + 1 := by simp
          obtain ⟨σ2, st2, F2, a2, R2, f2, g2, row2⟩ := y_alS (MA_fr hA F1) hb hn hq (by omega) hu hf ((f1 _ (Nat.le_refl _)).trans hfc) hl row1 (by omega) hno hfb hl6 a1 R1
          have F12 := Fr_tr F1 F2
          obtain ⟨k3, σ3, hk3, rn3, F3, a3, R3, f3⟩ := ih (r ++ [c]) (u ||| 2 ^ c) g (upA (lpA (ndC B N q d r u f) c s) (r ++ [c]) g) σ2 (by omega) p64.2.1 (by omega) (by omega) (upA_len hl6 (by omega)) (MA_fr hA F12) a2 R2 (by rw [ll]; exact g2) (by rw [ll]; exact row2)
          have R3' : AW r σ3 := fun i hi => by
            have := R3 i (by omega)
            rw [getD_l hi] at this
            exact this
          have row3 : σ3.2.1 124 r.length = li1 (some c) := by
            have := R3 r.length (by omega)
            rw [getD_r] at this
            exact this
          obtain ⟨k4, σ4, hk4, rn4, F4, a4, R4, f4⟩ := ihm (c + 1) (some c) σ3 (by omega) (fun p hp => by
            injection hp with hp
            subst hp
            exact ⟨by omega, k1⟩) (fun p h1 h2 => by
            have h1 : c + 1 ≤ p := h1
            omega) (Fr_tr F12 F3) (by rw [lp1]; exact a3) R3' (fun i hi => by rw [f3 i (by omega), f2 i hi, f1 i hi]) row3
          rw [ll, show nI (r.length + 1) + (-1 : Int32) = nI r.length from nI_dec r.length, ← lp1] at rn3
          refine ⟨k4 + (k3 + 1), σ4, ?_, Rn_tr (Rn_tr (Rn_1 st2) rn3) rn4, F4, a4, R4, f4⟩
          rw [ucs, k1, Nat.add_mul]
          simp only [Bool.false_eq_true, if_false, Nat.one_mul]
          omega
    obtain ⟨k, σ', hk, hrn, F2, a2, R2, f2⟩ := Q (B 8 3) 0 none σ (by omega) (fun p h => absurd h (by simp)) (fun p _ h => absurd h (Nat.not_lt_zero p)) (Fr_refl _) ha hR (fun _ _ => rfl) hrow
    refine ⟨k, σ', ?_, hrn, F2, a2, R2, f2⟩
    have h1 := fin_uc u hu (B 8 3) (by omega)
    have h2 : uc u 0 (B 8 3) ≤ d + 1 := by omega
    have h3 := Nat.mul_le_mul_right (1 + KA d) h2
    show k ≤ (d + 1) * (1 + KA d) + 1
    omega
theorem y_alones (h : MA B N b σ) (hV : MV B N σ) (hb : bOk B) (hn : nOk B N) {q : Nat} (hq : q < B 8 4) : ∃ σ', m_X13_alones 118 (nI q) σ = some (nI (aSt B N q).2.length, σ') ∧ Fr DL L0 σ σ' ∧ AQ (aSt B N q) σ' := by
  have n8 := hn.2.2.2
  have v8 := mv_8 hV
  have F1 : Fr DL L0 σ (jd_pi σ 125 0 (nI (N 8))) := Fr_pi (Fr_refl _) (Or.inr (Or.inr (Or.inl rfl)))
  have F2 : Fr DL L0 σ (jd_pi (jd_pi σ 125 0 (nI (N 8))) 118 24 (nI (N 8))) := Fr_pi F1 (Or.inl ⟨rfl, rfl⟩)
  have F3 : Fr DL L0 σ (jd_pi (jd_pi (jd_pi σ 125 0 (nI (N 8))) 118 24 (nI (N 8))) 124 0 (-1)) := Fr_pi F2 (Or.inr (Or.inl rfl))
  obtain ⟨k, σ', hk, rn, F4, a4, -, -⟩ := y_node hb hn hq 6 [] 0 (N 8) (N 8, []) (jd_pi (jd_pi (jd_pi σ 125 0 (nI (N 8))) 118 24 (nI (N 8))) 124 0 (-1)) rfl (by decide) (by decide) n8 (Nat.zero_le 6) (MA_fr h F3) ⟨(pi_ne _ _ (by omega)).trans (pi_eq _ _ _ _), fun i hi => absurd hi (Nat.not_lt_zero i)⟩ (fun i hi => absurd hi (Nat.not_lt_zero i)) ((pi_ne _ _ (show ¬ (125 = 124 ∧ 0 = 0) by omega)).trans ((pi_ne _ _ (show ¬ (125 = 118 ∧ 0 = 24) by omega)).trans (pi_eq _ _ _ _))) (pi_eq _ _ _ _)
  have rn : Rn (alB (nI q)) k (0, 0, 0) (jd_pi (jd_pi (jd_pi σ 125 0 (nI (N 8))) 118 24 (nI (N 8))) 124 0 (-1)) (nI (aSt B N q).2.length, nI 0, nI 0 + -1) σ' := rn
  have hK : KA 6 = 3913 := by decide
  have e := Rn_end (n := jd_fu) rn (show alB (nI q) (nI (aSt B N q).2.length, nI 0, nI 0 + -1) σ' = some (.inr (nI (aSt B N q).2.length), σ') from by
    unfold alB
    rw [jif, if_pos (show nI 0 + -1 < (0 : Int32) by decide)]) (jfu (by omega))
  refine ⟨σ', ?_, Fr_tr F3 F4, a4⟩
  have r1 : (jd_pi σ 125 0 (nI (N 8))).2.1 125 0 = nI (N 8) := pi_eq _ _ _ _
  obtain ⟨hW, hS, hC, hX⟩ := h
  rw [alones_eq, wr_118_15 hW, show (8 : Int32) = nI 8 from rfl, ja_120 hW (by decide), wr_118_22 hW, show (0 : Int32) = nI 0 from rfl, ja_125 hW (by decide), v8, jli, jpi_p, wr_118_22 hW, jia_pi, ja_125 hW (by decide), r1, jli, jpi_p, jpi_p, wr_118_21 hW, jia_pi, jia_pi, ja_124 hW (by decide), jli]
  show jd_b (jd_lp (alB (nI q)) jd_fu (0, 0, 0) (jd_pi (jd_pi (jd_pi σ 125 0 (nI (N 8))) 118 24 (nI (N 8))) 124 0 (-1))) _ = _
  rw [e, jb_some]
theorem MV_fr (h : MV B N σ) (f : Fr DL L0 σ σ') : MV B N σ' := MV_of h fun k => f.2.2.1 120 k (by unfold DL; omega)
end
set_option maxHeartbeats 2000000 in
theorem M_alone {o : BO} {b : Nat} {σ : jd_Hp} (h : RMc o b σ) (q : Int32) : OM (m_X13_alone 118 q σ) (a_alone o q) σ := by
  have F1 : Fr DM L0 σ (jd_pi σ 118 0 0) := Fr_pi (Fr_refl σ) (Or.inl ⟨rfl, by omega⟩)
  have h1 := RMc_fr h F1
  unfold m_X13_alone
  rw [jli]
  generalize jd_pi σ 118 0 0 = τ at *
  obtain ⟨hW, h1⟩ := h1
  rcases o with _ | ⟨B, N⟩
  · have hS : τ.2.2.2 118 3 = none := h1
    simp (disch := omega) only [jb_some, jli, jif, jd_q, jd_K0, jpi_s, jpi_l, jpi_p, jpl_s, jpl_i, jpl_p, if_true, if_false, if_pos, if_neg, not_true_eq_false, not_false_eq_true, ite_true, ite_false, Nat.not_lt_zero, eq_self, Nat.le_refl, Nat.lt_irrefl, Bool.false_eq_true, or0, jo_pi, jo_pl, jia_pi, jia_pl, jo_cpy, jia_cpy, cpy_r, m_X11_grant, m_X11_refuse, m_X13_good, m_X13_refused, reduceCtorEq, nI_add, nI_leI, nI_ltI, nI_eq, pk_mul, abs_nI, max_nI, min_nI, nI_m1, nI_m2, nI_le1, m1_lt, m2_lt, and_nI, or_nI, an_nI, has_nI, bit_nI, bc_nI, bits_nI, lx0, lx1, lx2, lx3, lx4, lx5, lx6, lx7, lx8, lx9, lx10, lx11, lx16, lx20, lx40, lx60, lx90, lx99, lx100, lx200, lx900, lx999, lx9999, jo_118 hW, ja_119 hW, ja_120 hW, ja_121 hW, ja_122 hW, ja_123 hW, ja_124 hW, ja_125 hW, ja_126 hW, ja_127 hW, ja_128 hW, ja_129 hW, wr_118_5 hW, wr_118_15 hW, wr_118_16 hW, wr_118_17 hW, wr_118_18 hW, wr_118_21 hW, wr_118_22 hW, wr_118_23 hW, wr_118_25 hW, wr_118_26 hW, wr_118_27 hW, hS, m_X13_isPerson, m_X13_isPost, m_X13_refusesMinute, m_X13_refusesFear, m_X13_refusesSeed, m_X13_lostBy, m_X13_changes]
    exact OM_of F1
  · obtain ⟨hS, hC, hV, hb, hn⟩ : τ.2.2.2 118 3 = some b ∧ MT B b τ ∧ MV B N τ ∧ bOk B ∧ nOk B N := h1
    have hb2 := hb.2.1
    have hb3 := hb.2.2.1
    have ePe := y_isPerson hS hC hb
    have ePo := y_isPost hS hC hb
    have eW := y_works hW
    have hA := wk_MA hW hS hC hV hb
    have hA2 := wk_MV hV
    have FW := Fr_tr F1 (wk_fr τ)
    show OM _ (a_alone (some (B, N)) q) σ
    unfold a_alone
    rcases hi : ixN q (B 8 4) with _ | i
    · simp (disch := omega) only [jb_some, jli, jif, jd_q, jd_K0, jpi_s, jpi_l, jpi_p, jpl_s, jpl_i, jpl_p, if_true, if_false, if_pos, if_neg, not_true_eq_false, not_false_eq_true, ite_true, ite_false, Nat.not_lt_zero, eq_self, Nat.le_refl, Nat.lt_irrefl, Bool.false_eq_true, or0, jo_pi, jo_pl, jia_pi, jia_pl, jo_cpy, jia_cpy, cpy_r, m_X11_grant, m_X11_refuse, m_X13_good, m_X13_refused, reduceCtorEq, nI_add, nI_leI, nI_ltI, nI_eq, pk_mul, abs_nI, max_nI, min_nI, nI_m1, nI_m2, nI_le1, m1_lt, m2_lt, and_nI, or_nI, an_nI, has_nI, bit_nI, bc_nI, bits_nI, lx0, lx1, lx2, lx3, lx4, lx5, lx6, lx7, lx8, lx9, lx10, lx11, lx16, lx20, lx40, lx60, lx90, lx99, lx100, lx200, lx900, lx999, lx9999, jo_118 hW, ja_119 hW, ja_120 hW, ja_121 hW, ja_122 hW, ja_123 hW, ja_124 hW, ja_125 hW, ja_126 hW, ja_127 hW, ja_128 hW, ja_129 hW, wr_118_5 hW, wr_118_15 hW, wr_118_16 hW, wr_118_17 hW, wr_118_18 hW, wr_118_21 hW, wr_118_22 hW, wr_118_23 hW, wr_118_25 hW, wr_118_26 hW, wr_118_27 hW, ePo, hi, Option.isSome]
      exact OM_of F1
    · obtain ⟨h1, rfl⟩ := ixN_some hi
      obtain ⟨σ', e, F, a1, a2⟩ := y_alones hA hA2 hb hn h1
      simp (disch := omega) only [jb_some, jli, jif, jd_q, jd_K0, jpi_s, jpi_l, jpi_p, jpl_s, jpl_i, jpl_p, if_true, if_false, if_pos, if_neg, not_true_eq_false, not_false_eq_true, ite_true, ite_false, Nat.not_lt_zero, eq_self, Nat.le_refl, Nat.lt_irrefl, Bool.false_eq_true, or0, jo_pi, jo_pl, jia_pi, jia_pl, jo_cpy, jia_cpy, cpy_r, m_X11_grant, m_X11_refuse, m_X13_good, m_X13_refused, reduceCtorEq, nI_add, nI_leI, nI_ltI, nI_eq, pk_mul, abs_nI, max_nI, min_nI, nI_m1, nI_m2, nI_le1, m1_lt, m2_lt, and_nI, or_nI, an_nI, has_nI, bit_nI, bc_nI, bits_nI, lx0, lx1, lx2, lx3, lx4, lx5, lx6, lx7, lx8, lx9, lx10, lx11, lx16, lx20, lx40, lx60, lx90, lx99, lx100, lx200, lx900, lx999, lx9999, jo_118 hW, ja_119 hW, ja_120 hW, ja_121 hW, ja_122 hW, ja_123 hW, ja_124 hW, ja_125 hW, ja_126 hW, ja_127 hW, ja_128 hW, ja_129 hW, wr_118_5 hW, wr_118_15 hW, wr_118_16 hW, wr_118_17 hW, wr_118_18 hW, wr_118_21 hW, wr_118_22 hW, wr_118_23 hW, wr_118_25 hW, wr_118_26 hW, wr_118_27 hW, ePo, hi, Option.isSome, eW, e]
      exact OM_of (Fr_tr FW (DL_DM F))
set_option maxHeartbeats 2000000 in
theorem M_aloneAt {o : BO} {b : Nat} {σ : jd_Hp} (h : RMc o b σ) (q : Int32) (k : Int32) : OM (m_X13_aloneAt 118 q k σ) (a_aloneAt o q k) σ := by
  have F1 : Fr DM L0 σ (jd_pi σ 118 0 0) := Fr_pi (Fr_refl σ) (Or.inl ⟨rfl, by omega⟩)
  have h1 := RMc_fr h F1
  unfold m_X13_aloneAt
  rw [jli]
  generalize jd_pi σ 118 0 0 = τ at *
  obtain ⟨hW, h1⟩ := h1
  rcases o with _ | ⟨B, N⟩
  · have hS : τ.2.2.2 118 3 = none := h1
    simp (disch := omega) only [jb_some, jli, jif, jd_q, jd_K0, jpi_s, jpi_l, jpi_p, jpl_s, jpl_i, jpl_p, if_true, if_false, if_pos, if_neg, not_true_eq_false, not_false_eq_true, ite_true, ite_false, Nat.not_lt_zero, eq_self, Nat.le_refl, Nat.lt_irrefl, Bool.false_eq_true, or0, jo_pi, jo_pl, jia_pi, jia_pl, jo_cpy, jia_cpy, cpy_r, m_X11_grant, m_X11_refuse, m_X13_good, m_X13_refused, reduceCtorEq, nI_add, nI_leI, nI_ltI, nI_eq, pk_mul, abs_nI, max_nI, min_nI, nI_m1, nI_m2, nI_le1, m1_lt, m2_lt, and_nI, or_nI, an_nI, has_nI, bit_nI, bc_nI, bits_nI, lx0, lx1, lx2, lx3, lx4, lx5, lx6, lx7, lx8, lx9, lx10, lx11, lx16, lx20, lx40, lx60, lx90, lx99, lx100, lx200, lx900, lx999, lx9999, jo_118 hW, ja_119 hW, ja_120 hW, ja_121 hW, ja_122 hW, ja_123 hW, ja_124 hW, ja_125 hW, ja_126 hW, ja_127 hW, ja_128 hW, ja_129 hW, wr_118_5 hW, wr_118_15 hW, wr_118_16 hW, wr_118_17 hW, wr_118_18 hW, wr_118_21 hW, wr_118_22 hW, wr_118_23 hW, wr_118_25 hW, wr_118_26 hW, wr_118_27 hW, hS, m_X13_isPerson, m_X13_isPost, m_X13_refusesMinute, m_X13_refusesFear, m_X13_refusesSeed, m_X13_lostBy, m_X13_changes]
    exact OM_of F1
  · obtain ⟨hS, hC, hV, hb, hn⟩ : τ.2.2.2 118 3 = some b ∧ MT B b τ ∧ MV B N τ ∧ bOk B ∧ nOk B N := h1
    have hb2 := hb.2.1
    have hb3 := hb.2.2.1
    have ePe := y_isPerson hS hC hb
    have ePo := y_isPost hS hC hb
    have eW := y_works hW
    have hA := wk_MA hW hS hC hV hb
    have hA2 := wk_MV hV
    have FW := Fr_tr F1 (wk_fr τ)
    show OM _ (a_aloneAt (some (B, N)) q k) σ
    unfold a_aloneAt
    rcases hi : ixN q (B 8 4) with _ | i
    · simp (disch := omega) only [jb_some, jli, jif, jd_q, jd_K0, jpi_s, jpi_l, jpi_p, jpl_s, jpl_i, jpl_p, if_true, if_false, if_pos, if_neg, not_true_eq_false, not_false_eq_true, ite_true, ite_false, Nat.not_lt_zero, eq_self, Nat.le_refl, Nat.lt_irrefl, Bool.false_eq_true, or0, jo_pi, jo_pl, jia_pi, jia_pl, jo_cpy, jia_cpy, cpy_r, m_X11_grant, m_X11_refuse, m_X13_good, m_X13_refused, reduceCtorEq, nI_add, nI_leI, nI_ltI, nI_eq, pk_mul, abs_nI, max_nI, min_nI, nI_m1, nI_m2, nI_le1, m1_lt, m2_lt, and_nI, or_nI, an_nI, has_nI, bit_nI, bc_nI, bits_nI, lx0, lx1, lx2, lx3, lx4, lx5, lx6, lx7, lx8, lx9, lx10, lx11, lx16, lx20, lx40, lx60, lx90, lx99, lx100, lx200, lx900, lx999, lx9999, jo_118 hW, ja_119 hW, ja_120 hW, ja_121 hW, ja_122 hW, ja_123 hW, ja_124 hW, ja_125 hW, ja_126 hW, ja_127 hW, ja_128 hW, ja_129 hW, wr_118_5 hW, wr_118_15 hW, wr_118_16 hW, wr_118_17 hW, wr_118_18 hW, wr_118_21 hW, wr_118_22 hW, wr_118_23 hW, wr_118_25 hW, wr_118_26 hW, wr_118_27 hW, ePo, hi, Option.isSome]
      exact OM_of F1
    · obtain ⟨h1, rfl⟩ := ixN_some hi
      obtain ⟨σ', e, F, a1, a2⟩ := y_alones hA hA2 hb hn h1
      have hW' := Fr_Wd F hA.1
      have l6 := aSt_len (B := B) (N := N) i
      have z1 : nI 0 - nI 1 = - nI 1 := by decide
      unfold m_X13_in
      rcases hj : ixN k (aSt B N i).2.length with _ | j
      · rcases ixN_none (by omega) hj with h2 | ⟨h2, h3⟩
        · simp (disch := omega) only [jb_some, jli, jif, jd_q, jd_K0, jpi_s, jpi_l, jpi_p, jpl_s, jpl_i, jpl_p, if_true, if_false, if_pos, if_neg, not_true_eq_false, not_false_eq_true, ite_true, ite_false, Nat.not_lt_zero, eq_self, Nat.le_refl, Nat.lt_irrefl, Bool.false_eq_true, or0, jo_pi, jo_pl, jia_pi, jia_pl, jo_cpy, jia_cpy, cpy_r, m_X11_grant, m_X11_refuse, m_X13_good, m_X13_refused, reduceCtorEq, nI_add, nI_leI, nI_ltI, nI_eq, pk_mul, abs_nI, max_nI, min_nI, nI_m1, nI_m2, nI_le1, m1_lt, m2_lt, and_nI, or_nI, an_nI, has_nI, bit_nI, bc_nI, bits_nI, lx0, lx1, lx2, lx3, lx4, lx5, lx6, lx7, lx8, lx9, lx10, lx11, lx16, lx20, lx40, lx60, lx90, lx99, lx100, lx200, lx900, lx999, lx9999, jo_118 hW, ja_119 hW, ja_120 hW, ja_121 hW, ja_122 hW, ja_123 hW, ja_124 hW, ja_125 hW, ja_126 hW, ja_127 hW, ja_128 hW, ja_129 hW, wr_118_5 hW, wr_118_15 hW, wr_118_16 hW, wr_118_17 hW, wr_118_18 hW, wr_118_21 hW, wr_118_22 hW, wr_118_23 hW, wr_118_25 hW, wr_118_26 hW, wr_118_27 hW, ePo, hi, hj, Option.isSome, eW, e, h2]
          exact OM_of (Fr_tr FW (DL_DM F))
        · obtain ⟨m, hm, rfl⟩ := nI_of h2
          have h4 : (aSt B N i).2.length ≤ m := (nI_leI (by omega) hm).mp h3
          by_cases hl0 : (aSt B N i).2.length = 0
          · have m1 := m1_ltk hm
            rw [hl0] at e
            simp (disch := omega) only [jb_some, jli, jif, jd_q, jd_K0, jpi_s, jpi_l, jpi_p, jpl_s, jpl_i, jpl_p, if_true, if_false, if_pos, if_neg, not_true_eq_false, not_false_eq_true, ite_true, ite_false, Nat.not_lt_zero, eq_self, Nat.le_refl, Nat.lt_irrefl, Bool.false_eq_true, or0, jo_pi, jo_pl, jia_pi, jia_pl, jo_cpy, jia_cpy, cpy_r, m_X11_grant, m_X11_refuse, m_X13_good, m_X13_refused, reduceCtorEq, nI_add, nI_leI, nI_ltI, nI_eq, pk_mul, abs_nI, max_nI, min_nI, nI_m1, nI_m2, nI_le1, m1_lt, m2_lt, and_nI, or_nI, an_nI, has_nI, bit_nI, bc_nI, bits_nI, lx0, lx1, lx2, lx3, lx4, lx5, lx6, lx7, lx8, lx9, lx10, lx11, lx16, lx20, lx40, lx60, lx90, lx99, lx100, lx200, lx900, lx999, lx9999, jo_118 hW, ja_119 hW, ja_120 hW, ja_121 hW, ja_122 hW, ja_123 hW, ja_124 hW, ja_125 hW, ja_126 hW, ja_127 hW, ja_128 hW, ja_129 hW, wr_118_5 hW, wr_118_15 hW, wr_118_16 hW, wr_118_17 hW, wr_118_18 hW, wr_118_21 hW, wr_118_22 hW, wr_118_23 hW, wr_118_25 hW, wr_118_26 hW, wr_118_27 hW, ePo, hi, hj, Option.isSome, eW, e, z1, m1]
            exact OM_of (Fr_tr FW (DL_DM F))
          · have e9 : nI (aSt B N i).2.length - nI 1 = nI ((aSt B N i).2.length - 1) := nI_sub (by omega)
            have h5 : (aSt B N i).2.length - 1 < m := by omega
            simp (disch := omega) only [jb_some, jli, jif, jd_q, jd_K0, jpi_s, jpi_l, jpi_p, jpl_s, jpl_i, jpl_p, if_true, if_false, if_pos, if_neg, not_true_eq_false, not_false_eq_true, ite_true, ite_false, Nat.not_lt_zero, eq_self, Nat.le_refl, Nat.lt_irrefl, Bool.false_eq_true, or0, jo_pi, jo_pl, jia_pi, jia_pl, jo_cpy, jia_cpy, cpy_r, m_X11_grant, m_X11_refuse, m_X13_good, m_X13_refused, reduceCtorEq, nI_add, nI_leI, nI_ltI, nI_eq, pk_mul, abs_nI, max_nI, min_nI, nI_m1, nI_m2, nI_le1, m1_lt, m2_lt, and_nI, or_nI, an_nI, has_nI, bit_nI, bc_nI, bits_nI, lx0, lx1, lx2, lx3, lx4, lx5, lx6, lx7, lx8, lx9, lx10, lx11, lx16, lx20, lx40, lx60, lx90, lx99, lx100, lx200, lx900, lx999, lx9999, jo_118 hW, ja_119 hW, ja_120 hW, ja_121 hW, ja_122 hW, ja_123 hW, ja_124 hW, ja_125 hW, ja_126 hW, ja_127 hW, ja_128 hW, ja_129 hW, wr_118_5 hW, wr_118_15 hW, wr_118_16 hW, wr_118_17 hW, wr_118_18 hW, wr_118_21 hW, wr_118_22 hW, wr_118_23 hW, wr_118_25 hW, wr_118_26 hW, wr_118_27 hW, ePo, hi, hj, Option.isSome, eW, e, e9, h5]
            exact OM_of (Fr_tr FW (DL_DM F))
      · obtain ⟨h2, rfl⟩ := ixN_some hj
        have a4 := a2 j h2
        have e9 : nI (aSt B N i).2.length - nI 1 = nI ((aSt B N i).2.length - 1) := nI_sub (by omega)
        have h5 : ¬ (aSt B N i).2.length - 1 < j := by omega
        simp (disch := omega) only [jb_some, jli, jif, jd_q, jd_K0, jpi_s, jpi_l, jpi_p, jpl_s, jpl_i, jpl_p, if_true, if_false, if_pos, if_neg, not_true_eq_false, not_false_eq_true, ite_true, ite_false, Nat.not_lt_zero, eq_self, Nat.le_refl, Nat.lt_irrefl, Bool.false_eq_true, or0, jo_pi, jo_pl, jia_pi, jia_pl, jo_cpy, jia_cpy, cpy_r, m_X11_grant, m_X11_refuse, m_X13_good, m_X13_refused, reduceCtorEq, nI_add, nI_leI, nI_ltI, nI_eq, pk_mul, abs_nI, max_nI, min_nI, nI_m1, nI_m2, nI_le1, m1_lt, m2_lt, and_nI, or_nI, an_nI, has_nI, bit_nI, bc_nI, bits_nI, lx0, lx1, lx2, lx3, lx4, lx5, lx6, lx7, lx8, lx9, lx10, lx11, lx16, lx20, lx40, lx60, lx90, lx99, lx100, lx200, lx900, lx999, lx9999, jo_118 hW, ja_119 hW, ja_120 hW, ja_121 hW, ja_122 hW, ja_123 hW, ja_124 hW, ja_125 hW, ja_126 hW, ja_127 hW, ja_128 hW, ja_129 hW, wr_118_5 hW, wr_118_15 hW, wr_118_16 hW, wr_118_17 hW, wr_118_18 hW, wr_118_21 hW, wr_118_22 hW, wr_118_23 hW, wr_118_25 hW, wr_118_26 hW, wr_118_27 hW, ePo, hi, hj, Option.isSome, eW, e, e9, h5, a4, wr_118_23 hW', ja_126 hW']
        exact OM_of (Fr_tr FW (DL_DM F))
set_option maxHeartbeats 2000000 in
theorem M_aloneFree {o : BO} {b : Nat} {σ : jd_Hp} (h : RMc o b σ) (q : Int32) : OM (m_X13_aloneFree 118 q σ) (a_aloneFree o q) σ := by
  have F1 : Fr DM L0 σ (jd_pi σ 118 0 0) := Fr_pi (Fr_refl σ) (Or.inl ⟨rfl, by omega⟩)
  have h1 := RMc_fr h F1
  unfold m_X13_aloneFree
  rw [jli]
  generalize jd_pi σ 118 0 0 = τ at *
  obtain ⟨hW, h1⟩ := h1
  rcases o with _ | ⟨B, N⟩
  · have hS : τ.2.2.2 118 3 = none := h1
    simp (disch := omega) only [jb_some, jli, jif, jd_q, jd_K0, jpi_s, jpi_l, jpi_p, jpl_s, jpl_i, jpl_p, if_true, if_false, if_pos, if_neg, not_true_eq_false, not_false_eq_true, ite_true, ite_false, Nat.not_lt_zero, eq_self, Nat.le_refl, Nat.lt_irrefl, Bool.false_eq_true, or0, jo_pi, jo_pl, jia_pi, jia_pl, jo_cpy, jia_cpy, cpy_r, m_X11_grant, m_X11_refuse, m_X13_good, m_X13_refused, reduceCtorEq, nI_add, nI_leI, nI_ltI, nI_eq, pk_mul, abs_nI, max_nI, min_nI, nI_m1, nI_m2, nI_le1, m1_lt, m2_lt, and_nI, or_nI, an_nI, has_nI, bit_nI, bc_nI, bits_nI, lx0, lx1, lx2, lx3, lx4, lx5, lx6, lx7, lx8, lx9, lx10, lx11, lx16, lx20, lx40, lx60, lx90, lx99, lx100, lx200, lx900, lx999, lx9999, jo_118 hW, ja_119 hW, ja_120 hW, ja_121 hW, ja_122 hW, ja_123 hW, ja_124 hW, ja_125 hW, ja_126 hW, ja_127 hW, ja_128 hW, ja_129 hW, wr_118_5 hW, wr_118_15 hW, wr_118_16 hW, wr_118_17 hW, wr_118_18 hW, wr_118_21 hW, wr_118_22 hW, wr_118_23 hW, wr_118_25 hW, wr_118_26 hW, wr_118_27 hW, hS, m_X13_isPerson, m_X13_isPost, m_X13_refusesMinute, m_X13_refusesFear, m_X13_refusesSeed, m_X13_lostBy, m_X13_changes]
    exact OM_of F1
  · obtain ⟨hS, hC, hV, hb, hn⟩ : τ.2.2.2 118 3 = some b ∧ MT B b τ ∧ MV B N τ ∧ bOk B ∧ nOk B N := h1
    have hb2 := hb.2.1
    have hb3 := hb.2.2.1
    have ePe := y_isPerson hS hC hb
    have ePo := y_isPost hS hC hb
    have eW := y_works hW
    have hA := wk_MA hW hS hC hV hb
    have hA2 := wk_MV hV
    have FW := Fr_tr F1 (wk_fr τ)
    show OM _ (a_aloneFree (some (B, N)) q) σ
    unfold a_aloneFree
    rcases hi : ixN q (B 8 4) with _ | i
    · simp (disch := omega) only [jb_some, jli, jif, jd_q, jd_K0, jpi_s, jpi_l, jpi_p, jpl_s, jpl_i, jpl_p, if_true, if_false, if_pos, if_neg, not_true_eq_false, not_false_eq_true, ite_true, ite_false, Nat.not_lt_zero, eq_self, Nat.le_refl, Nat.lt_irrefl, Bool.false_eq_true, or0, jo_pi, jo_pl, jia_pi, jia_pl, jo_cpy, jia_cpy, cpy_r, m_X11_grant, m_X11_refuse, m_X13_good, m_X13_refused, reduceCtorEq, nI_add, nI_leI, nI_ltI, nI_eq, pk_mul, abs_nI, max_nI, min_nI, nI_m1, nI_m2, nI_le1, m1_lt, m2_lt, and_nI, or_nI, an_nI, has_nI, bit_nI, bc_nI, bits_nI, lx0, lx1, lx2, lx3, lx4, lx5, lx6, lx7, lx8, lx9, lx10, lx11, lx16, lx20, lx40, lx60, lx90, lx99, lx100, lx200, lx900, lx999, lx9999, jo_118 hW, ja_119 hW, ja_120 hW, ja_121 hW, ja_122 hW, ja_123 hW, ja_124 hW, ja_125 hW, ja_126 hW, ja_127 hW, ja_128 hW, ja_129 hW, wr_118_5 hW, wr_118_15 hW, wr_118_16 hW, wr_118_17 hW, wr_118_18 hW, wr_118_21 hW, wr_118_22 hW, wr_118_23 hW, wr_118_25 hW, wr_118_26 hW, wr_118_27 hW, ePo, hi, Option.isSome]
      exact OM_of F1
    · obtain ⟨h1, rfl⟩ := ixN_some hi
      obtain ⟨σ', e, F, a1, a2⟩ := y_alones hA hA2 hb hn h1
      simp (disch := omega) only [jb_some, jli, jif, jd_q, jd_K0, jpi_s, jpi_l, jpi_p, jpl_s, jpl_i, jpl_p, if_true, if_false, if_pos, if_neg, not_true_eq_false, not_false_eq_true, ite_true, ite_false, Nat.not_lt_zero, eq_self, Nat.le_refl, Nat.lt_irrefl, Bool.false_eq_true, or0, jo_pi, jo_pl, jia_pi, jia_pl, jo_cpy, jia_cpy, cpy_r, m_X11_grant, m_X11_refuse, m_X13_good, m_X13_refused, reduceCtorEq, nI_add, nI_leI, nI_ltI, nI_eq, pk_mul, abs_nI, max_nI, min_nI, nI_m1, nI_m2, nI_le1, m1_lt, m2_lt, and_nI, or_nI, an_nI, has_nI, bit_nI, bc_nI, bits_nI, lx0, lx1, lx2, lx3, lx4, lx5, lx6, lx7, lx8, lx9, lx10, lx11, lx16, lx20, lx40, lx60, lx90, lx99, lx100, lx200, lx900, lx999, lx9999, jo_118 hW, ja_119 hW, ja_120 hW, ja_121 hW, ja_122 hW, ja_123 hW, ja_124 hW, ja_125 hW, ja_126 hW, ja_127 hW, ja_128 hW, ja_129 hW, wr_118_5 hW, wr_118_15 hW, wr_118_16 hW, wr_118_17 hW, wr_118_18 hW, wr_118_21 hW, wr_118_22 hW, wr_118_23 hW, wr_118_25 hW, wr_118_26 hW, wr_118_27 hW, ePo, hi, Option.isSome, eW, e, a1]
      exact OM_of (Fr_tr FW (DL_DM F))
set_option maxHeartbeats 2000000 in
theorem M_bestAlone {o : BO} {b : Nat} {σ : jd_Hp} (h : RMc o b σ)  : OM (m_X13_bestAlone 118 σ) (a_bestAlone o) σ := by
  have F1 : Fr DM L0 σ (jd_pi σ 118 0 0) := Fr_pi (Fr_refl σ) (Or.inl ⟨rfl, by omega⟩)
  have h1 := RMc_fr h F1
  unfold m_X13_bestAlone
  rw [jli]
  generalize jd_pi σ 118 0 0 = τ at *
  obtain ⟨hW, h1⟩ := h1
  rcases o with _ | ⟨B, N⟩
  · have hS : τ.2.2.2 118 3 = none := h1
    simp (disch := omega) only [jb_some, jli, jif, jd_q, jd_K0, jpi_s, jpi_l, jpi_p, jpl_s, jpl_i, jpl_p, if_true, if_false, if_pos, if_neg, not_true_eq_false, not_false_eq_true, ite_true, ite_false, Nat.not_lt_zero, eq_self, Nat.le_refl, Nat.lt_irrefl, Bool.false_eq_true, or0, jo_pi, jo_pl, jia_pi, jia_pl, jo_cpy, jia_cpy, cpy_r, m_X11_grant, m_X11_refuse, m_X13_good, m_X13_refused, reduceCtorEq, nI_add, nI_leI, nI_ltI, nI_eq, pk_mul, abs_nI, max_nI, min_nI, nI_m1, nI_m2, nI_le1, m1_lt, m2_lt, and_nI, or_nI, an_nI, has_nI, bit_nI, bc_nI, bits_nI, lx0, lx1, lx2, lx3, lx4, lx5, lx6, lx7, lx8, lx9, lx10, lx11, lx16, lx20, lx40, lx60, lx90, lx99, lx100, lx200, lx900, lx999, lx9999, jo_118 hW, ja_119 hW, ja_120 hW, ja_121 hW, ja_122 hW, ja_123 hW, ja_124 hW, ja_125 hW, ja_126 hW, ja_127 hW, ja_128 hW, ja_129 hW, wr_118_5 hW, wr_118_15 hW, wr_118_16 hW, wr_118_17 hW, wr_118_18 hW, wr_118_21 hW, wr_118_22 hW, wr_118_23 hW, wr_118_25 hW, wr_118_26 hW, wr_118_27 hW, hS, m_X13_isPerson, m_X13_isPost, m_X13_refusesMinute, m_X13_refusesFear, m_X13_refusesSeed, m_X13_lostBy, m_X13_changes]
    exact OM_of F1
  · obtain ⟨hS, hC, hV, hb, hn⟩ : τ.2.2.2 118 3 = some b ∧ MT B b τ ∧ MV B N τ ∧ bOk B ∧ nOk B N := h1
    have hb2 := hb.2.1
    have hb3 := hb.2.2.1
    have ePe := y_isPerson hS hC hb
    have ePo := y_isPost hS hC hb
    have eW := y_works hW
    have hA := wk_MA hW hS hC hV hb
    have hA2 := wk_MV hV
    have FW := Fr_tr F1 (wk_fr τ)
    show OM _ (a_bestAlone (some (B, N))) σ
    unfold a_bestAlone
    have one := jlp_inv (body := fun (s3 : Int32 × Int32 × Int32) σ3 =>
jd_o σ3 (13, 29) (some 118) fun a5 =>
jd_o σ3 (12, 20) (σ3.2.2.2 a5 3) fun a6 =>
jd_if ((σ3.2.1 a6 4) ≤ s3.2.2) (
some ((Sum.inr s3.1), σ3)) (
jd_b (m_X13_alones a5 s3.2.2 σ3) fun r7 σ7 =>
jd_if (s3.2.1 < r7) (
some (Sum.inl (s3.2.2, r7, (s3.2.2 + 1)), σ7)) (
some (Sum.inl (s3.1, s3.2.1, (s3.2.2 + 1)), σ7)))) (B 8 4) (fun i st σ' => st = (oI (argQ (fun q => (aSt B N q).2.length) i), oQ (argQ (fun q => (aSt B N q).2.length) i), nI i) ∧ Fr DL L0 (wk τ) σ') (fun t σ' => t = oI (argQ (fun q => (aSt B N q).2.length) (B 8 4)) ∧ Fr DL L0 (wk τ) σ') ?_ ?_ jd_fu (jfu (by omega)) (-2, -1, 0) (wk τ) ⟨rfl, Fr_refl _⟩
    · obtain ⟨_, σ9, h9, rfl, F9⟩ := one
      have hW9 := Fr_Wd F9 hA.1
      rw [jif, hS, if_pos (by simp), eW, jb_some, h9, jb_some, jo_118 hW9]
      exact OM_of (t := 0) (Fr_tr FW (DL_DM F9))
    · rintro i st σ' hi ⟨rfl, F'⟩
      have A' := MA_fr hA F'
      have ni : ¬ B 8 4 ≤ i := by omega
      obtain ⟨σ2, e, F2, a1, a2⟩ := y_alones A' (MV_fr hA2 F') hb hn hi
      have l6 := aSt_len (B := B) (N := N) i
      obtain ⟨hW', hS', hC', hX'⟩ := A'
      have s4 := mb_s4 hC'
      have jM := fun {α : Type} {A : Nat → Option (α × jd_Hp)} => mb_o (α := α) (A := A) hC'
      rcases hq : argQ (fun q => (aSt B N q).2.length) i with _ | x
      · have hq' : argQ (fun q => (aSt B N q).2.length) (i + 1) = some (i, (aSt B N i).2.length) := by
          show (argQ _ i).elim _ _ = _
          rw [hq]
          rfl
        refine ⟨_, σ2, ?_, by rw [hq'], Fr_tr F' F2⟩
        have m1 := m1_ltk (a := (aSt B N i).2.length) (by omega)
        simp (disch := omega) only [jb_some, jli, jif, jd_q, jd_K0, jpi_s, jpi_l, jpi_p, jpl_s, jpl_i, jpl_p, if_true, if_false, if_pos, if_neg, not_true_eq_false, not_false_eq_true, ite_true, ite_false, Nat.not_lt_zero, eq_self, Nat.le_refl, Nat.lt_irrefl, Bool.false_eq_true, or0, jo_pi, jo_pl, jia_pi, jia_pl, jo_cpy, jia_cpy, cpy_r, m_X11_grant, m_X11_refuse, m_X13_good, m_X13_refused, reduceCtorEq, nI_add, nI_leI, nI_ltI, nI_eq, pk_mul, abs_nI, max_nI, min_nI, nI_m1, nI_m2, nI_le1, m1_lt, m2_lt, and_nI, or_nI, an_nI, has_nI, bit_nI, bc_nI, bits_nI, lx0, lx1, lx2, lx3, lx4, lx5, lx6, lx7, lx8, lx9, lx10, lx11, lx16, lx20, lx40, lx60, lx90, lx99, lx100, lx200, lx900, lx999, lx9999, ni, e, oI, oQ, Option.elim, hS', s4, jM, m1, jo_118 hW']
      · have x6 := argQ_le (fun q => aSt_len (B := B) (N := N) q) hq
        by_cases hx : (aSt B N i).2.length ≤ x.2
        · have hq' : argQ (fun q => (aSt B N q).2.length) (i + 1) = some x := by
            show (argQ _ i).elim _ _ = _
            rw [hq]
            exact if_pos hx
          refine ⟨_, σ2, ?_, by rw [hq'], Fr_tr F' F2⟩
          have hx' : ¬ x.2 < (aSt B N i).2.length := by omega
          simp (disch := omega) only [jb_some, jli, jif, jd_q, jd_K0, jpi_s, jpi_l, jpi_p, jpl_s, jpl_i, jpl_p, if_true, if_false, if_pos, if_neg, not_true_eq_false, not_false_eq_true, ite_true, ite_false, Nat.not_lt_zero, eq_self, Nat.le_refl, Nat.lt_irrefl, Bool.false_eq_true, or0, jo_pi, jo_pl, jia_pi, jia_pl, jo_cpy, jia_cpy, cpy_r, m_X11_grant, m_X11_refuse, m_X13_good, m_X13_refused, reduceCtorEq, nI_add, nI_leI, nI_ltI, nI_eq, pk_mul, abs_nI, max_nI, min_nI, nI_m1, nI_m2, nI_le1, m1_lt, m2_lt, and_nI, or_nI, an_nI, has_nI, bit_nI, bc_nI, bits_nI, lx0, lx1, lx2, lx3, lx4, lx5, lx6, lx7, lx8, lx9, lx10, lx11, lx16, lx20, lx40, lx60, lx90, lx99, lx100, lx200, lx900, lx999, lx9999, ni, e, oI, oQ, hx', Option.elim, hS', s4, jM, jo_118 hW']
        · have hq' : argQ (fun q => (aSt B N q).2.length) (i + 1) = some (i, (aSt B N i).2.length) := by
            show (argQ _ i).elim _ _ = _
            rw [hq]
            exact if_neg hx
          refine ⟨_, σ2, ?_, by rw [hq'], Fr_tr F' F2⟩
          have hx' : x.2 < (aSt B N i).2.length := by omega
          simp (disch := omega) only [jb_some, jli, jif, jd_q, jd_K0, jpi_s, jpi_l, jpi_p, jpl_s, jpl_i, jpl_p, if_true, if_false, if_pos, if_neg, not_true_eq_false, not_false_eq_true, ite_true, ite_false, Nat.not_lt_zero, eq_self, Nat.le_refl, Nat.lt_irrefl, Bool.false_eq_true, or0, jo_pi, jo_pl, jia_pi, jia_pl, jo_cpy, jia_cpy, cpy_r, m_X11_grant, m_X11_refuse, m_X13_good, m_X13_refused, reduceCtorEq, nI_add, nI_leI, nI_ltI, nI_eq, pk_mul, abs_nI, max_nI, min_nI, nI_m1, nI_m2, nI_le1, m1_lt, m2_lt, and_nI, or_nI, an_nI, has_nI, bit_nI, bc_nI, bits_nI, lx0, lx1, lx2, lx3, lx4, lx5, lx6, lx7, lx8, lx9, lx10, lx11, lx16, lx20, lx40, lx60, lx90, lx99, lx100, lx200, lx900, lx999, lx9999, ni, e, oI, oQ, hx', Option.elim, hS', s4, jM, jo_118 hW']
    · rintro st σ' ⟨rfl, F'⟩
      obtain ⟨hW', hS', hC', hX'⟩ := MA_fr hA F'
      have s4 := mb_s4 hC'
      have jM := fun {α : Type} {A : Nat → Option (α × jd_Hp)} => mb_o (α := α) (A := A) hC'
      refine ⟨_, σ', ?_, rfl, F'⟩
      simp (disch := omega) only [jb_some, jli, jif, jd_q, jd_K0, jpi_s, jpi_l, jpi_p, jpl_s, jpl_i, jpl_p, if_true, if_false, if_pos, if_neg, not_true_eq_false, not_false_eq_true, ite_true, ite_false, Nat.not_lt_zero, eq_self, Nat.le_refl, Nat.lt_irrefl, Bool.false_eq_true, or0, jo_pi, jo_pl, jia_pi, jia_pl, jo_cpy, jia_cpy, cpy_r, m_X11_grant, m_X11_refuse, m_X13_good, m_X13_refused, reduceCtorEq, nI_add, nI_leI, nI_ltI, nI_eq, pk_mul, abs_nI, max_nI, min_nI, nI_m1, nI_m2, nI_le1, m1_lt, m2_lt, and_nI, or_nI, an_nI, has_nI, bit_nI, bc_nI, bits_nI, lx0, lx1, lx2, lx3, lx4, lx5, lx6, lx7, lx8, lx9, lx10, lx11, lx16, lx20, lx40, lx60, lx90, lx99, lx100, lx200, lx900, lx999, lx9999, hS', s4, jM, jo_118 hW']
