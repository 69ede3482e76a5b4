/-! P (17): just so many sink -/
def Wy (B : Bch) (N : Nw) : Nat → Nat → Nat
  | 0, k => if k = 0 then 1 else 0
  | n + 1, k => if skC B N n then Wy B N n k * (100 - B 3 n) + (if k = 0 then 0 else Wy B N n (k - 1) * B 3 n) else Wy B N n k
def skD (B : Bch) (N : Nw) (p : Nat) : Nat := if skC B N p then 100 else 1
theorem smN_add (f : Nat → Nat) (a : Nat) : ∀ b, smN f (a + b) = smN f a + smN (fun x => f (a + x)) b
  | 0 => rfl
  | b + 1 => by
    show smN f (a + b) + f (a + b) = smN f a + (smN (fun x => f (a + x)) b + f (a + b))
    rw [smN_add f a b]
    omega
theorem smN_mul (f : Nat → Nat) (c : Nat) : ∀ n, smN (fun x => f x * c) n = smN f n * c
  | 0 => (Nat.zero_mul c).symm
  | n + 1 => by
    show smN (fun x => f x * c) n + f n * c = (smN f n + f n) * c
    rw [smN_mul f c n, Nat.add_mul]
theorem smN_0 : ∀ n, smN (fun _ => 0) n = 0
  | 0 => rfl
  | n + 1 => smN_0 n
def gS (B : Bch) (N : Nw) (n k s : Nat) : Nat := if s &&& (63 ^^^ bN (skC B N) n) = 0 ∧ pc s = k then prN (parF B s (bN (skC B N) n)) n else 0
theorem fin_g1 : ∀ n, n < 6 → ∀ m, m < 2 ^ n → ∀ x, x < 2 ^ n → (x &&& (63 ^^^ (m + 2 ^ n)) = x &&& (63 ^^^ m)) ∧ ((2 ^ n + x) &&& (63 ^^^ (m + 2 ^ n)) = x &&& (63 ^^^ m)) ∧ ¬ ((2 ^ n + x) &&& (63 ^^^ m) = 0) := by decide +kernel
theorem fin_g2 : ∀ n, n < 6 → ∀ x, x < 2 ^ n → pc (2 ^ n + x) = pc x + 1 ∧ x.testBit n = false ∧ (2 ^ n + x).testBit n = true ∧ ∀ p, p < n → (2 ^ n + x).testBit p = x.testBit p := by decide +kernel
theorem fin_g3 : ∀ s, s < 64 → ∀ m, m < 64 → s &&& (63 ^^^ m) = 0 → s ≤ m := by decide +kernel
theorem bN_test' (c : Nat → Bool) {n p : Nat} (hn : n ≤ 6) (hp : p < n) : (bN c n).testBit p = c p := by
  rw [bN_test c hn (by omega)]
  simp [hp]
theorem par_lo (B : Bch) (N : Nw) {n s : Nat} (hn : n + 1 ≤ 6) : prN (parF B s (bN (skC B N) (n + 1))) n = prN (parF B s (bN (skC B N) n)) n := prN_congr fun i hi => by
  unfold parF
  rw [bN_test' _ hn (by omega), bN_test' _ (show n ≤ 6 by omega) hi]
theorem gS_eq (B : Bch) (N : Nw) : ∀ {n : Nat}, n ≤ 6 → ∀ k, smN (gS B N n k) (2 ^ n) = Wy B N n k
  | 0, _, k => by
    show 0 + gS B N 0 k 0 = _
    unfold gS Wy
    by_cases h : k = 0
    · subst h
      rw [Nat.zero_add, if_pos ⟨Nat.zero_and _, by decide⟩]
      rfl
    · rw [if_neg h, if_neg]
      intro h2
      exact h (h2.2.symm.trans (by decide))
  | n + 1, hn, k => by
    have ih := gS_eq B N (n := n) (by omega)
    have hm := bN_lt (skC B N) n
    have lo1 : ∀ s, prN (parF B s (bN (skC B N) (n + 1))) (n + 1) = prN (parF B s (bN (skC B N) n)) n * (if skC B N n then (if s.testBit n then B 3 n else 100 - B 3 n) else 1) := fun s => by
      show prN (parF B s (bN (skC B N) (n + 1))) n * parF B s (bN (skC B N) (n + 1)) n = _
      rw [par_lo B N hn]
      congr 1
      unfold parF
      rw [bN_test' _ hn (by omega)]
    rw [show 2 ^ (n + 1) = 2 ^ n + 2 ^ n by rw [Nat.pow_succ]; omega, smN_add]
    rcases hs : skC B N n with _ | _
    · have hb : bN (skC B N) (n + 1) = bN (skC B N) n := bN_f hs
      have h1 : smN (gS B N (n + 1) k) (2 ^ n) = smN (gS B N n k) (2 ^ n) := smN_congr fun x hx => by
        unfold gS
        rw [lo1, hb, hs]
        simp
      have h2 : smN (fun x => gS B N (n + 1) k (2 ^ n + x)) (2 ^ n) = smN (fun _ => 0) (2 ^ n) := smN_congr fun x hx => by
        show gS B N (n + 1) k (2 ^ n + x) = 0
        unfold gS
        rw [hb, if_neg]
        intro h
        exact (fin_g1 n (by omega) _ hm x hx).2.2 h.1
      rw [h1, h2, smN_0, ih]
      show _ = (if skC B N n then _ else Wy B N n k)
      rw [hs]
      simp
    · have hb : bN (skC B N) (n + 1) = bN (skC B N) n + 2 ^ n := bN_t hs
      have h1 : smN (gS B N (n + 1) k) (2 ^ n) = smN (fun x => gS B N n k x * (100 - B 3 n)) (2 ^ n) := smN_congr fun x hx => by
        unfold gS
        rw [lo1, hb, hs, (fin_g1 n (by omega) _ hm x hx).1, (fin_g2 n (by omega) x hx).2.1]
        simp only [if_true, Bool.false_eq_true, if_false]
        split
        · rfl
        · exact (Nat.zero_mul _).symm
      have h2 : smN (fun x => gS B N (n + 1) k (2 ^ n + x)) (2 ^ n) = if k = 0 then 0 else Wy B N n (k - 1) * B 3 n := by
        by_cases hk : k = 0
        · rw [if_pos hk, show smN (fun x => gS B N (n + 1) k (2 ^ n + x)) (2 ^ n) = smN (fun _ => 0) (2 ^ n) from smN_congr fun x hx => by
            show gS B N (n + 1) k (2 ^ n + x) = 0
            unfold gS
            rw [if_neg]
            intro h
            rw [(fin_g2 n (by omega) x hx).1] at h
            omega, smN_0]
        · rw [if_neg hk, ← ih (k - 1), ← smN_mul]
          refine smN_congr fun x hx => ?_
          show gS B N (n + 1) k (2 ^ n + x) = gS B N n (k - 1) x * B 3 n
          unfold gS
          rw [lo1, hb, hs, (fin_g1 n (by omega) _ hm x hx).2.1, (fin_g2 n (by omega) x hx).1, (fin_g2 n (by omega) x hx).2.2.1]
          have hp : prN (parF B (2 ^ n + x) (bN (skC B N) n)) n = prN (parF B x (bN (skC B N) n)) n := prN_congr fun i hi => by
            unfold parF
            rw [(fin_g2 n (by omega) x hx).2.2.2 i hi]
          rw [hp]
          simp only [if_true]
          by_cases hc : x &&& (63 ^^^ bN (skC B N) n) = 0 ∧ pc x = k - 1
          · rw [if_pos ⟨hc.1, by omega⟩, if_pos hc]
          · rw [if_neg (fun h => hc ⟨h.1, by omega⟩), if_neg hc, Nat.zero_mul]
      rw [h1, h2, smN_mul, ih]
      show _ = (if skC B N n then Wy B N n k * (100 - B 3 n) + (if k = 0 then 0 else Wy B N n (k - 1) * B 3 n) else Wy B N n k)
      rw [hs, if_pos rfl]
theorem smN_tail {f : Nat → Nat} {a b : Nat} (hab : a ≤ b) (h : ∀ x, a ≤ x → x < b → f x = 0) : smN f b = smN f a := by
  obtain ⟨d, rfl⟩ : ∃ d, b = a + d := ⟨b - a, by omega⟩
  rw [smN_add, smN_congr (g := fun _ => 0) (fun i hi => h (a + i) (by omega) (by omega)), smN_0]
  rfl
theorem gS_sum {B : Bch} (hb : bOk B) (N : Nw) (k : Nat) : smN (gS B N (B 8 3) k) (sinkers B N + 1) = Wy B N (B 8 3) k := by
  rw [← gS_eq B N hb.2.1 k]
  have h1 := bN_lt (skC B N) (B 8 3)
  have p6 := pow6 hb.2.1
  have h1' : sinkers B N < 2 ^ B 8 3 := h1
  refine (smN_tail (by omega) fun x hx hx2 => ?_).symm
  unfold gS
  rw [if_neg]
  intro h
  have := fin_g3 x (by omega) (sinkers B N) (by omega) h.1
  omega
theorem W_le {B : Bch} (hb : bOk B) (N : Nw) : ∀ n k, Wy B N n k ≤ 100 ^ n
  | 0, k => by
    unfold Wy
    split
    · exact Nat.le_refl 1
    · exact Nat.zero_le _
  | n + 1, k => by
    have bp := (hb.2.2.2.2.2.2.2.2.2.2 n).2.2.2.1
    have h1 := W_le hb N n k
    have h2 := W_le hb N n (k - 1)
    rw [Nat.pow_succ]
    show (if skC B N n then Wy B N n k * (100 - B 3 n) + (if k = 0 then 0 else Wy B N n (k - 1) * B 3 n) else Wy B N n k) ≤ _
    split
    · have h3 : Wy B N n k * (100 - B 3 n) ≤ 100 ^ n * (100 - B 3 n) := Nat.mul_le_mul_right _ h1
      have h4 : Wy B N n (k - 1) * B 3 n ≤ 100 ^ n * B 3 n := Nat.mul_le_mul_right _ h2
      have h5 : 100 ^ n * (100 - B 3 n) + 100 ^ n * B 3 n = 100 ^ n * 100 := by rw [← Nat.mul_add, Nat.sub_add_cancel bp]
      split <;> omega
    · omega
section
variable {B : Bch} {N : Nw} {T b : Nat} {σ : jd_Hp}
theorem jl_107 {α : Type} {j : Nat} {A : Nat → Nat → Option (α × jd_Hp)} (hW : Wd σ) (hj : j < 7) : jd_ia σ 23 (some 107) (nI j) A = A 107 j := jia_of (wd hW 107 rfl) hj (by decide)
theorem pl_eq (σ : jd_Hp) (a k : Nat) (v : Int64) : (jd_pl σ a k v).2.2.1 a k = v := by rw [jpl_r, if_pos rfl, if_pos rfl]
theorem pl_ne (σ : jd_Hp) {a k b j : Nat} (v : Int64) (h : ¬ (b = a ∧ j = k)) : (jd_pl σ a k v).2.2.1 b j = σ.2.2.1 b j := by
  rw [jpl_r]
  by_cases h1 : b = a
  · rw [if_pos h1, if_neg (fun h2 => h ⟨h1, h2⟩)]
  · rw [if_neg h1]
set_option maxHeartbeats 4000000 in
theorem x_soManySink (h : CX B N T σ) (hb : bOk B) {m : Nat} (hm : m ≤ 6) : ∃ σ', m_X1_soManySink 106 (some 40) (nI m) (some 108) σ = some ((), σ') ∧ Fr DQ LQ σ σ' ∧ σ'.2.2.1 108 0 = lN (frV (Wy B N (B 8 3) m) (prN (skD B N) (B 8 3)) (nI 0)) ∧ σ'.2.2.1 108 1 = lN (frV (Wy B N (B 8 3) m) (prN (skD B N) (B 8 3)) (nI 1)) := by
  have hh := h
  have hbb := hb
  have b2 := hb.2.1
  have hW0 := h.1.1
  unfold m_X1_soManySink
  have one := jlp_inv (body := fun (s1 : Int32) σ1 =>
jd_if (6 < s1) (
some ((Sum.inr ()), σ1)) (
jd_o σ1 (1, 2) (some 106) fun a3 =>
jd_if (¬ s1 = 0) (
jd_ia σ1 23 (σ1.2.2.2 a3 0) s1 fun a4 j4 =>
jd_li (jd_pl σ1 a4 j4 0) fun τ5 =>
some (Sum.inl (s1 + 1), τ5)) (
jd_ia σ1 23 (σ1.2.2.2 a3 0) s1 fun a6 j6 =>
jd_li (jd_pl σ1 a6 j6 1) fun τ7 =>
some (Sum.inl (s1 + 1), τ7)))) 7 (fun i s σ' => s = nI i ∧ Fr DQ LQ σ σ' ∧ ∀ k, k < i → σ'.2.2.1 107 k = lN (Wy B N 0 k)) (fun _ σ' => Fr DQ LQ σ σ' ∧ ∀ k, k < 7 → σ'.2.2.1 107 k = lN (Wy B N 0 k)) ?_ ?_ jd_fu (jfu (by omega)) 0 σ ⟨rfl, Fr_refl σ, fun k hk => absurd hk (Nat.not_lt_zero k)⟩
  · obtain ⟨_, σ2, h2, F2, w2⟩ := one
    rw [h2, jb_some]
    have two := jlp_inv (body := fun (s8 : Int64 × Int32) σ8 =>
jd_o σ8 (6, 8) (some 40) fun a10 =>
jd_o σ8 (10, 16) (σ8.2.2.2 a10 5) fun a11 =>
jd_if ((σ8.2.1 a11 11) ≤ s8.2) (
some ((Sum.inr s8.1), σ8)) (
jd_b (m_X6_sinks a10 s8.2 σ8) fun r12 σ12 =>
jd_if (r12 = 0) (
some (Sum.inl (s8.1, (s8.2 + 1)), σ12)) (
jd_o σ12 (10, 16) (σ12.2.2.2 a10 5) fun a13 =>
jd_ia σ12 20 (σ12.2.2.2 a13 3) s8.2 fun a14 j14 =>
jd_li (σ12.2.1 a14 j14) fun x15 =>
jd_b (jd_lp (S := Int32) (T := Unit) (fun s16 σ16 =>
jd_if (s16 ≤ 0) (
some ((Sum.inr ()), σ16)) (
jd_o σ16 (1, 2) (some 106) fun a18 =>
jd_ia σ16 23 (σ16.2.2.2 a18 0) s16 fun a19 j19 =>
jd_ia σ16 23 (σ16.2.2.2 a18 0) (s16 - 1) fun a20 j20 =>
jd_ia σ16 23 (σ16.2.2.2 a18 0) s16 fun a21 j21 =>
jd_li (jd_pl σ16 a21 j21 (((σ16.2.2.1 a19 j19) * (100 - x15).toInt64) + ((σ16.2.2.1 a20 j20) * x15.toInt64))) fun τ22 =>
some (Sum.inl (s16 + (-1)), τ22))) jd_fu 6 σ12) fun t17 σ17 =>
jd_o σ17 (1, 2) (some 106) fun a23 =>
jd_ia σ17 23 (σ17.2.2.2 a23 0) 0 fun a24 j24 =>
jd_ia σ17 23 (σ17.2.2.2 a23 0) 0 fun a25 j25 =>
jd_li (jd_pl σ17 a25 j25 ((σ17.2.2.1 a24 j24) * (100 - x15).toInt64)) fun τ26 =>
jd_li (s8.1 * 100) fun x27 =>
some (Sum.inl (x27, (s8.2 + 1)), τ26)))) (B 8 3) (fun i s σ' => s = (lN (prN (skD B N) i), nI i) ∧ Fr DQ LQ σ σ' ∧ ∀ k, k < 7 → σ'.2.2.1 107 k = lN (Wy B N i k)) (fun t σ' => t = lN (prN (skD B N) (B 8 3)) ∧ Fr DQ LQ σ σ' ∧ ∀ k, k < 7 → σ'.2.2.1 107 k = lN (Wy B N (B 8 3) k)) ?_ ?_ jd_fu (jfu (by omega)) (1, 0) σ2 ⟨rfl, F2, w2⟩
    · obtain ⟨_, σ3, h3, rfl, F3, w3⟩ := two
      rw [h3, jb_some]
      have hW := Fr_Wd F3 hW0
      have u1 := Nat.le_trans (W_le hbb N (B 8 3) m) (p100 b2)
      have u2 := Nat.le_trans (prN_le (f := skD B N) (fun p => by unfold skD; split <;> omega) (B 8 3)) (p100 b2)
      obtain ⟨σ', e1, F, f0, f1⟩ := x_reduce hW (u := Wy B N (B 8 3) m) (d := prN (skD B N) (B 8 3)) (by omega) (by omega)
      refine ⟨σ', ?_, Fr_tr F3 F, f0, f1⟩
      have w4 := w3 m (by omega)
      have h6 : ¬ 6 < m := by omega
      simp (disch := omega) only [jb_some, jli, jif, jd_q, jd_K0, jpi_s, jpi_l, jpi_p, jpl_s, jpl_i, jpl_p, if_true, if_false, if_pos, if_neg, not_true_eq_false, not_false_eq_true, ite_true, ite_false, Nat.not_lt_zero, eq_self, Nat.le_refl, Nat.lt_irrefl, Bool.false_eq_true, or0, jo_pi, jo_pl, jia_pi, jia_pl, jo_cpy, jia_cpy, cpy_r, m_X11_grant, m_X11_refuse, m_X13_good, m_X13_refused, reduceCtorEq, nI_add, nI_leI, nI_ltI, nI_eq, pk_mul, abs_nI, max_nI, min_nI, nI_m1, nI_m2, nI_le1, m1_lt, m2_lt, and_nI, or_nI, an_nI, has_nI, bit_nI, bc_nI, bits_nI, lx0, lx1, lx2, lx3, lx4, lx5, lx6, lx7, lx8, lx9, lx10, lx11, lx16, lx20, lx40, lx60, lx90, lx99, lx100, lx200, lx900, lx999, lx9999, jo_32 hW, jo_33 hW, jo_35 hW, jo_40 hW, jo_41 hW, jo_56 hW, jo_97 hW, jo_100 hW, jo_104 hW, jo_106 hW, jo_108 hW, ja_34 hW, ja_36 hW, ja_37 hW, ja_38 hW, ja_39 hW, ja_42 hW, ja_43 hW, ja_44 hW, ja_45 hW, ja_46 hW, ja_98 hW, ja_99 hW, ja_101 hW, ja_102 hW, ja_103 hW, wr_32_0 hW, wr_32_1 hW, wr_32_2 hW, wr_32_3 hW, wr_32_4 hW, wr_32_5 hW, wr_32_6 hW, wr_32_7 hW, wr_32_8 hW, wr_33_0 hW, wr_35_0 hW, wr_35_1 hW, wr_35_2 hW, wr_35_3 hW, wr_35_4 hW, wr_40_0 hW, wr_40_1 hW, wr_40_2 hW, wr_40_3 hW, wr_40_4 hW, wr_41_0 hW, wr_56_0 hW, wr_56_1 hW, wr_97_0 hW, wr_97_1 hW, wr_100_0 hW, wr_100_1 hW, wr_100_2 hW, wr_104_0 hW, wr_106_0 hW, h6, w4, e1, jl_107 hW]
    · rintro i s σ' hi ⟨rfl, hF, hw⟩
      have hX' := CX_fr hh hF
      have e3 := ((hbb.2.2.2.2.2.2.2.2.2.2) i).2.2.2.1
      have e100 : nI 100 - nI (B 3 i) = nI (100 - B 3 i) := nI_sub e3
      have p2 : prN (skD B N) (i + 1) = prN (skD B N) i * skD B N i := rfl
      obtain ⟨⟨hW, hT, hS, hC, hN⟩, hD⟩ := hX'
      rcases hs : sink B N i with _ | t
      · have e1 := x_sk0 (CX_fr hh hF) hbb hi hs
        have sk : skC B N i = false := by simp [skC, hs]
        refine ⟨(lN (prN (skD B N) (i + 1)), nI (i + 1)), σ', ?_, rfl, hF, fun k hk => ?_⟩
        · rw [p2, show skD B N i = 1 by simp [skD, sk], Nat.mul_one]
          simp (disch := omega) only [jb_some, jli, jif, jd_q, jd_K0, jpi_s, jpi_l, jpi_p, jpl_s, jpl_i, jpl_p, if_true, if_false, if_pos, if_neg, not_true_eq_false, not_false_eq_true, ite_true, ite_false, Nat.not_lt_zero, eq_self, Nat.le_refl, Nat.lt_irrefl, Bool.false_eq_true, or0, jo_pi, jo_pl, jia_pi, jia_pl, jo_cpy, jia_cpy, cpy_r, m_X11_grant, m_X11_refuse, m_X13_good, m_X13_refused, reduceCtorEq, nI_add, nI_leI, nI_ltI, nI_eq, pk_mul, abs_nI, max_nI, min_nI, nI_m1, nI_m2, nI_le1, m1_lt, m2_lt, and_nI, or_nI, an_nI, has_nI, bit_nI, bc_nI, bits_nI, lx0, lx1, lx2, lx3, lx4, lx5, lx6, lx7, lx8, lx9, lx10, lx11, lx16, lx20, lx40, lx60, lx90, lx99, lx100, lx200, lx900, lx999, lx9999, jo_32 hW, jo_33 hW, jo_35 hW, jo_40 hW, jo_41 hW, jo_56 hW, jo_97 hW, jo_100 hW, jo_104 hW, jo_106 hW, jo_108 hW, ja_34 hW, ja_36 hW, ja_37 hW, ja_38 hW, ja_39 hW, ja_42 hW, ja_43 hW, ja_44 hW, ja_45 hW, ja_46 hW, ja_98 hW, ja_99 hW, ja_101 hW, ja_102 hW, ja_103 hW, wr_32_0 hW, wr_32_1 hW, wr_32_2 hW, wr_32_3 hW, wr_32_4 hW, wr_32_5 hW, wr_32_6 hW, wr_32_7 hW, wr_32_8 hW, wr_33_0 hW, wr_35_0 hW, wr_35_1 hW, wr_35_2 hW, wr_35_3 hW, wr_35_4 hW, wr_40_0 hW, wr_40_1 hW, wr_40_2 hW, wr_40_3 hW, wr_40_4 hW, wr_41_0 hW, wr_56_0 hW, wr_56_1 hW, wr_97_0 hW, wr_97_1 hW, wr_100_0 hW, wr_100_1 hW, wr_100_2 hW, wr_104_0 hW, wr_106_0 hW, joT hW hT, jaT1 hW hT, jaT2 hW hT, jaT3 hW hT, jaT4 hW hT, jaT5 hW hT, jaT6 hW hT, jaT7 hW hT, jaT8 hW hT, wrT0 hW hT, wrT1 hW hT, wrT2 hW hT, wrT3 hW hT, wrT4 hW hT, wrT5 hW hT, wrT6 hW hT, wrT7 hW hT, hS, ct_a0 hC, ct_a1 hC, ct_a2 hC, ct_a3 hC, ct_a4 hC, ct_a5 hC, ct_a6 hC, ct_a7 hC, ct_s0 hC, ct_s1 hC, ct_s2 hC, ct_s3 hC, ct_s4 hC, ct_s5 hC, ct_s6 hC, ct_s7 hC, cn_p hN, cn_m hN, cn_l hN, cn_t hN, e1]
        · rw [hw k hk]
          show lN (Wy B N i k) = lN (if skC B N i then _ else Wy B N i k)
          rw [sk]
          rfl
      · have e1 := x_sk1 (CX_fr hh hF) hbb hi hs
        have sk : skC B N i = true := by simp [skC, hs]
        have wn : ∀ k, Wy B N (i + 1) k = Wy B N i k * (100 - B 3 i) + (if k = 0 then 0 else Wy B N i (k - 1) * B 3 i) := fun k => by
          show (if skC B N i then Wy B N i k * (100 - B 3 i) + (if k = 0 then 0 else Wy B N i (k - 1) * B 3 i) else Wy B N i k) = _
          rw [sk, if_pos rfl]
        have inner := jlp_inv (body := fun (s16 : Int32) σ16 =>
if (s16 ≤ nI 0) then some ((Sum.inr ()), σ16) else
jd_o σ16 (1, 2) (some 106) fun a18 =>
jd_ia σ16 23 (σ16.2.2.2 a18 0) s16 fun a19 j19 =>
jd_ia σ16 23 (σ16.2.2.2 a18 0) (s16 - nI 1) fun a20 j20 =>
jd_ia σ16 23 (σ16.2.2.2 a18 0) s16 fun a21 j21 =>
some (Sum.inl (s16 + (- nI 1)), jd_pl σ16 a21 j21 (((σ16.2.2.1 a19 j19) * lN (100 - B 3 i)) + ((σ16.2.2.1 a20 j20) * lN (B 3 i))))) 6 (fun d s σ' => s = nI (6 - d) ∧ Fr DQ LQ σ σ' ∧ ∀ k, k < 7 → σ'.2.2.1 107 k = lN (if 6 - d < k then Wy B N (i + 1) k else Wy B N i k)) (fun _ σ' => Fr DQ LQ σ σ' ∧ ∀ k, k < 7 → σ'.2.2.1 107 k = lN (if 0 < k then Wy B N (i + 1) k else Wy B N i k)) ?_ ?_ jd_fu (jfu (by omega)) (nI 6) σ' ⟨rfl, hF, fun k hk => by
          rw [if_neg (by omega)]
          exact hw k hk⟩
        · obtain ⟨_, σ4, h4, F4, w4⟩ := inner
          have hW4 := Fr_Wd F4 hW0
          have w40 := w4 0 (by omega)
          rw [if_neg (by omega)] at w40
          refine ⟨(lN (prN (skD B N) (i + 1)), nI (i + 1)), jd_pl σ4 107 0 (lN (Wy B N (i + 1) 0)), ?_, rfl, Fr_pl F4 (Or.inl rfl), fun k hk => ?_⟩
          · rw [p2, show skD B N i = 100 by simp [skD, sk], wn 0]
            simp (disch := omega) only [jb_some, jli, jif, jd_q, jd_K0, jpi_s, jpi_l, jpi_p, jpl_s, jpl_i, jpl_p, if_true, if_false, if_pos, if_neg, not_true_eq_false, not_false_eq_true, ite_true, ite_false, Nat.not_lt_zero, eq_self, Nat.le_refl, Nat.lt_irrefl, Bool.false_eq_true, or0, jo_pi, jo_pl, jia_pi, jia_pl, jo_cpy, jia_cpy, cpy_r, m_X11_grant, m_X11_refuse, m_X13_good, m_X13_refused, reduceCtorEq, nI_add, nI_leI, nI_ltI, nI_eq, pk_mul, abs_nI, max_nI, min_nI, nI_m1, nI_m2, nI_le1, m1_lt, m2_lt, and_nI, or_nI, an_nI, has_nI, bit_nI, bc_nI, bits_nI, lx0, lx1, lx2, lx3, lx4, lx5, lx6, lx7, lx8, lx9, lx10, lx11, lx16, lx20, lx40, lx60, lx90, lx99, lx100, lx200, lx900, lx999, lx9999, jo_32 hW, jo_33 hW, jo_35 hW, jo_40 hW, jo_41 hW, jo_56 hW, jo_97 hW, jo_100 hW, jo_104 hW, jo_106 hW, jo_108 hW, ja_34 hW, ja_36 hW, ja_37 hW, ja_38 hW, ja_39 hW, ja_42 hW, ja_43 hW, ja_44 hW, ja_45 hW, ja_46 hW, ja_98 hW, ja_99 hW, ja_101 hW, ja_102 hW, ja_103 hW, wr_32_0 hW, wr_32_1 hW, wr_32_2 hW, wr_32_3 hW, wr_32_4 hW, wr_32_5 hW, wr_32_6 hW, wr_32_7 hW, wr_32_8 hW, wr_33_0 hW, wr_35_0 hW, wr_35_1 hW, wr_35_2 hW, wr_35_3 hW, wr_35_4 hW, wr_40_0 hW, wr_40_1 hW, wr_40_2 hW, wr_40_3 hW, wr_40_4 hW, wr_41_0 hW, wr_56_0 hW, wr_56_1 hW, wr_97_0 hW, wr_97_1 hW, wr_100_0 hW, wr_100_1 hW, wr_100_2 hW, wr_104_0 hW, wr_106_0 hW, joT hW hT, jaT1 hW hT, jaT2 hW hT, jaT3 hW hT, jaT4 hW hT, jaT5 hW hT, jaT6 hW hT, jaT7 hW hT, jaT8 hW hT, wrT0 hW hT, wrT1 hW hT, wrT2 hW hT, wrT3 hW hT, wrT4 hW hT, wrT5 hW hT, wrT6 hW hT, wrT7 hW hT, hS, ct_a0 hC, ct_a1 hC, ct_a2 hC, ct_a3 hC, ct_a4 hC, ct_a5 hC, ct_a6 hC, ct_a7 hC, ct_s0 hC, ct_s1 hC, ct_s2 hC, ct_s3 hC, ct_s4 hC, ct_s5 hC, ct_s6 hC, ct_s7 hC, cn_p hN, cn_m hN, cn_l hN, cn_t hN, e1, e100, nI_l]
            rw [h4]
            simp (disch := omega) only [jb_some, jli, jif, jd_q, jd_K0, jpi_s, jpi_l, jpi_p, jpl_s, jpl_i, jpl_p, if_true, if_false, if_pos, if_neg, not_true_eq_false, not_false_eq_true, ite_true, ite_false, Nat.not_lt_zero, eq_self, Nat.le_refl, Nat.lt_irrefl, Bool.false_eq_true, or0, jo_pi, jo_pl, jia_pi, jia_pl, jo_cpy, jia_cpy, cpy_r, m_X11_grant, m_X11_refuse, m_X13_good, m_X13_refused, reduceCtorEq, nI_add, nI_leI, nI_ltI, nI_eq, pk_mul, abs_nI, max_nI, min_nI, nI_m1, nI_m2, nI_le1, m1_lt, m2_lt, and_nI, or_nI, an_nI, has_nI, bit_nI, bc_nI, bits_nI, lx0, lx1, lx2, lx3, lx4, lx5, lx6, lx7, lx8, lx9, lx10, lx11, lx16, lx20, lx40, lx60, lx90, lx99, lx100, lx200, lx900, lx999, lx9999, lN_add, lN_mul, nI_l, cl_le, cl_gt, cl_eq, pk_lEQ, pk_lDiv, ly0, ly1, ly2, ly100, w40, Nat.add_zero, if_true, eq_self, jo_106 hW4, wr_106_0 hW4, jl_107 hW4]
          · by_cases hk0 : k = 0
            · rw [hk0, pl_eq]
            · rw [pl_ne _ _ (by omega), w4 k hk, if_pos (by omega)]
        · rintro d s σ5 hd ⟨rfl, hF5, hw5⟩
          have hW5 := Fr_Wd hF5 hW0
          have ha := hw5 (6 - d) (by omega)
          have hc := hw5 (6 - d - 1) (by omega)
          rw [if_neg (by omega)] at ha hc
          have h0 : ¬ 6 - d ≤ 0 := by omega
          have hp1 : nI (6 - d) - nI 1 = nI (6 - d - 1) := nI_sub (by omega)
          have hp2 : nI (6 - d) + - nI 1 = nI (6 - (d + 1)) := by
            rw [show 6 - d = 6 - (d + 1) + 1 by omega]
            exact pk_m1 _
          refine ⟨nI (6 - (d + 1)), jd_pl σ5 107 (6 - d) (lN (Wy B N (i + 1) (6 - d))), ?_, rfl, Fr_pl hF5 (Or.inl rfl), fun k hk => ?_⟩
          · rw [wn (6 - d), if_neg (show ¬ 6 - d = 0 by omega)]
            simp (disch := omega) only [jb_some, jli, jif, jd_q, jd_K0, jpi_s, jpi_l, jpi_p, jpl_s, jpl_i, jpl_p, if_true, if_false, if_pos, if_neg, not_true_eq_false, not_false_eq_true, ite_true, ite_false, Nat.not_lt_zero, eq_self, Nat.le_refl, Nat.lt_irrefl, Bool.false_eq_true, or0, jo_pi, jo_pl, jia_pi, jia_pl, jo_cpy, jia_cpy, cpy_r, m_X11_grant, m_X11_refuse, m_X13_good, m_X13_refused, reduceCtorEq, nI_add, nI_leI, nI_ltI, nI_eq, pk_mul, abs_nI, max_nI, min_nI, nI_m1, nI_m2, nI_le1, m1_lt, m2_lt, and_nI, or_nI, an_nI, has_nI, bit_nI, bc_nI, bits_nI, lx0, lx1, lx2, lx3, lx4, lx5, lx6, lx7, lx8, lx9, lx10, lx11, lx16, lx20, lx40, lx60, lx90, lx99, lx100, lx200, lx900, lx999, lx9999, lN_add, lN_mul, nI_l, cl_le, cl_gt, cl_eq, pk_lEQ, pk_lDiv, ly0, ly1, ly2, ly100, h0, hp1, hp2, ha, hc, jo_106 hW5, wr_106_0 hW5, jl_107 hW5]
          · by_cases hk0 : k = 6 - d
            · rw [hk0, pl_eq, if_pos (by omega)]
            · rw [pl_ne _ _ (by omega), hw5 k hk]
              by_cases hk1 : 6 - d < k
              · rw [if_pos hk1, if_pos (by omega)]
              · rw [if_neg hk1, if_neg (by omega)]
        · rintro s σ5 ⟨rfl, hF5, hw5⟩
          refine ⟨(), σ5, ?_, hF5, hw5⟩
          have h0 : 6 - 6 ≤ 0 := by omega
          simp (disch := omega) only [jb_some, jli, jif, jd_q, jd_K0, jpi_s, jpi_l, jpi_p, jpl_s, jpl_i, jpl_p, if_true, if_false, if_pos, if_neg, not_true_eq_false, not_false_eq_true, ite_true, ite_false, Nat.not_lt_zero, eq_self, Nat.le_refl, Nat.lt_irrefl, Bool.false_eq_true, or0, jo_pi, jo_pl, jia_pi, jia_pl, jo_cpy, jia_cpy, cpy_r, m_X11_grant, m_X11_refuse, m_X13_good, m_X13_refused, reduceCtorEq, nI_add, nI_leI, nI_ltI, nI_eq, pk_mul, abs_nI, max_nI, min_nI, nI_m1, nI_m2, nI_le1, m1_lt, m2_lt, and_nI, or_nI, an_nI, has_nI, bit_nI, bc_nI, bits_nI, lx0, lx1, lx2, lx3, lx4, lx5, lx6, lx7, lx8, lx9, lx10, lx11, lx16, lx20, lx40, lx60, lx90, lx99, lx100, lx200, lx900, lx999, lx9999, h0]
    · rintro s σ' ⟨rfl, hF, hw⟩
      obtain ⟨hW, hT, hS, hC, hN⟩ := (CX_fr hh hF).1
      refine ⟨_, σ', ?_, rfl, hF, hw⟩
      simp (disch := omega) only [jb_some, jli, jif, jd_q, jd_K0, jpi_s, jpi_l, jpi_p, jpl_s, jpl_i, jpl_p, if_true, if_false, if_pos, if_neg, not_true_eq_false, not_false_eq_true, ite_true, ite_false, Nat.not_lt_zero, eq_self, Nat.le_refl, Nat.lt_irrefl, Bool.false_eq_true, or0, jo_pi, jo_pl, jia_pi, jia_pl, jo_cpy, jia_cpy, cpy_r, m_X11_grant, m_X11_refuse, m_X13_good, m_X13_refused, reduceCtorEq, nI_add, nI_leI, nI_ltI, nI_eq, pk_mul, abs_nI, max_nI, min_nI, nI_m1, nI_m2, nI_le1, m1_lt, m2_lt, and_nI, or_nI, an_nI, has_nI, bit_nI, bc_nI, bits_nI, lx0, lx1, lx2, lx3, lx4, lx5, lx6, lx7, lx8, lx9, lx10, lx11, lx16, lx20, lx40, lx60, lx90, lx99, lx100, lx200, lx900, lx999, lx9999, jo_32 hW, jo_33 hW, jo_35 hW, jo_40 hW, jo_41 hW, jo_56 hW, jo_97 hW, jo_100 hW, jo_104 hW, jo_106 hW, jo_108 hW, ja_34 hW, ja_36 hW, ja_37 hW, ja_38 hW, ja_39 hW, ja_42 hW, ja_43 hW, ja_44 hW, ja_45 hW, ja_46 hW, ja_98 hW, ja_99 hW, ja_101 hW, ja_102 hW, ja_103 hW, wr_32_0 hW, wr_32_1 hW, wr_32_2 hW, wr_32_3 hW, wr_32_4 hW, wr_32_5 hW, wr_32_6 hW, wr_32_7 hW, wr_32_8 hW, wr_33_0 hW, wr_35_0 hW, wr_35_1 hW, wr_35_2 hW, wr_35_3 hW, wr_35_4 hW, wr_40_0 hW, wr_40_1 hW, wr_40_2 hW, wr_40_3 hW, wr_40_4 hW, wr_41_0 hW, wr_56_0 hW, wr_56_1 hW, wr_97_0 hW, wr_97_1 hW, wr_100_0 hW, wr_100_1 hW, wr_100_2 hW, wr_104_0 hW, wr_106_0 hW, joT hW hT, jaT1 hW hT, jaT2 hW hT, jaT3 hW hT, jaT4 hW hT, jaT5 hW hT, jaT6 hW hT, jaT7 hW hT, jaT8 hW hT, wrT0 hW hT, wrT1 hW hT, wrT2 hW hT, wrT3 hW hT, wrT4 hW hT, wrT5 hW hT, wrT6 hW hT, wrT7 hW hT, hS, ct_a0 hC, ct_a1 hC, ct_a2 hC, ct_a3 hC, ct_a4 hC, ct_a5 hC, ct_a6 hC, ct_a7 hC, ct_s0 hC, ct_s1 hC, ct_s2 hC, ct_s3 hC, ct_s4 hC, ct_s5 hC, ct_s6 hC, ct_s7 hC, cn_p hN, cn_m hN, cn_l hN, cn_t hN]
  · rintro i s σ' hi ⟨rfl, hF, hw⟩
    have hW := Fr_Wd hF hW0
    have h6 : ¬ 6 < i := by omega
    refine ⟨nI (i + 1), jd_pl σ' 107 i (lN (Wy B N 0 i)), ?_, rfl, Fr_pl hF (Or.inl rfl), fun k hk => ?_⟩
    · by_cases h0 : i = 0
      · subst h0
        rw [show Wy B N 0 0 = 1 from rfl]
        simp (disch := omega) only [jb_some, jli, jif, jd_q, jd_K0, jpi_s, jpi_l, jpi_p, jpl_s, jpl_i, jpl_p, if_true, if_false, if_pos, if_neg, not_true_eq_false, not_false_eq_true, ite_true, ite_false, Nat.not_lt_zero, eq_self, Nat.le_refl, Nat.lt_irrefl, Bool.false_eq_true, or0, jo_pi, jo_pl, jia_pi, jia_pl, jo_cpy, jia_cpy, cpy_r, m_X11_grant, m_X11_refuse, m_X13_good, m_X13_refused, reduceCtorEq, nI_add, nI_leI, nI_ltI, nI_eq, pk_mul, abs_nI, max_nI, min_nI, nI_m1, nI_m2, nI_le1, m1_lt, m2_lt, and_nI, or_nI, an_nI, has_nI, bit_nI, bc_nI, bits_nI, lx0, lx1, lx2, lx3, lx4, lx5, lx6, lx7, lx8, lx9, lx10, lx11, lx16, lx20, lx40, lx60, lx90, lx99, lx100, lx200, lx900, lx999, lx9999, jo_32 hW, jo_33 hW, jo_35 hW, jo_40 hW, jo_41 hW, jo_56 hW, jo_97 hW, jo_100 hW, jo_104 hW, jo_106 hW, jo_108 hW, ja_34 hW, ja_36 hW, ja_37 hW, ja_38 hW, ja_39 hW, ja_42 hW, ja_43 hW, ja_44 hW, ja_45 hW, ja_46 hW, ja_98 hW, ja_99 hW, ja_101 hW, ja_102 hW, ja_103 hW, wr_32_0 hW, wr_32_1 hW, wr_32_2 hW, wr_32_3 hW, wr_32_4 hW, wr_32_5 hW, wr_32_6 hW, wr_32_7 hW, wr_32_8 hW, wr_33_0 hW, wr_35_0 hW, wr_35_1 hW, wr_35_2 hW, wr_35_3 hW, wr_35_4 hW, wr_40_0 hW, wr_40_1 hW, wr_40_2 hW, wr_40_3 hW, wr_40_4 hW, wr_41_0 hW, wr_56_0 hW, wr_56_1 hW, wr_97_0 hW, wr_97_1 hW, wr_100_0 hW, wr_100_1 hW, wr_100_2 hW, wr_104_0 hW, wr_106_0 hW, lN_add, lN_mul, nI_l, cl_le, cl_gt, cl_eq, pk_lEQ, pk_lDiv, ly0, ly1, ly2, ly100, jl_107 hW]
      · rw [show Wy B N 0 i = 0 from if_neg h0]
        simp (disch := omega) only [jb_some, jli, jif, jd_q, jd_K0, jpi_s, jpi_l, jpi_p, jpl_s, jpl_i, jpl_p, if_true, if_false, if_pos, if_neg, not_true_eq_false, not_false_eq_true, ite_true, ite_false, Nat.not_lt_zero, eq_self, Nat.le_refl, Nat.lt_irrefl, Bool.false_eq_true, or0, jo_pi, jo_pl, jia_pi, jia_pl, jo_cpy, jia_cpy, cpy_r, m_X11_grant, m_X11_refuse, m_X13_good, m_X13_refused, reduceCtorEq, nI_add, nI_leI, nI_ltI, nI_eq, pk_mul, abs_nI, max_nI, min_nI, nI_m1, nI_m2, nI_le1, m1_lt, m2_lt, and_nI, or_nI, an_nI, has_nI, bit_nI, bc_nI, bits_nI, lx0, lx1, lx2, lx3, lx4, lx5, lx6, lx7, lx8, lx9, lx10, lx11, lx16, lx20, lx40, lx60, lx90, lx99, lx100, lx200, lx900, lx999, lx9999, jo_32 hW, jo_33 hW, jo_35 hW, jo_40 hW, jo_41 hW, jo_56 hW, jo_97 hW, jo_100 hW, jo_104 hW, jo_106 hW, jo_108 hW, ja_34 hW, ja_36 hW, ja_37 hW, ja_38 hW, ja_39 hW, ja_42 hW, ja_43 hW, ja_44 hW, ja_45 hW, ja_46 hW, ja_98 hW, ja_99 hW, ja_101 hW, ja_102 hW, ja_103 hW, wr_32_0 hW, wr_32_1 hW, wr_32_2 hW, wr_32_3 hW, wr_32_4 hW, wr_32_5 hW, wr_32_6 hW, wr_32_7 hW, wr_32_8 hW, wr_33_0 hW, wr_35_0 hW, wr_35_1 hW, wr_35_2 hW, wr_35_3 hW, wr_35_4 hW, wr_40_0 hW, wr_40_1 hW, wr_40_2 hW, wr_40_3 hW, wr_40_4 hW, wr_41_0 hW, wr_56_0 hW, wr_56_1 hW, wr_97_0 hW, wr_97_1 hW, wr_100_0 hW, wr_100_1 hW, wr_100_2 hW, wr_104_0 hW, wr_106_0 hW, lN_add, lN_mul, nI_l, cl_le, cl_gt, cl_eq, pk_lEQ, pk_lDiv, ly0, ly1, ly2, ly100, h6, h0, jl_107 hW]
    · by_cases hk0 : k = i
      · rw [hk0, pl_eq]
      · rw [pl_ne _ _ (by omega)]
        exact hw k (by omega)
  · rintro s σ' ⟨rfl, hF, hw⟩
    refine ⟨(), σ', ?_, hF, hw⟩
    simp (disch := omega) only [jb_some, jli, jif, jd_q, jd_K0, jpi_s, jpi_l, jpi_p, jpl_s, jpl_i, jpl_p, if_true, if_false, if_pos, if_neg, not_true_eq_false, not_false_eq_true, ite_true, ite_false, Nat.not_lt_zero, eq_self, Nat.le_refl, Nat.lt_irrefl, Bool.false_eq_true, or0, jo_pi, jo_pl, jia_pi, jia_pl, jo_cpy, jia_cpy, cpy_r, m_X11_grant, m_X11_refuse, m_X13_good, m_X13_refused, reduceCtorEq, nI_add, nI_leI, nI_ltI, nI_eq, pk_mul, abs_nI, max_nI, min_nI, nI_m1, nI_m2, nI_le1, m1_lt, m2_lt, and_nI, or_nI, an_nI, has_nI, bit_nI, bc_nI, bits_nI, lx0, lx1, lx2, lx3, lx4, lx5, lx6, lx7, lx8, lx9, lx10, lx11, lx16, lx20, lx40, lx60, lx90, lx99, lx100, lx200, lx900, lx999, lx9999]
end
def a_sinking (o : BO) (k lo : Int32) : Int64 × Nat := match o with
  | none => ((- nI 1).toInt64, 1)
  | some (B, N) => match rgN k 0 6 with
    | none => ((- nI 1).toInt64, 2)
    | some m => (lN (frV (Wy B N (B 8 3) m) (prN (skD B N) (B 8 3)) lo), 0)
set_option maxHeartbeats 2000000 in
theorem X_sinking {o : BO} {T : Nat} {σ : jd_Hp} (h : RXc o T σ) (k : Int32) (lo : Int32) : OX (m_X11_sinking 32 k lo σ) (a_sinking o k lo) σ := by
  obtain ⟨hW, h⟩ := h
  unfold m_X11_sinking
  rcases o with _ | ⟨B, N⟩
  · have h10 : σ.2.1 32 10 = nI 0 := h
    simp (disch := omega) only [jb_some, jli, jif, jd_q, jd_K0, jpi_s, jpi_l, jpi_p, jpl_s, jpl_i, jpl_p, if_true, if_false, if_pos, if_neg, not_true_eq_false, not_false_eq_true, ite_true, ite_false, Nat.not_lt_zero, eq_self, Nat.le_refl, Nat.lt_irrefl, Bool.false_eq_true, or0, jo_pi, jo_pl, jia_pi, jia_pl, jo_cpy, jia_cpy, cpy_r, m_X11_grant, m_X11_refuse, m_X13_good, m_X13_refused, reduceCtorEq, nI_add, nI_leI, nI_ltI, nI_eq, pk_mul, abs_nI, max_nI, min_nI, nI_m1, nI_m2, nI_le1, m1_lt, m2_lt, and_nI, or_nI, an_nI, has_nI, bit_nI, bc_nI, bits_nI, lx0, lx1, lx2, lx3, lx4, lx5, lx6, lx7, lx8, lx9, lx10, lx11, lx16, lx20, lx40, lx60, lx90, lx99, lx100, lx200, lx900, lx999, lx9999, jo_32 hW, jo_33 hW, jo_35 hW, jo_40 hW, jo_41 hW, jo_56 hW, jo_97 hW, jo_100 hW, jo_104 hW, jo_106 hW, jo_108 hW, ja_34 hW, ja_36 hW, ja_37 hW, ja_38 hW, ja_39 hW, ja_42 hW, ja_43 hW, ja_44 hW, ja_45 hW, ja_46 hW, ja_98 hW, ja_99 hW, ja_101 hW, ja_102 hW, ja_103 hW, wr_32_0 hW, wr_32_1 hW, wr_32_2 hW, wr_32_3 hW, wr_32_4 hW, wr_32_5 hW, wr_32_6 hW, wr_32_7 hW, wr_32_8 hW, wr_33_0 hW, wr_35_0 hW, wr_35_1 hW, wr_35_2 hW, wr_35_3 hW, wr_35_4 hW, wr_40_0 hW, wr_40_1 hW, wr_40_2 hW, wr_40_3 hW, wr_40_4 hW, wr_41_0 hW, wr_56_0 hW, wr_56_1 hW, wr_97_0 hW, wr_97_1 hW, wr_100_0 hW, wr_100_1 hW, wr_100_2 hW, wr_104_0 hW, wr_106_0 hW, h10, m_X11_isPerson, m_X11_isPost]
    exact OX_of (Fr_refl _)
  · obtain ⟨h10, hX, hb, hn, hG⟩ : σ.2.1 32 10 = nI 1 ∧ CX B N T σ ∧ bOk B ∧ nOk B N ∧ SG B σ := h
    have hb2 := hb.2.1
    have hb3 := hb.2.2.1
    have ePe := x_isPerson hX h10 hb
    have ePo := x_isPost hX h10 hb
    show OX _ (a_sinking (some (B, N)) k lo) σ
    unfold a_sinking
    rcases hj : rgN k 0 6 with _ | j
    · rcases rgN_none hj with h1 | ⟨h1, h2⟩
      · simp (disch := omega) only [jb_some, jli, jif, jd_q, jd_K0, jpi_s, jpi_l, jpi_p, jpl_s, jpl_i, jpl_p, if_true, if_false, if_pos, if_neg, not_true_eq_false, not_false_eq_true, ite_true, ite_false, Nat.not_lt_zero, eq_self, Nat.le_refl, Nat.lt_irrefl, Bool.false_eq_true, or0, jo_pi, jo_pl, jia_pi, jia_pl, jo_cpy, jia_cpy, cpy_r, m_X11_grant, m_X11_refuse, m_X13_good, m_X13_refused, reduceCtorEq, nI_add, nI_leI, nI_ltI, nI_eq, pk_mul, abs_nI, max_nI, min_nI, nI_m1, nI_m2, nI_le1, m1_lt, m2_lt, and_nI, or_nI, an_nI, has_nI, bit_nI, bc_nI, bits_nI, lx0, lx1, lx2, lx3, lx4, lx5, lx6, lx7, lx8, lx9, lx10, lx11, lx16, lx20, lx40, lx60, lx90, lx99, lx100, lx200, lx900, lx999, lx9999, jo_32 hW, jo_33 hW, jo_35 hW, jo_40 hW, jo_41 hW, jo_56 hW, jo_97 hW, jo_100 hW, jo_104 hW, jo_106 hW, jo_108 hW, ja_34 hW, ja_36 hW, ja_37 hW, ja_38 hW, ja_39 hW, ja_42 hW, ja_43 hW, ja_44 hW, ja_45 hW, ja_46 hW, ja_98 hW, ja_99 hW, ja_101 hW, ja_102 hW, ja_103 hW, wr_32_0 hW, wr_32_1 hW, wr_32_2 hW, wr_32_3 hW, wr_32_4 hW, wr_32_5 hW, wr_32_6 hW, wr_32_7 hW, wr_32_8 hW, wr_33_0 hW, wr_35_0 hW, wr_35_1 hW, wr_35_2 hW, wr_35_3 hW, wr_35_4 hW, wr_40_0 hW, wr_40_1 hW, wr_40_2 hW, wr_40_3 hW, wr_40_4 hW, wr_41_0 hW, wr_56_0 hW, wr_56_1 hW, wr_97_0 hW, wr_97_1 hW, wr_100_0 hW, wr_100_1 hW, wr_100_2 hW, wr_104_0 hW, wr_106_0 hW, h10, h1, hj]
        exact OX_of (Fr_refl _)
      · have h2' := Int32.not_le.mpr h2
        simp (disch := omega) only [jb_some, jli, jif, jd_q, jd_K0, jpi_s, jpi_l, jpi_p, jpl_s, jpl_i, jpl_p, if_true, if_false, if_pos, if_neg, not_true_eq_false, not_false_eq_true, ite_true, ite_false, Nat.not_lt_zero, eq_self, Nat.le_refl, Nat.lt_irrefl, Bool.false_eq_true, or0, jo_pi, jo_pl, jia_pi, jia_pl, jo_cpy, jia_cpy, cpy_r, m_X11_grant, m_X11_refuse, m_X13_good, m_X13_refused, reduceCtorEq, nI_add, nI_leI, nI_ltI, nI_eq, pk_mul, abs_nI, max_nI, min_nI, nI_m1, nI_m2, nI_le1, m1_lt, m2_lt, and_nI, or_nI, an_nI, has_nI, bit_nI, bc_nI, bits_nI, lx0, lx1, lx2, lx3, lx4, lx5, lx6, lx7, lx8, lx9, lx10, lx11, lx16, lx20, lx40, lx60, lx90, lx99, lx100, lx200, lx900, lx999, lx9999, jo_32 hW, jo_33 hW, jo_35 hW, jo_40 hW, jo_41 hW, jo_56 hW, jo_97 hW, jo_100 hW, jo_104 hW, jo_106 hW, jo_108 hW, ja_34 hW, ja_36 hW, ja_37 hW, ja_38 hW, ja_39 hW, ja_42 hW, ja_43 hW, ja_44 hW, ja_45 hW, ja_46 hW, ja_98 hW, ja_99 hW, ja_101 hW, ja_102 hW, ja_103 hW, wr_32_0 hW, wr_32_1 hW, wr_32_2 hW, wr_32_3 hW, wr_32_4 hW, wr_32_5 hW, wr_32_6 hW, wr_32_7 hW, wr_32_8 hW, wr_33_0 hW, wr_35_0 hW, wr_35_1 hW, wr_35_2 hW, wr_35_3 hW, wr_35_4 hW, wr_40_0 hW, wr_40_1 hW, wr_40_2 hW, wr_40_3 hW, wr_40_4 hW, wr_41_0 hW, wr_56_0 hW, wr_56_1 hW, wr_97_0 hW, wr_97_1 hW, wr_100_0 hW, wr_100_1 hW, wr_100_2 hW, wr_104_0 hW, wr_106_0 hW, h10, h1, h2, h2', hj]
        exact OX_of (Fr_refl _)
    · obtain ⟨rfl, h1, h2⟩ := rgN_some (by decide) hj (by decide)
      have h4 : ¬ 6 < j := by omega
      obtain ⟨σ', e1, F, f0, f1⟩ := x_soManySink hX hb h2
      have e2 := x_ratio (σ' := σ') lo (Fr_Wd F hW) f0 f1
      simp (disch := omega) only [jb_some, jli, jif, jd_q, jd_K0, jpi_s, jpi_l, jpi_p, jpl_s, jpl_i, jpl_p, if_true, if_false, if_pos, if_neg, not_true_eq_false, not_false_eq_true, ite_true, ite_false, Nat.not_lt_zero, eq_self, Nat.le_refl, Nat.lt_irrefl, Bool.false_eq_true, or0, jo_pi, jo_pl, jia_pi, jia_pl, jo_cpy, jia_cpy, cpy_r, m_X11_grant, m_X11_refuse, m_X13_good, m_X13_refused, reduceCtorEq, nI_add, nI_leI, nI_ltI, nI_eq, pk_mul, abs_nI, max_nI, min_nI, nI_m1, nI_m2, nI_le1, m1_lt, m2_lt, and_nI, or_nI, an_nI, has_nI, bit_nI, bc_nI, bits_nI, lx0, lx1, lx2, lx3, lx4, lx5, lx6, lx7, lx8, lx9, lx10, lx11, lx16, lx20, lx40, lx60, lx90, lx99, lx100, lx200, lx900, lx999, lx9999, jo_32 hW, jo_33 hW, jo_35 hW, jo_40 hW, jo_41 hW, jo_56 hW, jo_97 hW, jo_100 hW, jo_104 hW, jo_106 hW, jo_108 hW, ja_34 hW, ja_36 hW, ja_37 hW, ja_38 hW, ja_39 hW, ja_42 hW, ja_43 hW, ja_44 hW, ja_45 hW, ja_46 hW, ja_98 hW, ja_99 hW, ja_101 hW, ja_102 hW, ja_103 hW, wr_32_0 hW, wr_32_1 hW, wr_32_2 hW, wr_32_3 hW, wr_32_4 hW, wr_32_5 hW, wr_32_6 hW, wr_32_7 hW, wr_32_8 hW, wr_33_0 hW, wr_35_0 hW, wr_35_1 hW, wr_35_2 hW, wr_35_3 hW, wr_35_4 hW, wr_40_0 hW, wr_40_1 hW, wr_40_2 hW, wr_40_3 hW, wr_40_4 hW, wr_41_0 hW, wr_56_0 hW, wr_56_1 hW, wr_97_0 hW, wr_97_1 hW, wr_100_0 hW, wr_100_1 hW, wr_100_2 hW, wr_104_0 hW, wr_106_0 hW, h10, h2, h4, e1, e2, hj]
      exact OX_of F
set_option maxHeartbeats 2000000 in
theorem M_sinking {o : BO} {b : Nat} {σ : jd_Hp} (h : RMc o b σ) (k : Int32) (lo : Int32) : OM (m_X13_sinking 118 k lo σ) (a_sinking o k lo) σ := by
  have F1 : Fr DM L0 σ (jd_pi σ 118 0 0) := Fr_pi (Fr_refl σ) (Or.inl ⟨rfl, by omega⟩)
  have h1 := RMc_fr h F1
  unfold m_X13_sinking
  rw [jli]
  generalize jd_pi σ 118 0 0 = τ at *
  obtain ⟨hW, h1⟩ := h1
  rcases o with _ | ⟨B, N⟩
  · have hS : τ.2.2.2 118 3 = none := h1
    simp (disch := omega) only [jb_some, jli, jif, jd_q, jd_K0, jpi_s, jpi_l, jpi_p, jpl_s, jpl_i, jpl_p, if_true, if_false, if_pos, if_neg, not_true_eq_false, not_false_eq_true, ite_true, ite_false, Nat.not_lt_zero, eq_self, Nat.le_refl, Nat.lt_irrefl, Bool.false_eq_true, or0, jo_pi, jo_pl, jia_pi, jia_pl, jo_cpy, jia_cpy, cpy_r, m_X11_grant, m_X11_refuse, m_X13_good, m_X13_refused, reduceCtorEq, nI_add, nI_leI, nI_ltI, nI_eq, pk_mul, abs_nI, max_nI, min_nI, nI_m1, nI_m2, nI_le1, m1_lt, m2_lt, and_nI, or_nI, an_nI, has_nI, bit_nI, bc_nI, bits_nI, lx0, lx1, lx2, lx3, lx4, lx5, lx6, lx7, lx8, lx9, lx10, lx11, lx16, lx20, lx40, lx60, lx90, lx99, lx100, lx200, lx900, lx999, lx9999, jo_118 hW, ja_119 hW, ja_120 hW, ja_121 hW, ja_122 hW, ja_123 hW, ja_124 hW, ja_125 hW, ja_126 hW, ja_127 hW, ja_128 hW, ja_129 hW, wr_118_5 hW, wr_118_15 hW, wr_118_16 hW, wr_118_17 hW, wr_118_18 hW, wr_118_21 hW, wr_118_22 hW, wr_118_23 hW, wr_118_25 hW, wr_118_26 hW, wr_118_27 hW, hS, m_X13_isPerson, m_X13_isPost, m_X13_refusesMinute, m_X13_refusesFear, m_X13_refusesSeed, m_X13_lostBy, m_X13_changes]
    exact OM_of F1
  · obtain ⟨hS, hC, hV, hb, hn⟩ : τ.2.2.2 118 3 = some b ∧ MT B b τ ∧ MV B N τ ∧ bOk B ∧ nOk B N := h1
    have hb2 := hb.2.1
    have hb3 := hb.2.2.1
    have ePe := y_isPerson hS hC hb
    have ePo := y_isPost hS hC hb
    have eW := y_works hW
    have hA := wk_MA hW hS hC hV hb
    have hA2 := wk_MV hV
    have FW := Fr_tr F1 (wk_fr τ)
    show OM _ (a_sinking (some (B, N)) k lo) σ
    unfold a_sinking
    have e0 := y_in (σ := τ) k 0 6 (by decide) (by decide)
    rcases hj : rgN k 0 6 with _ | m
    · simp (disch := omega) only [jb_some, jli, jif, jd_q, jd_K0, jpi_s, jpi_l, jpi_p, jpl_s, jpl_i, jpl_p, if_true, if_false, if_pos, if_neg, not_true_eq_false, not_false_eq_true, ite_true, ite_false, Nat.not_lt_zero, eq_self, Nat.le_refl, Nat.lt_irrefl, Bool.false_eq_true, or0, jo_pi, jo_pl, jia_pi, jia_pl, jo_cpy, jia_cpy, cpy_r, m_X11_grant, m_X11_refuse, m_X13_good, m_X13_refused, reduceCtorEq, nI_add, nI_leI, nI_ltI, nI_eq, pk_mul, abs_nI, max_nI, min_nI, nI_m1, nI_m2, nI_le1, m1_lt, m2_lt, and_nI, or_nI, an_nI, has_nI, bit_nI, bc_nI, bits_nI, lx0, lx1, lx2, lx3, lx4, lx5, lx6, lx7, lx8, lx9, lx10, lx11, lx16, lx20, lx40, lx60, lx90, lx99, lx100, lx200, lx900, lx999, lx9999, jo_118 hW, ja_119 hW, ja_120 hW, ja_121 hW, ja_122 hW, ja_123 hW, ja_124 hW, ja_125 hW, ja_126 hW, ja_127 hW, ja_128 hW, ja_129 hW, wr_118_5 hW, wr_118_15 hW, wr_118_16 hW, wr_118_17 hW, wr_118_18 hW, wr_118_21 hW, wr_118_22 hW, wr_118_23 hW, wr_118_25 hW, wr_118_26 hW, wr_118_27 hW, hS, e0, hj, Option.isSome]
      exact OM_of F1
    · obtain ⟨rfl, h1, h2⟩ := rgN_some (by decide) hj (by decide)
      have s0 := sinkers_64 hb N
      have e1 := y_sinkersNow hA hb hn
      have e3 := y_wholeOf (σ := wk τ) s0
      have q2 : 100 ^ pc (sinkers B N) = prN (skD B N) (B 8 3) := by
        unfold sinkers
        rw [pc_bN _ hb2]
        exact (pr_100 _ _).symm
      rw [q2] at e3
      have u1 := Nat.le_trans (W_le hb N (B 8 3) m) (p100 hb2)
      have u2 := Nat.le_trans (prN_le (f := skD B N) (fun p => by unfold skD; split <;> omega) (B 8 3)) (p100 hb2)
      have e4 := y_fraction (σ := wk τ) (u := Wy B N (B 8 3) m) (d := prN (skD B N) (B 8 3)) lo (by omega) (by omega)
      simp (disch := omega) only [jb_some, jli, jif, jd_q, jd_K0, jpi_s, jpi_l, jpi_p, jpl_s, jpl_i, jpl_p, if_true, if_false, if_pos, if_neg, not_true_eq_false, not_false_eq_true, ite_true, ite_false, Nat.not_lt_zero, eq_self, Nat.le_refl, Nat.lt_irrefl, Bool.false_eq_true, or0, jo_pi, jo_pl, jia_pi, jia_pl, jo_cpy, jia_cpy, cpy_r, m_X11_grant, m_X11_refuse, m_X13_good, m_X13_refused, reduceCtorEq, nI_add, nI_leI, nI_ltI, nI_eq, pk_mul, abs_nI, max_nI, min_nI, nI_m1, nI_m2, nI_le1, m1_lt, m2_lt, and_nI, or_nI, an_nI, has_nI, bit_nI, bc_nI, bits_nI, lx0, lx1, lx2, lx3, lx4, lx5, lx6, lx7, lx8, lx9, lx10, lx11, lx16, lx20, lx40, lx60, lx90, lx99, lx100, lx200, lx900, lx999, lx9999, jo_118 hW, ja_119 hW, ja_120 hW, ja_121 hW, ja_122 hW, ja_123 hW, ja_124 hW, ja_125 hW, ja_126 hW, ja_127 hW, ja_128 hW, ja_129 hW, wr_118_5 hW, wr_118_15 hW, wr_118_16 hW, wr_118_17 hW, wr_118_18 hW, wr_118_21 hW, wr_118_22 hW, wr_118_23 hW, wr_118_25 hW, wr_118_26 hW, wr_118_27 hW, hS, e0, hj, Option.isSome, eW, e1]
      generalize wk τ = ρ at *
      have hh := hA
      obtain ⟨hW, hS, hC, hX⟩ := hA
      rw [jlp_p (sinkers B N + 1) (fun i => ((lN (smN (gS B N (B 8 3) m) i), nI i) : Int64 × Int32)) (lN (Wy B N (B 8 3) m)) (jfu (by omega)) ?_ ?_ ?_]
      · simp (disch := omega) only [jb_some, jli, jif, jd_q, jd_K0, jpi_s, jpi_l, jpi_p, jpl_s, jpl_i, jpl_p, if_true, if_false, if_pos, if_neg, not_true_eq_false, not_false_eq_true, ite_true, ite_false, Nat.not_lt_zero, eq_self, Nat.le_refl, Nat.lt_irrefl, Bool.false_eq_true, or0, jo_pi, jo_pl, jia_pi, jia_pl, jo_cpy, jia_cpy, cpy_r, m_X11_grant, m_X11_refuse, m_X13_good, m_X13_refused, reduceCtorEq, nI_add, nI_leI, nI_ltI, nI_eq, pk_mul, abs_nI, max_nI, min_nI, nI_m1, nI_m2, nI_le1, m1_lt, m2_lt, and_nI, or_nI, an_nI, has_nI, bit_nI, bc_nI, bits_nI, lx0, lx1, lx2, lx3, lx4, lx5, lx6, lx7, lx8, lx9, lx10, lx11, lx16, lx20, lx40, lx60, lx90, lx99, lx100, lx200, lx900, lx999, lx9999, jo_118 hW, ja_119 hW, ja_120 hW, ja_121 hW, ja_122 hW, ja_123 hW, ja_124 hW, ja_125 hW, ja_126 hW, ja_127 hW, ja_128 hW, ja_129 hW, wr_118_5 hW, wr_118_15 hW, wr_118_16 hW, wr_118_17 hW, wr_118_18 hW, wr_118_21 hW, wr_118_22 hW, wr_118_23 hW, wr_118_25 hW, wr_118_26 hW, wr_118_27 hW, e3, e4]
        exact OM_of FW
      · rfl
      · intro i hi
        have e5 := y_partOf hh.1 hh.2.1 hh.2.2.1 hb (s := i) (m := sinkers B N) (by omega) s0
        have n1 : ¬ sinkers B N < i := by omega
        have p1 : smN (gS B N (B 8 3) m) (i + 1) = smN (gS B N (B 8 3) m) i + gS B N (B 8 3) m i := rfl
        have a1 := and_64 (63 ^^^ sinkers B N) (show i < 64 by omega)
        have pl := pc_le i
        rw [p1]
        by_cases c1 : i &&& (63 ^^^ sinkers B N) = 0
        · by_cases c2 : pc i = m
          · rw [show gS B N (B 8 3) m i = prN (parF B i (sinkers B N)) (B 8 3) from if_pos ⟨c1, c2⟩]
            simp (disch := omega) only [jb_some, jli, jif, jd_q, jd_K0, jpi_s, jpi_l, jpi_p, jpl_s, jpl_i, jpl_p, if_true, if_false, if_pos, if_neg, not_true_eq_false, not_false_eq_true, ite_true, ite_false, Nat.not_lt_zero, eq_self, Nat.le_refl, Nat.lt_irrefl, Bool.false_eq_true, or0, jo_pi, jo_pl, jia_pi, jia_pl, jo_cpy, jia_cpy, cpy_r, m_X11_grant, m_X11_refuse, m_X13_good, m_X13_refused, reduceCtorEq, nI_add, nI_leI, nI_ltI, nI_eq, pk_mul, abs_nI, max_nI, min_nI, nI_m1, nI_m2, nI_le1, m1_lt, m2_lt, and_nI, or_nI, an_nI, has_nI, bit_nI, bc_nI, bits_nI, lx0, lx1, lx2, lx3, lx4, lx5, lx6, lx7, lx8, lx9, lx10, lx11, lx16, lx20, lx40, lx60, lx90, lx99, lx100, lx200, lx900, lx999, lx9999, jo_118 hW, ja_119 hW, ja_120 hW, ja_121 hW, ja_122 hW, ja_123 hW, ja_124 hW, ja_125 hW, ja_126 hW, ja_127 hW, ja_128 hW, ja_129 hW, wr_118_5 hW, wr_118_15 hW, wr_118_16 hW, wr_118_17 hW, wr_118_18 hW, wr_118_21 hW, wr_118_22 hW, wr_118_23 hW, wr_118_25 hW, wr_118_26 hW, wr_118_27 hW, hS, mb_o hC, mb_j0 hC, mb_j1 hC, mb_j2 hC, mb_j3 hC, mb_j4 hC, mb_j5 hC, mb_j6 hC, mb_j7 hC, mb_r0 hC, mb_r1 hC, mb_r2 hC, mb_r3 hC, mb_r4 hC, mb_r5 hC, mb_r6 hC, mb_r7 hC, mb_a0 hC, mb_a1 hC, mb_a2 hC, mb_a3 hC, mb_a4 hC, mb_a5 hC, mb_a6 hC, mb_a7 hC, mb_s0 hC, mb_s1 hC, mb_s2 hC, mb_s3 hC, mb_s4 hC, mb_s5 hC, mb_s6 hC, mb_s7 hC, mx_p hX, mx_6 hX, mx_7 hX, mx_8 hX, lN_add, lN_mul, nI_l, cl_le, cl_gt, cl_eq, pk_lEQ, pk_lDiv, ly0, ly1, ly2, ly100, n1, c1, c2, e5]
          · rw [show gS B N (B 8 3) m i = 0 from if_neg (fun h => c2 h.2), Nat.add_zero]
            simp (disch := omega) only [jb_some, jli, jif, jd_q, jd_K0, jpi_s, jpi_l, jpi_p, jpl_s, jpl_i, jpl_p, if_true, if_false, if_pos, if_neg, not_true_eq_false, not_false_eq_true, ite_true, ite_false, Nat.not_lt_zero, eq_self, Nat.le_refl, Nat.lt_irrefl, Bool.false_eq_true, or0, jo_pi, jo_pl, jia_pi, jia_pl, jo_cpy, jia_cpy, cpy_r, m_X11_grant, m_X11_refuse, m_X13_good, m_X13_refused, reduceCtorEq, nI_add, nI_leI, nI_ltI, nI_eq, pk_mul, abs_nI, max_nI, min_nI, nI_m1, nI_m2, nI_le1, m1_lt, m2_lt, and_nI, or_nI, an_nI, has_nI, bit_nI, bc_nI, bits_nI, lx0, lx1, lx2, lx3, lx4, lx5, lx6, lx7, lx8, lx9, lx10, lx11, lx16, lx20, lx40, lx60, lx90, lx99, lx100, lx200, lx900, lx999, lx9999, jo_118 hW, ja_119 hW, ja_120 hW, ja_121 hW, ja_122 hW, ja_123 hW, ja_124 hW, ja_125 hW, ja_126 hW, ja_127 hW, ja_128 hW, ja_129 hW, wr_118_5 hW, wr_118_15 hW, wr_118_16 hW, wr_118_17 hW, wr_118_18 hW, wr_118_21 hW, wr_118_22 hW, wr_118_23 hW, wr_118_25 hW, wr_118_26 hW, wr_118_27 hW, hS, mb_o hC, mb_j0 hC, mb_j1 hC, mb_j2 hC, mb_j3 hC, mb_j4 hC, mb_j5 hC, mb_j6 hC, mb_j7 hC, mb_r0 hC, mb_r1 hC, mb_r2 hC, mb_r3 hC, mb_r4 hC, mb_r5 hC, mb_r6 hC, mb_r7 hC, mb_a0 hC, mb_a1 hC, mb_a2 hC, mb_a3 hC, mb_a4 hC, mb_a5 hC, mb_a6 hC, mb_a7 hC, mb_s0 hC, mb_s1 hC, mb_s2 hC, mb_s3 hC, mb_s4 hC, mb_s5 hC, mb_s6 hC, mb_s7 hC, mx_p hX, mx_6 hX, mx_7 hX, mx_8 hX, lN_add, lN_mul, nI_l, cl_le, cl_gt, cl_eq, pk_lEQ, pk_lDiv, ly0, ly1, ly2, ly100, n1, c1, c2]
        · rw [show gS B N (B 8 3) m i = 0 from if_neg (fun h => c1 h.1), Nat.add_zero]
          simp (disch := omega) only [jb_some, jli, jif, jd_q, jd_K0, jpi_s, jpi_l, jpi_p, jpl_s, jpl_i, jpl_p, if_true, if_false, if_pos, if_neg, not_true_eq_false, not_false_eq_true, ite_true, ite_false, Nat.not_lt_zero, eq_self, Nat.le_refl, Nat.lt_irrefl, Bool.false_eq_true, or0, jo_pi, jo_pl, jia_pi, jia_pl, jo_cpy, jia_cpy, cpy_r, m_X11_grant, m_X11_refuse, m_X13_good, m_X13_refused, reduceCtorEq, nI_add, nI_leI, nI_ltI, nI_eq, pk_mul, abs_nI, max_nI, min_nI, nI_m1, nI_m2, nI_le1, m1_lt, m2_lt, and_nI, or_nI, an_nI, has_nI, bit_nI, bc_nI, bits_nI, lx0, lx1, lx2, lx3, lx4, lx5, lx6, lx7, lx8, lx9, lx10, lx11, lx16, lx20, lx40, lx60, lx90, lx99, lx100, lx200, lx900, lx999, lx9999, jo_118 hW, ja_119 hW, ja_120 hW, ja_121 hW, ja_122 hW, ja_123 hW, ja_124 hW, ja_125 hW, ja_126 hW, ja_127 hW, ja_128 hW, ja_129 hW, wr_118_5 hW, wr_118_15 hW, wr_118_16 hW, wr_118_17 hW, wr_118_18 hW, wr_118_21 hW, wr_118_22 hW, wr_118_23 hW, wr_118_25 hW, wr_118_26 hW, wr_118_27 hW, hS, mb_o hC, mb_j0 hC, mb_j1 hC, mb_j2 hC, mb_j3 hC, mb_j4 hC, mb_j5 hC, mb_j6 hC, mb_j7 hC, mb_r0 hC, mb_r1 hC, mb_r2 hC, mb_r3 hC, mb_r4 hC, mb_r5 hC, mb_r6 hC, mb_r7 hC, mb_a0 hC, mb_a1 hC, mb_a2 hC, mb_a3 hC, mb_a4 hC, mb_a5 hC, mb_a6 hC, mb_a7 hC, mb_s0 hC, mb_s1 hC, mb_s2 hC, mb_s3 hC, mb_s4 hC, mb_s5 hC, mb_s6 hC, mb_s7 hC, mx_p hX, mx_6 hX, mx_7 hX, mx_8 hX, lN_add, lN_mul, nI_l, cl_le, cl_gt, cl_eq, pk_lEQ, pk_lDiv, ly0, ly1, ly2, ly100, n1, c1]
      · have n1 : sinkers B N < sinkers B N + 1 := by omega
        rw [gS_sum hb]
        simp (disch := omega) only [jb_some, jli, jif, jd_q, jd_K0, jpi_s, jpi_l, jpi_p, jpl_s, jpl_i, jpl_p, if_true, if_false, if_pos, if_neg, not_true_eq_false, not_false_eq_true, ite_true, ite_false, Nat.not_lt_zero, eq_self, Nat.le_refl, Nat.lt_irrefl, Bool.false_eq_true, or0, jo_pi, jo_pl, jia_pi, jia_pl, jo_cpy, jia_cpy, cpy_r, m_X11_grant, m_X11_refuse, m_X13_good, m_X13_refused, reduceCtorEq, nI_add, nI_leI, nI_ltI, nI_eq, pk_mul, abs_nI, max_nI, min_nI, nI_m1, nI_m2, nI_le1, m1_lt, m2_lt, and_nI, or_nI, an_nI, has_nI, bit_nI, bc_nI, bits_nI, lx0, lx1, lx2, lx3, lx4, lx5, lx6, lx7, lx8, lx9, lx10, lx11, lx16, lx20, lx40, lx60, lx90, lx99, lx100, lx200, lx900, lx999, lx9999, jo_118 hW, ja_119 hW, ja_120 hW, ja_121 hW, ja_122 hW, ja_123 hW, ja_124 hW, ja_125 hW, ja_126 hW, ja_127 hW, ja_128 hW, ja_129 hW, wr_118_5 hW, wr_118_15 hW, wr_118_16 hW, wr_118_17 hW, wr_118_18 hW, wr_118_21 hW, wr_118_22 hW, wr_118_23 hW, wr_118_25 hW, wr_118_26 hW, wr_118_27 hW, hS, mb_o hC, mb_j0 hC, mb_j1 hC, mb_j2 hC, mb_j3 hC, mb_j4 hC, mb_j5 hC, mb_j6 hC, mb_j7 hC, mb_r0 hC, mb_r1 hC, mb_r2 hC, mb_r3 hC, mb_r4 hC, mb_r5 hC, mb_r6 hC, mb_r7 hC, mb_a0 hC, mb_a1 hC, mb_a2 hC, mb_a3 hC, mb_a4 hC, mb_a5 hC, mb_a6 hC, mb_a7 hC, mb_s0 hC, mb_s1 hC, mb_s2 hC, mb_s3 hC, mb_s4 hC, mb_s5 hC, mb_s6 hC, mb_s7 hC, mx_p hX, mx_6 hX, mx_7 hX, mx_8 hX, lN_add, lN_mul, nI_l, cl_le, cl_gt, cl_eq, pk_lEQ, pk_lDiv, ly0, ly1, ly2, ly100, n1]
