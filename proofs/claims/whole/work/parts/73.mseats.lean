/-! P (23): seats, the reference -/
def kx (g : Nat → Nat) : Nat → Option Nat
  | 0 => none
  | k + 1 => if g k ≤ g (k + 1) then some k else kx g k
def jx (g : Nat → Nat) (v : Nat) : Nat → Nat
  | 0 => 0
  | j + 1 => if v ≤ g (j + 1) then j + 1 else jx g v j
def sw (g : Nat → Nat) (a b : Nat) : Nat → Nat := fun i => if i = b then g a else if i = a then g b else g i
def rvF : Nat → (Nat → Nat) → Nat → Nat → Nat → Nat
  | 0, g, _, _ => g
  | m + 1, g, a, b => if b ≤ a then g else rvF m (sw g a b) (a + 1) (b - 1)
def nxt (n : Nat) (g : Nat → Nat) : Option (Nat → Nat) := (kx g (n - 1)).elim none fun k => some (rvF 6 (sw g k (jx g (g k) (n - 1))) (k + 1) (n - 1))
def gF (r : List Nat) : Nat → Nat := fun i => r.getD i 0
def chk (n : Nat) : List (List Nat) → Bool
  | [] => false
  | a :: l => match l with
    | [] => (nxt n (gF a)).isNone
    | b :: _ => ((nxt n (gF a)).elim false fun g => (List.range n).all fun i => g i == gF b i) && chk n l
theorem fin_ch : ∀ n, n < 7 → 0 < n → chk n (pmL n n [] 0) = true := by decide +kernel
theorem fin_hd : ∀ n, n < 7 → (pmL n n [] 0).head? = some (List.range n) := by decide +kernel
theorem fin_len : ∀ n, n < 7 → (pmL n n [] 0).length ≤ 720 := by decide +kernel
theorem kx_spec {g : Nat → Nat} : ∀ {m k : Nat}, kx g m = some k → k < m ∧ g k ≤ g (k + 1)
  | 0, k, h => absurd h (by simp [kx])
  | m + 1, k, h => by
    have h : (if g m ≤ g (m + 1) then some m else kx g m) = some k := h
    split at h
    · injection h with h
      subst h
      exact ⟨by omega, by assumption⟩
    · have := kx_spec h
      exact ⟨by omega, this.2⟩
theorem jx_spec {g : Nat → Nat} {v k : Nat} (hv : v ≤ g (k + 1)) : ∀ {j : Nat}, k < j → k < jx g v j ∧ jx g v j ≤ j
  | 0, h => absurd h (Nat.not_lt_zero k)
  | j + 1, h => by
    show k < (if v ≤ g (j + 1) then j + 1 else jx g v j) ∧ (if v ≤ g (j + 1) then j + 1 else jx g v j) ≤ j + 1
    split
    · exact ⟨h, Nat.le_refl _⟩
    · rename_i h1
      have : k ≠ j := fun e => h1 (by rw [← e]; exact hv)
      have := jx_spec hv (j := j) (by omega)
      exact ⟨this.1, by omega⟩
theorem cnt_range (c : Nat → Bool) : ∀ n, cnt c n = (List.range n).countP c
  | 0 => rfl
  | n + 1 => by
    rw [List.range_succ, List.countP_append, ← cnt_range c n]
    rcases hc : c n with _ | _
    · rw [cnt_f hc]
      simp [hc]
    · rw [cnt_t hc]
      simp [hc]
theorem range_getD (r : List Nat) : (List.range r.length).map (fun i => r.getD i 0) = r := by
  refine List.ext_getElem (by simp) fun i h1 h2 => ?_
  simp [List.getD_eq_getElem?_getD, List.getElem?_eq_getElem h2]
theorem cnt_perm {c : Nat → Bool} {n : Nat} {r : List Nat} (hl : r.length = n) (hp : List.Perm r (List.range n)) : cnt (fun i => c (r.getD i 0)) n = cnt c n := by
  rw [cnt_range, cnt_range, ← List.Perm.countP_eq c hp]
  have := range_getD r
  rw [hl] at this
  conv => rhs; rw [← this]
  rw [List.countP_map]
  rfl
def pX (B : Bch) (N : Nw) (r : List Nat) : Nw := fun k => if k < B 8 3 then N (r.getD k 0) else N k
theorem bEq {a b : Bool} (h : a = true ↔ b = true) : a = b := Bool.eq_iff_iff.mpr h
section
variable {B : Bch} {N : Nw} {b : Nat} {σ σ' τ : jd_Hp}
theorem pX_ok (hb : bOk B) (hn : nOk B N) {r : List Nat} (hr : ∀ i, i < B 8 3 → r.getD i 0 < B 8 3) : nOk B (pX B N r) := by
  have b2 := hb.2.1
  have g : ∀ k, 6 ≤ k → pX B N r k = N k := fun k hk => if_neg (by omega)
  refine ⟨fun p hp => ?_, by rw [g 6 (by omega)]; exact hn.2.1, by rw [g 7 (by omega)]; exact hn.2.2.1, by rw [g 8 (by omega)]; exact hn.2.2.2⟩
  unfold pX
  split
  · rename_i h
    exact hn.1 _ (by have := hr p h; omega)
  · exact hn.1 p hp
theorem unr_cst (hb : bOk B) {r : List Nat} (hl : r.length = B 8 3) (hp : List.Perm r (List.range (B 8 3))) (hr : ∀ i, i < B 8 3 → r.getD i 0 < B 8 3) (hi : ∀ i j, i < B 8 3 → j < B 8 3 → r.getD i 0 = r.getD j 0 → i = j) : pc (unr B (pX B N r)) = cst B N r := by
  have b2 := hb.2.1
  rw [unr_eq hb, pc_bN _ b2]
  unfold cst
  rw [hl]
  refine cnt_congr fun i hi' => ?_
  have hri := hr i hi'
  have x7 : pX B N r 7 = N 7 := if_neg (by omega)
  have x6 : pX B N r 6 = N 6 := if_neg (by omega)
  have xi : ∀ j, j < B 8 3 → pX B N r j = N (r.getD j 0) := fun j hj => if_pos hj
  have hnear : pc (nearN B (pX B N r) i) = pc (nearN B N (r.getD i 0)) := by
    unfold nearN
    rw [pc_bN _ b2, pc_bN _ b2, ← cnt_perm (c := nearC N (r.getD i 0)) hl hp]
    refine cnt_congr fun j hj => ?_
    unfold nearC
    rw [xi j hj, xi i hi']
    refine decide_eq_decide.mpr ?_
    constructor
    · rintro ⟨h1, h2⟩
      exact ⟨fun e => h1 (hi j i hj hi' e), h2⟩
    · rintro ⟨h1, h2⟩
      exact ⟨fun e => h1 (by rw [e]), h2⟩
  have hcov : (cov B (pX B N r) (N 6)).testBit i = (cov B N (N 6)).testBit (r.getD i 0) := by
    refine bEq ?_
    unfold cov
    rw [orN_iff, orN_iff]
    have hq : ∀ q, (if (N 6).testBit q then reach B (pX B N r) q else 0).testBit i = (if (N 6).testBit q then reach B N q else 0).testBit (r.getD i 0) := fun q => by
      rcases (N 6).testBit q with _ | _
      · simp
      · show (reach B (pX B N r) q).testBit i = (reach B N q).testBit (r.getD i 0)
        rw [reach_test hb hi', reach_test hb hri]
        unfold reachC time
        rw [xi i hi']
    constructor
    · rintro ⟨q, h1, h2⟩
      exact ⟨q, h1, (hq q).symm.trans h2⟩
    · rintro ⟨q, h1, h2⟩
      exact ⟨q, h1, (hq q).trans h2⟩
  unfold rsk csC bdC skC sink
  rw [x6, x7, hnear, hcov]
  rcases (N 7).testBit i with _ | _
  · simp [Bool.and_comm]
  · simp
def DO (a _k : Nat) : Prop := a = 121 ∨ a = 127 ∨ a = 128
theorem DO_DM (f : Fr DO L0 σ σ') : Fr DM L0 σ σ' := Fr_mono f (fun a k h => by
  unfold DO at h
  unfold DM
  omega) (fun a h => h)
theorem MV_fo (h : MV B N σ) (f : Fr DO L0 σ σ') : MV B N σ' := MV_of h fun k => f.2.2.1 120 k (by unfold DO; omega)
def OG (n : Nat) (g : Nat → Nat) (σ : jd_Hp) : Prop := ∀ i, i < n → σ.2.1 127 i = nI (g i)
def D7 (a _k : Nat) : Prop := a = 127
theorem D7_DO (f : Fr D7 L0 σ σ') : Fr DO L0 σ σ' := Fr_mono f (fun a k h => Or.inr (Or.inl h)) (fun a h => h)
theorem y_swaps (hW : Wd σ) {n a c : Nat} {g : Nat → Nat} (hn : n ≤ 6) (ha : a < n) (hc : c < n) (hg : OG n g σ) : ∃ σ', m_X13_swaps 118 (nI a) (nI c) σ = some ((), σ') ∧ Fr D7 L0 σ σ' ∧ OG n (sw g a c) σ' := by
  have e1 := hg a ha
  have e2 := hg c hc
  have d7 : ∀ {k : Nat}, D7 127 k := rfl
  refine ⟨jd_pi (jd_pi σ 127 a (nI (g c))) 127 c (nI (g a)), ?_, Fr_pi (Fr_pi (Fr_refl _) d7) d7, fun i hi => ?_⟩
  · unfold m_X13_swaps
    simp (disch := omega) only [jb_some, jli, jif, jd_q, jd_K0, jpi_s, jpi_l, jpi_p, jpl_s, jpl_i, jpl_p, if_true, if_false, if_pos, if_neg, not_true_eq_false, not_false_eq_true, ite_true, ite_false, Nat.not_lt_zero, eq_self, Nat.le_refl, Nat.lt_irrefl, Bool.false_eq_true, or0, jo_pi, jo_pl, jia_pi, jia_pl, jo_cpy, jia_cpy, cpy_r, m_X11_grant, m_X11_refuse, m_X13_good, m_X13_refused, reduceCtorEq, nI_add, nI_leI, nI_ltI, nI_eq, pk_mul, abs_nI, max_nI, min_nI, nI_m1, nI_m2, nI_le1, m1_lt, m2_lt, and_nI, or_nI, an_nI, has_nI, bit_nI, bc_nI, bits_nI, lx0, lx1, lx2, lx3, lx4, lx5, lx6, lx7, lx8, lx9, lx10, lx11, lx16, lx20, lx40, lx60, lx90, lx99, lx100, lx200, lx900, lx999, lx9999, jo_118 hW, ja_119 hW, ja_120 hW, ja_121 hW, ja_122 hW, ja_123 hW, ja_124 hW, ja_125 hW, ja_126 hW, ja_127 hW, ja_128 hW, ja_129 hW, wr_118_5 hW, wr_118_15 hW, wr_118_16 hW, wr_118_17 hW, wr_118_18 hW, wr_118_21 hW, wr_118_22 hW, wr_118_23 hW, wr_118_25 hW, wr_118_26 hW, wr_118_27 hW, e1, e2]
  · unfold sw
    by_cases h1 : i = c
    · rw [h1, pi_eq, if_pos rfl]
    · rw [pi_ne _ _ (by omega), if_neg h1]
      by_cases h2 : i = a
      · rw [h2, pi_eq, if_pos rfl]
      · rw [pi_ne _ _ (by omega), if_neg h2]
        exact hg i hi
def noK (s3 : Int32) (σ3 : jd_Hp) : Option ((Int32 ⊕ Int32) × jd_Hp) :=
jd_if (s3 < 0) (
some ((Sum.inr s3), σ3)) (
jd_o σ3 (13, 29) (some 118) fun a5 =>
jd_ia σ3 20 (σ3.2.2.2 a5 25) s3 fun a6 j6 =>
jd_ia σ3 20 (σ3.2.2.2 a5 25) (s3 + 1) fun a7 j7 =>
jd_if ((σ3.2.1 a6 j6) ≤ (σ3.2.1 a7 j7)) (
some ((Sum.inr s3), σ3)) (
some (Sum.inl (s3 + (-1)), σ3)))
def noJ (t4 s11 : Int32) (σ11 : jd_Hp) : Option ((Int32 ⊕ Int32) × jd_Hp) :=
jd_o σ11 (13, 29) (some 118) fun a13 =>
jd_ia σ11 20 (σ11.2.2.2 a13 25) s11 fun a14 j14 =>
jd_ia σ11 20 (σ11.2.2.2 a13 25) t4 fun a15 j15 =>
jd_if ((σ11.2.1 a15 j15) ≤ (σ11.2.1 a14 j14)) (
some ((Sum.inr s11), σ11)) (
some (Sum.inl (s11 + (-1)), σ11))
def noR (s21 : Int32 × Int32) (σ21 : jd_Hp) : Option (((Int32 × Int32) ⊕ Unit) × jd_Hp) :=
jd_if (s21.2 ≤ s21.1) (
some ((Sum.inr ()), σ21)) (
jd_o σ21 (13, 29) (some 118) fun a23 =>
jd_b (m_X13_swaps a23 s21.1 s21.2 σ21) fun r24 σ24 =>
some (Sum.inl ((s21.1 + 1), (s21.2 + (-1))), σ24))
theorem nextOrder_eq (σ : jd_Hp) : m_X13_nextOrder 118 σ =
jd_o σ (12, 20) (σ.2.2.2 118 3) fun a1 =>
jd_li ((σ.2.1 a1 3) - 2) fun x2 =>
jd_b (jd_lp noK jd_fu x2 σ) fun t4 σ4 =>
jd_if (0 ≤ t4) (
jd_o σ4 (13, 29) (some 118) fun a8 =>
jd_o σ4 (12, 20) (σ4.2.2.2 a8 3) fun a9 =>
jd_li ((σ4.2.1 a9 3) - 1) fun x10 =>
jd_b (jd_lp (noJ t4) jd_fu x10 σ4) fun t12 σ12 =>
jd_o σ12 (13, 29) (some 118) fun a16 =>
jd_b (m_X13_swaps a16 t4 t12 σ12) fun r17 σ17 =>
jd_li (t4 + 1) fun x18 =>
jd_o σ17 (12, 20) (σ17.2.2.2 a16 3) fun a19 =>
jd_li ((σ17.2.1 a19 3) - 1) fun x20 =>
jd_b (jd_lp noR jd_fu (x18, x20) σ17) fun t22 σ22 =>
some (1, σ22)) (
some (0, σ4)) := id rfl
theorem nI_dm (n : Nat) : nI n + - nI 1 = nI n - nI 1 := (Int32.sub_eq_add_neg _ _).symm
theorem nI_s1 (n : Nat) : nI (n + 1) - nI 1 = nI n := nI_sub (by omega)
theorem y_kx (hW : Wd σ) {n : Nat} {g : Nat → Nat} (hn : n ≤ 6) (hg : OG n g σ) (hb : ∀ i, i < n → g i < n) : ∀ (m f : Nat), m < f → m < n → jd_lp noK f (nI m - nI 1) σ = some ((kx g m).elim (- nI 1) nI, σ)
  | 0, f, hf, _ => by
    obtain ⟨f', rfl⟩ : ∃ f', f = f' + 1 := ⟨f - 1, by omega⟩
    show jd_b (noK (nI 0 - nI 1) σ) _ = _
    unfold noK
    rw [jif, if_pos (show nI 0 - nI 1 < (0 : Int32) by decide), jb_some]
    rfl
  | m + 1, f, hf, hm => by
    obtain ⟨f', rfl⟩ : ∃ f', f = f' + 1 := ⟨f - 1, by omega⟩
    have ih := y_kx hW hn hg hb m f' (by omega) (by omega)
    have e1 := hg m (by omega)
    have e2 := hg (m + 1) hm
    have h1 := hb m (by omega)
    have h2 := hb (m + 1) hm
    rw [nI_s1]
    show jd_b (noK (nI m) σ) (jd_q (fun s' σ' => jd_lp noK f' s' σ') jd_K0) = some ((if g m ≤ g (m + 1) then some m else kx g m).elim (- nI 1) nI, σ)
    by_cases hc : g m ≤ g (m + 1)
    · have e3 : noK (nI m) σ = some (.inr (nI m), σ) := by
        unfold noK
        simp (disch := omega) only [jb_some, jli, jif, jd_q, jd_K0, jpi_s, jpi_l, jpi_p, jpl_s, jpl_i, jpl_p, if_true, if_false, if_pos, if_neg, not_true_eq_false, not_false_eq_true, ite_true, ite_false, Nat.not_lt_zero, eq_self, Nat.le_refl, Nat.lt_irrefl, Bool.false_eq_true, or0, jo_pi, jo_pl, jia_pi, jia_pl, jo_cpy, jia_cpy, cpy_r, m_X11_grant, m_X11_refuse, m_X13_good, m_X13_refused, reduceCtorEq, nI_add, nI_leI, nI_ltI, nI_eq, pk_mul, abs_nI, max_nI, min_nI, nI_m1, nI_m2, nI_le1, m1_lt, m2_lt, and_nI, or_nI, an_nI, has_nI, bit_nI, bc_nI, bits_nI, lx0, lx1, lx2, lx3, lx4, lx5, lx6, lx7, lx8, lx9, lx10, lx11, lx16, lx20, lx40, lx60, lx90, lx99, lx100, lx200, lx900, lx999, lx9999, jo_118 hW, ja_119 hW, ja_120 hW, ja_121 hW, ja_122 hW, ja_123 hW, ja_124 hW, ja_125 hW, ja_126 hW, ja_127 hW, ja_128 hW, ja_129 hW, wr_118_5 hW, wr_118_15 hW, wr_118_16 hW, wr_118_17 hW, wr_118_18 hW, wr_118_21 hW, wr_118_22 hW, wr_118_23 hW, wr_118_25 hW, wr_118_26 hW, wr_118_27 hW, e1, e2, hc]
      rw [e3, if_pos hc]
      rfl
    · have e3 : noK (nI m) σ = some (.inl (nI m - nI 1), σ) := by
        unfold noK
        simp (disch := omega) only [jb_some, jli, jif, jd_q, jd_K0, jpi_s, jpi_l, jpi_p, jpl_s, jpl_i, jpl_p, if_true, if_false, if_pos, if_neg, not_true_eq_false, not_false_eq_true, ite_true, ite_false, Nat.not_lt_zero, eq_self, Nat.le_refl, Nat.lt_irrefl, Bool.false_eq_true, or0, jo_pi, jo_pl, jia_pi, jia_pl, jo_cpy, jia_cpy, cpy_r, m_X11_grant, m_X11_refuse, m_X13_good, m_X13_refused, reduceCtorEq, nI_add, nI_leI, nI_ltI, nI_eq, pk_mul, abs_nI, max_nI, min_nI, nI_m1, nI_m2, nI_le1, m1_lt, m2_lt, and_nI, or_nI, an_nI, has_nI, bit_nI, bc_nI, bits_nI, lx0, lx1, lx2, lx3, lx4, lx5, lx6, lx7, lx8, lx9, lx10, lx11, lx16, lx20, lx40, lx60, lx90, lx99, lx100, lx200, lx900, lx999, lx9999, jo_118 hW, ja_119 hW, ja_120 hW, ja_121 hW, ja_122 hW, ja_123 hW, ja_124 hW, ja_125 hW, ja_126 hW, ja_127 hW, ja_128 hW, ja_129 hW, wr_118_5 hW, wr_118_15 hW, wr_118_16 hW, wr_118_17 hW, wr_118_18 hW, wr_118_21 hW, wr_118_22 hW, wr_118_23 hW, wr_118_25 hW, wr_118_26 hW, wr_118_27 hW, e1, e2, hc, nI_dm]
      rw [e3, if_neg hc]
      exact ih
theorem y_jx (hW : Wd σ) {n k : Nat} {g : Nat → Nat} (hn : n ≤ 6) (hg : OG n g σ) (hb : ∀ i, i < n → g i < n) (hk : k + 1 < n) (hv : g k ≤ g (k + 1)) : ∀ (j f : Nat), j < f → k < j → j < n → jd_lp (noJ (nI k)) f (nI j) σ = some (nI (jx g (g k) j), σ)
  | 0, f, _, hkj, _ => absurd hkj (Nat.not_lt_zero k)
  | j + 1, f, hf, hkj, hj => by
    obtain ⟨f', rfl⟩ : ∃ f', f = f' + 1 := ⟨f - 1, by omega⟩
    have e1 := hg k (by omega)
    have e2 := hg (j + 1) hj
    have h1 := hb k (by omega)
    have h2 := hb (j + 1) hj
    show jd_b (noJ (nI k) (nI (j + 1)) σ) (jd_q (fun s' σ' => jd_lp (noJ (nI k)) f' s' σ') jd_K0) = some (nI (if g k ≤ g (j + 1) then j + 1 else jx g (g k) j), σ)
    by_cases hc : g k ≤ g (j + 1)
    · have e3 : noJ (nI k) (nI (j + 1)) σ = some (.inr (nI (j + 1)), σ) := by
        unfold noJ
        simp (disch := omega) only [jb_some, jli, jif, jd_q, jd_K0, jpi_s, jpi_l, jpi_p, jpl_s, jpl_i, jpl_p, if_true, if_false, if_pos, if_neg, not_true_eq_false, not_false_eq_true, ite_true, ite_false, Nat.not_lt_zero, eq_self, Nat.le_refl, Nat.lt_irrefl, Bool.false_eq_true, or0, jo_pi, jo_pl, jia_pi, jia_pl, jo_cpy, jia_cpy, cpy_r, m_X11_grant, m_X11_refuse, m_X13_good, m_X13_refused, reduceCtorEq, nI_add, nI_leI, nI_ltI, nI_eq, pk_mul, abs_nI, max_nI, min_nI, nI_m1, nI_m2, nI_le1, m1_lt, m2_lt, and_nI, or_nI, an_nI, has_nI, bit_nI, bc_nI, bits_nI, lx0, lx1, lx2, lx3, lx4, lx5, lx6, lx7, lx8, lx9, lx10, lx11, lx16, lx20, lx40, lx60, lx90, lx99, lx100, lx200, lx900, lx999, lx9999, jo_118 hW, ja_119 hW, ja_120 hW, ja_121 hW, ja_122 hW, ja_123 hW, ja_124 hW, ja_125 hW, ja_126 hW, ja_127 hW, ja_128 hW, ja_129 hW, wr_118_5 hW, wr_118_15 hW, wr_118_16 hW, wr_118_17 hW, wr_118_18 hW, wr_118_21 hW, wr_118_22 hW, wr_118_23 hW, wr_118_25 hW, wr_118_26 hW, wr_118_27 hW, e1, e2, hc]
      rw [e3, if_pos hc]
      rfl
    · have e3 : noJ (nI k) (nI (j + 1)) σ = some (.inl (nI j), σ) := by
        unfold noJ
        simp (disch := omega) only [jb_some, jli, jif, jd_q, jd_K0, jpi_s, jpi_l, jpi_p, jpl_s, jpl_i, jpl_p, if_true, if_false, if_pos, if_neg, not_true_eq_false, not_false_eq_true, ite_true, ite_false, Nat.not_lt_zero, eq_self, Nat.le_refl, Nat.lt_irrefl, Bool.false_eq_true, or0, jo_pi, jo_pl, jia_pi, jia_pl, jo_cpy, jia_cpy, cpy_r, m_X11_grant, m_X11_refuse, m_X13_good, m_X13_refused, reduceCtorEq, nI_add, nI_leI, nI_ltI, nI_eq, pk_mul, abs_nI, max_nI, min_nI, nI_m1, nI_m2, nI_le1, m1_lt, m2_lt, and_nI, or_nI, an_nI, has_nI, bit_nI, bc_nI, bits_nI, lx0, lx1, lx2, lx3, lx4, lx5, lx6, lx7, lx8, lx9, lx10, lx11, lx16, lx20, lx40, lx60, lx90, lx99, lx100, lx200, lx900, lx999, lx9999, jo_118 hW, ja_119 hW, ja_120 hW, ja_121 hW, ja_122 hW, ja_123 hW, ja_124 hW, ja_125 hW, ja_126 hW, ja_127 hW, ja_128 hW, ja_129 hW, wr_118_5 hW, wr_118_15 hW, wr_118_16 hW, wr_118_17 hW, wr_118_18 hW, wr_118_21 hW, wr_118_22 hW, wr_118_23 hW, wr_118_25 hW, wr_118_26 hW, wr_118_27 hW, e1, e2, hc, nI_dec]
      have hne : k ≠ j := fun e => hc (by rw [← e]; exact hv)
      rw [e3, if_neg hc]
      exact y_jx hW hn hg hb hk hv j f' (by omega) (by omega) (by omega)
theorem y_rv {n : Nat} (hn : n ≤ 6) : ∀ (m f a c : Nat) (g : Nat → Nat) (σ : jd_Hp), Wd σ → OG n g σ → m < f → c ≤ a + 2 * m → c < n → a + m ≤ 100 → ∃ σ', jd_lp noR f (nI a, nI c) σ = some ((), σ') ∧ Fr D7 L0 σ σ' ∧ OG n (rvF m g a c) σ' := by
  intro m
  induction m with
  | zero =>
    intro f a c g σ hW hg hf hc hcn ha
    obtain ⟨f', rfl⟩ : ∃ f', f = f' + 1 := ⟨f - 1, by omega⟩
    refine ⟨σ, ?_, Fr_refl _, hg⟩
    show jd_b (noR (nI a, nI c) σ) _ = _
    unfold noR
    rw [jif, if_pos (nI_le (by omega) (by omega)), jb_some]
    rfl
  | succ m ih =>
    intro f a c g σ hW hg hf hc hcn ha
    obtain ⟨f', rfl⟩ : ∃ f', f = f' + 1 := ⟨f - 1, by omega⟩
    have er : rvF (m + 1) g a c = if c ≤ a then g else rvF m (sw g a c) (a + 1) (c - 1) := rfl
    by_cases hca : c ≤ a
    · refine ⟨σ, ?_, Fr_refl _, by rw [er, if_pos hca]; exact hg⟩
      show jd_b (noR (nI a, nI c) σ) _ = _
      unfold noR
      rw [jif, if_pos (nI_le (by omega) (by omega)), jb_some]
      rfl
    · obtain ⟨σ1, e1, F1, g1⟩ := y_swaps hW hn (show a < n by omega) hcn hg
      obtain ⟨σ2, e2, F2, g2⟩ := ih f' (a + 1) (c - 1) (sw g a c) σ1 (Fr_Wd F1 hW) g1 (by omega) (by omega) (by omega) (by omega)
      refine ⟨σ2, ?_, Fr_tr F1 F2, by rw [er, if_neg hca]; exact g2⟩
      show jd_b (noR (nI a, nI c) σ) (jd_q (fun s' σ' => jd_lp noR f' s' σ') jd_K0) = _
      have e3 : noR (nI a, nI c) σ = some (.inl (nI (a + 1), nI (c - 1)), σ1) := by
        have hd : nI c + - nI 1 = nI (c - 1) := by
          rw [nI_dm]
          exact nI_sub (by omega)
        unfold noR
        simp (disch := omega) only [jb_some, jli, jif, jd_q, jd_K0, jpi_s, jpi_l, jpi_p, jpl_s, jpl_i, jpl_p, if_true, if_false, if_pos, if_neg, not_true_eq_false, not_false_eq_true, ite_true, ite_false, Nat.not_lt_zero, eq_self, Nat.le_refl, Nat.lt_irrefl, Bool.false_eq_true, or0, jo_pi, jo_pl, jia_pi, jia_pl, jo_cpy, jia_cpy, cpy_r, m_X11_grant, m_X11_refuse, m_X13_good, m_X13_refused, reduceCtorEq, nI_add, nI_leI, nI_ltI, nI_eq, pk_mul, abs_nI, max_nI, min_nI, nI_m1, nI_m2, nI_le1, m1_lt, m2_lt, and_nI, or_nI, an_nI, has_nI, bit_nI, bc_nI, bits_nI, lx0, lx1, lx2, lx3, lx4, lx5, lx6, lx7, lx8, lx9, lx10, lx11, lx16, lx20, lx40, lx60, lx90, lx99, lx100, lx200, lx900, lx999, lx9999, jo_118 hW, ja_119 hW, ja_120 hW, ja_121 hW, ja_122 hW, ja_123 hW, ja_124 hW, ja_125 hW, ja_126 hW, ja_127 hW, ja_128 hW, ja_129 hW, wr_118_5 hW, wr_118_15 hW, wr_118_16 hW, wr_118_17 hW, wr_118_18 hW, wr_118_21 hW, wr_118_22 hW, wr_118_23 hW, wr_118_25 hW, wr_118_26 hW, wr_118_27 hW, e1, hca, hd]
      rw [e3]
      exact e2
theorem y_next0 (hW : Wd σ) (hS : σ.2.2.2 118 3 = some b) (hC : MT B b σ) (hb : bOk B) {g : Nat → Nat} (hg : OG (B 8 3) g σ) (hB : ∀ i, i < B 8 3 → g i < B 8 3) (hx : nxt (B 8 3) g = none) : m_X13_nextOrder 118 σ = some (0, σ) := by
  have b1 := hb.1
  have b2 := hb.2.1
  have e1 := y_kx hW b2 hg hB (B 8 3 - 1) jd_fu (jfu (by omega)) (by omega)
  have hk : kx g (B 8 3 - 1) = none := by
    unfold nxt at hx
    rcases h : kx g (B 8 3 - 1) with _ | k
    · rfl
    · rw [h] at hx
      exact absurd hx (by simp)
  rw [hk] at e1
  have e1 : jd_lp noK jd_fu (nI (B 8 3 - 1) - nI 1) σ = some (- nI 1, σ) := e1
  have e0 : nI (B 8 3) - (2 : Int32) = nI (B 8 3 - 1) - nI 1 := by
    rw [show nI (B 8 3 - 1) = nI (B 8 3) - nI 1 from (nI_sub b1).symm, Int32.sub_sub]
    rfl
  rw [nextOrder_eq, hS, mb_o hC, mb_s3 hC, jli, e0, e1, jb_some, jif, if_neg (show ¬ (0 : Int32) ≤ - nI 1 by decide)]
set_option maxHeartbeats 2000000 in
theorem y_next1 (hW : Wd σ) (hS : σ.2.2.2 118 3 = some b) (hC : MT B b σ) (hb : bOk B) {g g' : Nat → Nat} (hg : OG (B 8 3) g σ) (hB : ∀ i, i < B 8 3 → g i < B 8 3) (hx : nxt (B 8 3) g = some g') : ∃ σ', m_X13_nextOrder 118 σ = some (1, σ') ∧ Fr D7 L0 σ σ' ∧ OG (B 8 3) g' σ' := by
  have b1 := hb.1
  have b2 := hb.2.1
  have e1 := y_kx hW b2 hg hB (B 8 3 - 1) jd_fu (jfu (by omega)) (by omega)
  rcases hk : kx g (B 8 3 - 1) with _ | k
  · unfold nxt at hx
    rw [hk] at hx
    exact absurd hx (by simp)
  · rw [hk] at e1
    have hx : some (rvF 6 (sw g k (jx g (g k) (B 8 3 - 1))) (k + 1) (B 8 3 - 1)) = some g' := by
      unfold nxt at hx
      rw [hk] at hx
      exact hx
    injection hx with hx
    obtain ⟨k1, k2⟩ := kx_spec hk
    have e0 : nI (B 8 3) - (2 : Int32) = nI (B 8 3 - 1) - nI 1 := by
      rw [show nI (B 8 3 - 1) = nI (B 8 3) - nI 1 from (nI_sub b1).symm, Int32.sub_sub]
      rfl
    have e9 : nI (B 8 3) - (1 : Int32) = nI (B 8 3 - 1) := nI_sub b1
    have e2 := y_jx hW b2 hg hB (by omega) k2 (B 8 3 - 1) jd_fu (jfu (by omega)) (by omega) (by omega)
    have j1 := jx_spec (j := B 8 3 - 1) k2 (by omega)
    obtain ⟨σ1, s1, F1, g1⟩ := y_swaps hW b2 (show k < B 8 3 by omega) (show jx g (g k) (B 8 3 - 1) < B 8 3 by omega) hg
    have hW1 := Fr_Wd F1 hW
    have hC1 := MT_fr hC (DO_DM (D7_DO F1))
    have hS1 : σ1.2.2.2 118 3 = some b := by rw [F1.2.1]; exact hS
    obtain ⟨σ2, s2, F2, g2⟩ := y_rv b2 6 jd_fu (k + 1) (B 8 3 - 1) _ σ1 hW1 g1 (jfu (by omega)) (by omega) (by omega) (by omega)
    refine ⟨σ2, ?_, Fr_tr F1 F2, by rw [← hx]; exact g2⟩
    have e1 : jd_lp noK jd_fu (nI (B 8 3 - 1) - nI 1) σ = some (nI k, σ) := e1
    rw [nextOrder_eq, hS, mb_o hC, mb_s3 hC, jli, e0, e1, jb_some, jif, if_pos (show (0 : Int32) ≤ nI k from nI_pos' (by omega)), jo_118 hW, hS, mb_o hC, mb_s3 hC, jli, e9, e2, jb_some, jo_118 hW, s1, jb_some, nI_1, jli, hS1, mb_o hC1, mb_s3 hC1, jli, e9, s2, jb_some]
def sbX (σ : jd_Hp) : Option (Unit × jd_Hp) := jd_lp (S := Int32) (T := Unit) (fun s10 σ10 =>
jd_o σ10 (13, 29) (some 118) fun a12 =>
jd_o σ10 (12, 20) (σ10.2.2.2 a12 3) fun a13 =>
jd_if ((σ10.2.1 a13 3) ≤ s10) (
some ((Sum.inr ()), σ10)) (
jd_ia σ10 20 (σ10.2.2.2 a12 25) s10 fun a14 j14 =>
jd_ia σ10 20 (σ10.2.2.2 a12 15) (σ10.2.1 a14 j14) fun a15 j15 =>
jd_ia σ10 20 (σ10.2.2.2 a12 16) s10 fun a16 j16 =>
jd_li (jd_pi σ10 a16 j16 (σ10.2.1 a15 j15)) fun τ17 =>
some (Sum.inl (s10 + 1), τ17))) jd_fu 0 σ
def sbC (σ : jd_Hp) : Option (Unit × jd_Hp) := jd_lp (S := Int32) (T := Unit) (fun s22 σ22 =>
jd_o σ22 (13, 29) (some 118) fun a24 =>
jd_o σ22 (12, 20) (σ22.2.2.2 a24 3) fun a25 =>
jd_if ((σ22.2.1 a25 3) ≤ s22) (
some ((Sum.inr ()), σ22)) (
jd_ia σ22 20 (σ22.2.2.2 a24 25) s22 fun a26 j26 =>
jd_ia σ22 20 (σ22.2.2.2 a24 26) s22 fun a27 j27 =>
jd_li (jd_pi σ22 a27 j27 (σ22.2.1 a26 j26)) fun τ28 =>
some (Sum.inl (s22 + 1), τ28))) jd_fu 0 σ
def sbO (σ : jd_Hp) : Option (Unit × jd_Hp) := jd_lp (S := Int32) (T := Unit) (fun s2 σ2 =>
jd_o σ2 (13, 29) (some 118) fun a4 =>
jd_o σ2 (12, 20) (σ2.2.2.2 a4 3) fun a5 =>
jd_if ((σ2.2.1 a5 3) ≤ s2) (
some ((Sum.inr ()), σ2)) (
jd_ia σ2 20 (σ2.2.2.2 a4 25) s2 fun a6 j6 =>
jd_li (jd_pi σ2 a6 j6 s2) fun τ7 =>
some (Sum.inl (s2 + 1), τ7))) jd_fu 0 σ
def sbB (s8 : Int32 × Int32) (σ8 : jd_Hp) : Option (((Int32 × Int32) ⊕ Int32) × jd_Hp) :=
jd_if (s8.2 = 0) (
some ((Sum.inr s8.1), σ8)) (
jd_b (sbX σ8) fun t11 σ11 =>
jd_o σ11 (13, 29) (some 118) fun a18 =>
jd_b (m_X13_unreached a18 σ11) fun r19 σ19 =>
jd_b (m_X13_bits r19 σ19) fun r20 σ20 =>
jd_if (s8.1 ≤ r20) (
jd_b (m_X13_nextOrder a18 σ20) fun r21 σ21 =>
some (Sum.inl (s8.1, r21), σ21)) (
jd_b (sbC σ20) fun t23 σ23 =>
jd_o σ23 (13, 29) (some 118) fun a29 =>
jd_b (m_X13_nextOrder a29 σ23) fun r30 σ30 =>
some (Sum.inl (r20, r30), σ30)))
theorem seatsBest_eq (σ : jd_Hp) : m_X13_seatsBest 118 σ =
jd_b (m_X13_works 118 σ) fun r1 σ1 =>
jd_b (sbO σ1) fun t3 σ3 =>
jd_b (jd_lp sbB jd_fu (7, 1) σ3) fun t9 σ9 =>
some (t9, σ9) := id rfl
theorem y_sbX (hW : Wd σ) (hS : σ.2.2.2 118 3 = some b) (hC : MT B b σ) (hV : MV B N σ) (hb : bOk B) {g : Nat → Nat} (hg : OG (B 8 3) g σ) (hB : ∀ i, i < B 8 3 → g i < B 8 3) : sbX σ = some ((), cpy σ 121 (fun i => nI (N (g i))) (B 8 3)) := by
  have b2 := hb.2.1
  unfold sbX
  refine jlp_h (B 8 3) (fun i => nI i) (fun i => cpy σ 121 (fun i => nI (N (g i))) i) () _ (jfu (by omega)) rfl (cpy_0 _ _ _).symm ?_ ?_
  · intro i hi
    have ni : ¬ B 8 3 ≤ i := by omega
    have e0 : (cpy σ 121 (fun i => nI (N (g i))) i).2.1 b 3 = nI (B 8 3) := by
      have := hC.1
      rw [cpy_i, if_neg (by omega)]
      exact mb_s3 hC
    have e1 : (cpy σ 121 (fun i => nI (N (g i))) i).2.1 127 i = nI (g i) := by
      rw [cpy_i, if_neg (by omega)]
      exact hg i hi
    have h1 := hB i hi
    have e2 : (cpy σ 121 (fun i => nI (N (g i))) i).2.1 120 (g i) = nI (N (g i)) := by
      rw [cpy_i, if_neg (by omega)]
      exact mv_p hV h1
    simp (disch := omega) only [jb_some, jli, jif, jd_q, jd_K0, jpi_s, jpi_l, jpi_p, jpl_s, jpl_i, jpl_p, if_true, if_false, if_pos, if_neg, not_true_eq_false, not_false_eq_true, ite_true, ite_false, Nat.not_lt_zero, eq_self, Nat.le_refl, Nat.lt_irrefl, Bool.false_eq_true, or0, jo_pi, jo_pl, jia_pi, jia_pl, jo_cpy, jia_cpy, cpy_r, m_X11_grant, m_X11_refuse, m_X13_good, m_X13_refused, reduceCtorEq, nI_add, nI_leI, nI_ltI, nI_eq, pk_mul, abs_nI, max_nI, min_nI, nI_m1, nI_m2, nI_le1, m1_lt, m2_lt, and_nI, or_nI, an_nI, has_nI, bit_nI, bc_nI, bits_nI, lx0, lx1, lx2, lx3, lx4, lx5, lx6, lx7, lx8, lx9, lx10, lx11, lx16, lx20, lx40, lx60, lx90, lx99, lx100, lx200, lx900, lx999, lx9999, jo_118 hW, ja_119 hW, ja_120 hW, ja_121 hW, ja_122 hW, ja_123 hW, ja_124 hW, ja_125 hW, ja_126 hW, ja_127 hW, ja_128 hW, ja_129 hW, wr_118_5 hW, wr_118_15 hW, wr_118_16 hW, wr_118_17 hW, wr_118_18 hW, wr_118_21 hW, wr_118_22 hW, wr_118_23 hW, wr_118_25 hW, wr_118_26 hW, wr_118_27 hW, hS, ni, e0, e1, e2, mb_o hC]
    rw [← cpy_s]
  · have e0 : (cpy σ 121 (fun i => nI (N (g i))) (B 8 3)).2.1 b 3 = nI (B 8 3) := by
      have := hC.1
      rw [cpy_i, if_neg (by omega)]
      exact mb_s3 hC
    simp (disch := omega) only [jb_some, jli, jif, jd_q, jd_K0, jpi_s, jpi_l, jpi_p, jpl_s, jpl_i, jpl_p, if_true, if_false, if_pos, if_neg, not_true_eq_false, not_false_eq_true, ite_true, ite_false, Nat.not_lt_zero, eq_self, Nat.le_refl, Nat.lt_irrefl, Bool.false_eq_true, or0, jo_pi, jo_pl, jia_pi, jia_pl, jo_cpy, jia_cpy, cpy_r, m_X11_grant, m_X11_refuse, m_X13_good, m_X13_refused, reduceCtorEq, nI_add, nI_leI, nI_ltI, nI_eq, pk_mul, abs_nI, max_nI, min_nI, nI_m1, nI_m2, nI_le1, m1_lt, m2_lt, and_nI, or_nI, an_nI, has_nI, bit_nI, bc_nI, bits_nI, lx0, lx1, lx2, lx3, lx4, lx5, lx6, lx7, lx8, lx9, lx10, lx11, lx16, lx20, lx40, lx60, lx90, lx99, lx100, lx200, lx900, lx999, lx9999, jo_118 hW, ja_119 hW, ja_120 hW, ja_121 hW, ja_122 hW, ja_123 hW, ja_124 hW, ja_125 hW, ja_126 hW, ja_127 hW, ja_128 hW, ja_129 hW, wr_118_5 hW, wr_118_15 hW, wr_118_16 hW, wr_118_17 hW, wr_118_18 hW, wr_118_21 hW, wr_118_22 hW, wr_118_23 hW, wr_118_25 hW, wr_118_26 hW, wr_118_27 hW, hS, e0, mb_o hC]
theorem y_sbC (hW : Wd σ) (hS : σ.2.2.2 118 3 = some b) (hC : MT B b σ) (hb : bOk B) : sbC σ = some ((), cpy σ 128 (σ.2.1 127) (B 8 3)) := by
  have b2 := hb.2.1
  unfold sbC
  refine jlp_h (B 8 3) (fun i => nI i) (fun i => cpy σ 128 (σ.2.1 127) i) () _ (jfu (by omega)) rfl (cpy_0 _ _ _).symm ?_ ?_
  · intro i hi
    have ni : ¬ B 8 3 ≤ i := by omega
    have e0 : (cpy σ 128 (σ.2.1 127) i).2.1 b 3 = nI (B 8 3) := by
      have := hC.1
      rw [cpy_i, if_neg (by omega)]
      exact mb_s3 hC
    simp (disch := omega) only [jb_some, jli, jif, jd_q, jd_K0, jpi_s, jpi_l, jpi_p, jpl_s, jpl_i, jpl_p, if_true, if_false, if_pos, if_neg, not_true_eq_false, not_false_eq_true, ite_true, ite_false, Nat.not_lt_zero, eq_self, Nat.le_refl, Nat.lt_irrefl, Bool.false_eq_true, or0, jo_pi, jo_pl, jia_pi, jia_pl, jo_cpy, jia_cpy, cpy_r, m_X11_grant, m_X11_refuse, m_X13_good, m_X13_refused, reduceCtorEq, nI_add, nI_leI, nI_ltI, nI_eq, pk_mul, abs_nI, max_nI, min_nI, nI_m1, nI_m2, nI_le1, m1_lt, m2_lt, and_nI, or_nI, an_nI, has_nI, bit_nI, bc_nI, bits_nI, lx0, lx1, lx2, lx3, lx4, lx5, lx6, lx7, lx8, lx9, lx10, lx11, lx16, lx20, lx40, lx60, lx90, lx99, lx100, lx200, lx900, lx999, lx9999, jo_118 hW, ja_119 hW, ja_120 hW, ja_121 hW, ja_122 hW, ja_123 hW, ja_124 hW, ja_125 hW, ja_126 hW, ja_127 hW, ja_128 hW, ja_129 hW, wr_118_5 hW, wr_118_15 hW, wr_118_16 hW, wr_118_17 hW, wr_118_18 hW, wr_118_21 hW, wr_118_22 hW, wr_118_23 hW, wr_118_25 hW, wr_118_26 hW, wr_118_27 hW, hS, ni, e0, mb_o hC]
    rw [← cpy_s, cpy_i, if_neg (by omega)]
  · have e0 : (cpy σ 128 (σ.2.1 127) (B 8 3)).2.1 b 3 = nI (B 8 3) := by
      have := hC.1
      rw [cpy_i, if_neg (by omega)]
      exact mb_s3 hC
    simp (disch := omega) only [jb_some, jli, jif, jd_q, jd_K0, jpi_s, jpi_l, jpi_p, jpl_s, jpl_i, jpl_p, if_true, if_false, if_pos, if_neg, not_true_eq_false, not_false_eq_true, ite_true, ite_false, Nat.not_lt_zero, eq_self, Nat.le_refl, Nat.lt_irrefl, Bool.false_eq_true, or0, jo_pi, jo_pl, jia_pi, jia_pl, jo_cpy, jia_cpy, cpy_r, m_X11_grant, m_X11_refuse, m_X13_good, m_X13_refused, reduceCtorEq, nI_add, nI_leI, nI_ltI, nI_eq, pk_mul, abs_nI, max_nI, min_nI, nI_m1, nI_m2, nI_le1, m1_lt, m2_lt, and_nI, or_nI, an_nI, has_nI, bit_nI, bc_nI, bits_nI, lx0, lx1, lx2, lx3, lx4, lx5, lx6, lx7, lx8, lx9, lx10, lx11, lx16, lx20, lx40, lx60, lx90, lx99, lx100, lx200, lx900, lx999, lx9999, jo_118 hW, ja_119 hW, ja_120 hW, ja_121 hW, ja_122 hW, ja_123 hW, ja_124 hW, ja_125 hW, ja_126 hW, ja_127 hW, ja_128 hW, ja_129 hW, wr_118_5 hW, wr_118_15 hW, wr_118_16 hW, wr_118_17 hW, wr_118_18 hW, wr_118_21 hW, wr_118_22 hW, wr_118_23 hW, wr_118_25 hW, wr_118_26 hW, wr_118_27 hW, hS, e0, mb_o hC]
theorem y_sbO (hW : Wd σ) (hS : σ.2.2.2 118 3 = some b) (hC : MT B b σ) (hb : bOk B) : sbO σ = some ((), cpy σ 127 nI (B 8 3)) := by
  have b2 := hb.2.1
  unfold sbO
  refine jlp_h (B 8 3) (fun i => nI i) (fun i => cpy σ 127 nI i) () _ (jfu (by omega)) rfl (cpy_0 _ _ _).symm ?_ ?_
  · intro i hi
    have ni : ¬ B 8 3 ≤ i := by omega
    have e0 : (cpy σ 127 nI i).2.1 b 3 = nI (B 8 3) := by
      have := hC.1
      rw [cpy_i, if_neg (by omega)]
      exact mb_s3 hC
    simp (disch := omega) only [jb_some, jli, jif, jd_q, jd_K0, jpi_s, jpi_l, jpi_p, jpl_s, jpl_i, jpl_p, if_true, if_false, if_pos, if_neg, not_true_eq_false, not_false_eq_true, ite_true, ite_false, Nat.not_lt_zero, eq_self, Nat.le_refl, Nat.lt_irrefl, Bool.false_eq_true, or0, jo_pi, jo_pl, jia_pi, jia_pl, jo_cpy, jia_cpy, cpy_r, m_X11_grant, m_X11_refuse, m_X13_good, m_X13_refused, reduceCtorEq, nI_add, nI_leI, nI_ltI, nI_eq, pk_mul, abs_nI, max_nI, min_nI, nI_m1, nI_m2, nI_le1, m1_lt, m2_lt, and_nI, or_nI, an_nI, has_nI, bit_nI, bc_nI, bits_nI, lx0, lx1, lx2, lx3, lx4, lx5, lx6, lx7, lx8, lx9, lx10, lx11, lx16, lx20, lx40, lx60, lx90, lx99, lx100, lx200, lx900, lx999, lx9999, jo_118 hW, ja_119 hW, ja_120 hW, ja_121 hW, ja_122 hW, ja_123 hW, ja_124 hW, ja_125 hW, ja_126 hW, ja_127 hW, ja_128 hW, ja_129 hW, wr_118_5 hW, wr_118_15 hW, wr_118_16 hW, wr_118_17 hW, wr_118_18 hW, wr_118_21 hW, wr_118_22 hW, wr_118_23 hW, wr_118_25 hW, wr_118_26 hW, wr_118_27 hW, hS, ni, e0, mb_o hC]
    rw [← cpy_s]
  · have e0 : (cpy σ 127 nI (B 8 3)).2.1 b 3 = nI (B 8 3) := by
      have := hC.1
      rw [cpy_i, if_neg (by omega)]
      exact mb_s3 hC
    simp (disch := omega) only [jb_some, jli, jif, jd_q, jd_K0, jpi_s, jpi_l, jpi_p, jpl_s, jpl_i, jpl_p, if_true, if_false, if_pos, if_neg, not_true_eq_false, not_false_eq_true, ite_true, ite_false, Nat.not_lt_zero, eq_self, Nat.le_refl, Nat.lt_irrefl, Bool.false_eq_true, or0, jo_pi, jo_pl, jia_pi, jia_pl, jo_cpy, jia_cpy, cpy_r, m_X11_grant, m_X11_refuse, m_X13_good, m_X13_refused, reduceCtorEq, nI_add, nI_leI, nI_ltI, nI_eq, pk_mul, abs_nI, max_nI, min_nI, nI_m1, nI_m2, nI_le1, m1_lt, m2_lt, and_nI, or_nI, an_nI, has_nI, bit_nI, bc_nI, bits_nI, lx0, lx1, lx2, lx3, lx4, lx5, lx6, lx7, lx8, lx9, lx10, lx11, lx16, lx20, lx40, lx60, lx90, lx99, lx100, lx200, lx900, lx999, lx9999, jo_118 hW, ja_119 hW, ja_120 hW, ja_121 hW, ja_122 hW, ja_123 hW, ja_124 hW, ja_125 hW, ja_126 hW, ja_127 hW, ja_128 hW, ja_129 hW, wr_118_5 hW, wr_118_15 hW, wr_118_16 hW, wr_118_17 hW, wr_118_18 hW, wr_118_21 hW, wr_118_22 hW, wr_118_23 hW, wr_118_25 hW, wr_118_26 hW, wr_118_27 hW, hS, e0, mb_o hC]
def SQ (s : AS) (σ : jd_Hp) : Prop := ∀ i, i < s.2.length → σ.2.1 128 i = nI (s.2.getD i 0)
def XT (N : Nw) (σ : jd_Hp) : Prop := σ.2.1 121 6 = nI (N 6) ∧ σ.2.1 121 7 = nI (N 7) ∧ σ.2.1 121 8 = nI (N 8)
set_option maxHeartbeats 4000000 in
theorem y_sb1 (hW : Wd σ) (hS : σ.2.2.2 118 3 = some b) (hC : MT B b σ) (hV : MV B N σ) (hX : XT N σ) (hb : bOk B) (hn : nOk B N) {r : List Nat} {s : AS} (hr : r ∈ pmL (B 8 3) (B 8 3) [] 0) (hg : OG (B 8 3) (gF r) σ) (hs : s.1 ≤ 7) (hq : SQ s σ) (v : Int32) (hnx : ∀ σ1, Wd σ1 → σ1.2.2.2 118 3 = some b → MT B b σ1 → OG (B 8 3) (gF r) σ1 → ∃ σ', m_X13_nextOrder 118 σ1 = some (v, σ') ∧ Fr D7 L0 σ1 σ') : ∃ σ', sbB (nI s.1, 1) σ = some (.inl (nI (upS B N s r).1, v), σ') ∧ Fr DO L0 σ σ' ∧ SQ (upS B N s r) σ' ∧ XT N σ' ∧ ∃ σ1, OG (B 8 3) (gF r) σ1 ∧ Wd σ1 ∧ σ1.2.2.2 118 3 = some b ∧ MT B b σ1 ∧ m_X13_nextOrder 118 σ1 = some (v, σ') := by
  have b2 := hb.2.1
  obtain ⟨r1, r2, r3, r4⟩ := okP_spec (by omega) hr
  have e1 := y_sbX hW hS hC hV hb hg r3
  have F1 : Fr DO L0 σ (cpy σ 121 (fun i => nI (N (gF r i))) (B 8 3)) := ⟨rfl, rfl, fun a k hd => by
    rw [cpy_i, if_neg (fun h1 => hd (Or.inl h1.1))], fun _ _ _ => rfl⟩
  have hA : MA B (pX B N r) b (cpy σ 121 (fun i => nI (N (gF r i))) (B 8 3)) := by
    refine ⟨hW, hS, MT_fr hC (DO_DM F1), fun p hp => ?_, ?_, ?_, ?_⟩
    · rw [cpy_i, if_pos ⟨rfl, hp⟩]
      unfold pX
      rw [if_pos hp]
      rfl
    · rw [cpy_i, if_neg (by omega), hX.1]
      unfold pX
      rw [if_neg (by omega)]
    · rw [cpy_i, if_neg (by omega), hX.2.1]
      unfold pX
      rw [if_neg (by omega)]
    · rw [cpy_i, if_neg (by omega), hX.2.2]
      unfold pX
      rw [if_neg (by omega)]
  have e2 := y_unreached hA hb (pX_ok hb hn r3)
  have u64 := unr_64 hb (pX B N r)
  have uc1 := unr_cst (N := N) hb r1 r2 r3 r4
  have cl := cst_le B N r
  have g1 : OG (B 8 3) (gF r) (cpy σ 121 (fun i => nI (N (gF r i))) (B 8 3)) := fun i hi => by
    rw [cpy_i, if_neg (by omega)]
    exact hg i hi
  have q1 : SQ s (cpy σ 121 (fun i => nI (N (gF r i))) (B 8 3)) := fun i hi => by
    rw [cpy_i, if_neg (by omega)]
    exact hq i hi
  have x1 : XT N (cpy σ 121 (fun i => nI (N (gF r i))) (B 8 3)) := by
    refine ⟨?_, ?_, ?_⟩
    · rw [cpy_i, if_neg (by omega)]
      exact hX.1
    · rw [cpy_i, if_neg (by omega)]
      exact hX.2.1
    · rw [cpy_i, if_neg (by omega)]
      exact hX.2.2
  generalize cpy σ 121 (fun i => nI (N (gF r i))) (B 8 3) = ρ at *
  obtain ⟨hWρ, hSρ, hCρ, -⟩ := hA
  have e3 := bits_nI (σ := ρ) u64
  rw [uc1] at e3
  unfold sbB
  rw [jif, if_neg (show ¬ (1 : Int32) = 0 by decide), e1, jb_some, jo_118 hWρ, e2, jb_some, e3, jb_some, jif]
  by_cases hc : cst B N r < s.1
  · have hu : upS B N s r = (cst B N r, r) := by
      unfold upS
      rw [if_pos hc]
    have F2 : Fr DO L0 σ (cpy ρ 128 (ρ.2.1 127) (B 8 3)) := ⟨F1.1, F1.2.1, fun a k hd => by
      rw [cpy_i, if_neg (fun h1 => hd (Or.inr (Or.inr h1.1)))]
      exact F1.2.2.1 a k hd, F1.2.2.2⟩
    have C2 := MT_fr hC (DO_DM F2)
    have g2 : OG (B 8 3) (gF r) (cpy ρ 128 (ρ.2.1 127) (B 8 3)) := fun i hi => by
      rw [cpy_i, if_neg (by omega)]
      exact g1 i hi
    obtain ⟨σ', e4, F3⟩ := hnx (cpy ρ 128 (ρ.2.1 127) (B 8 3)) hWρ hSρ C2 g2
    rw [hu]
    refine ⟨σ', ?_, Fr_tr F2 (D7_DO F3), fun i hi => ?_, ?_, _, g2, hWρ, hSρ, C2, e4⟩
    · rw [if_neg (nI_ge hc (by omega)), y_sbC hWρ hSρ hCρ hb, jb_some, jo_cpy, jo_118 hWρ, e4, jb_some]
    · have hi : i < r.length := hi
      rw [F3.2.2.1 128 i (by unfold D7; omega), cpy_i, if_pos ⟨rfl, by omega⟩]
      exact g1 i (by omega)
    · have k : ∀ j, σ'.2.1 121 j = ρ.2.1 121 j := fun j => by
        rw [F3.2.2.1 121 j (by unfold D7; omega), cpy_i, if_neg (by omega)]
      exact ⟨(k 6).trans x1.1, (k 7).trans x1.2.1, (k 8).trans x1.2.2⟩
  · have hu : upS B N s r = s := by
      unfold upS
      rw [if_neg hc]
    obtain ⟨σ', e4, F3⟩ := hnx ρ hWρ hSρ hCρ g1
    rw [hu]
    refine ⟨σ', ?_, Fr_tr F1 (D7_DO F3), fun i hi => ?_, ?_, _, g1, hWρ, hSρ, hCρ, e4⟩
    · rw [if_pos (nI_le (by omega) (by omega)), e4, jb_some]
    · rw [F3.2.2.1 128 i (by unfold D7; omega)]
      exact q1 i hi
    · have k : ∀ j, σ'.2.1 121 j = ρ.2.1 121 j := fun j => F3.2.2.1 121 j (by unfold D7; omega)
      exact ⟨(k 6).trans x1.1, (k 7).trans x1.2.1, (k 8).trans x1.2.2⟩
theorem OG_gF {n : Nat} {g : Nat → Nat} {a : List Nat} (h : ∀ i, i < n → g i = gF a i) (hg : OG n g σ) : OG n (gF a) σ := fun i hi => by
  rw [← h i hi]
  exact hg i hi
set_option maxHeartbeats 2000000 in
theorem y_sbL (hb : bOk B) (hn : nOk B N) : ∀ (l : List (List Nat)) (a : List Nat) (s : AS) (σ : jd_Hp) (f : Nat), l.length + 2 < f → chk (B 8 3) (a :: l) = true → (∀ x, x ∈ a :: l → x ∈ pmL (B 8 3) (B 8 3) [] 0) → Wd σ → σ.2.2.2 118 3 = some b → MT B b σ → MV B N σ → XT N σ → OG (B 8 3) (gF a) σ → s.1 ≤ 7 → SQ s σ → ∃ σ', jd_lp sbB f (nI s.1, 1) σ = some (nI ((a :: l).foldl (upS B N) s).1, σ') ∧ Fr DO L0 σ σ' ∧ SQ ((a :: l).foldl (upS B N) s) σ' := by
  intro l
  induction l with
  | nil =>
    intro a s σ f hf hc hm hW hS hC hV hX hg hs hq
    have hc : (nxt (B 8 3) (gF a)).isNone = true := hc
    rw [Option.isNone_iff_eq_none] at hc
    have ho := okP_spec (by have := hb.2.1; omega) (hm a List.mem_cons_self)
    obtain ⟨σ', e1, F1, q1, -, -⟩ := y_sb1 hW hS hC hV hX hb hn (hm a List.mem_cons_self) hg hs hq 0 fun σ1 h1 h2 h3 h4 => ⟨σ1, y_next0 h1 h2 h3 hb h4 ho.2.2.1 hc, Fr_refl _⟩
    obtain ⟨f', rfl⟩ : ∃ f', f = f' + 2 := ⟨f - 2, by omega⟩
    refine ⟨σ', ?_, F1, q1⟩
    show jd_b (sbB (nI s.1, 1) σ) (jd_q (fun s' σ' => jd_lp sbB (f' + 1) s' σ') jd_K0) = _
    rw [e1]
    have e2 : sbB (nI (upS B N s a).1, 0) σ' = some (.inr (nI (upS B N s a).1), σ') := by
      unfold sbB
      rw [jif, if_pos rfl]
    rw [jb_some]
    show jd_lp sbB (f' + 1) (nI (upS B N s a).1, 0) σ' = _
    exact jlp_1 (by omega) e2
  | cons c l ih =>
    intro a s σ f hf hc hm hW hS hC hV hX hg hs hq
    have hc : (((nxt (B 8 3) (gF a)).elim false fun g => (List.range (B 8 3)).all fun i => g i == gF c i) && chk (B 8 3) (c :: l)) = true := hc
    rw [Bool.and_eq_true] at hc
    obtain ⟨c1, c2⟩ := hc
    have ho := okP_spec (by have := hb.2.1; omega) (hm a List.mem_cons_self)
    rcases hx : nxt (B 8 3) (gF a) with _ | g
    · rw [hx] at c1
      exact absurd c1 (by simp)
    · rw [hx] at c1
      have c1 : ∀ i, i < B 8 3 → g i = gF c i := by
        simp only [Option.elim, List.all_eq_true, List.mem_range, beq_iff_eq] at c1
        exact c1
      obtain ⟨σ', e1, F1, q1, x1, σ1, k1, k2, k3, k4, k5⟩ := y_sb1 hW hS hC hV hX hb hn (hm a List.mem_cons_self) hg hs hq 1 fun σ1 h1 h2 h3 h4 => by
        obtain ⟨σ2, m1, m2, -⟩ := y_next1 h1 h2 h3 hb h4 ho.2.2.1 hx
        exact ⟨σ2, m1, m2⟩
      obtain ⟨σ2, m1, m2, m3⟩ := y_next1 k2 k3 k4 hb k1 ho.2.2.1 hx
      have e22 : σ2 = σ' := by
        rw [k5] at m1
        injection m1 with m1
        injection m1 with _ m1
        exact m1.symm
      subst e22
      obtain ⟨f', rfl⟩ : ∃ f', f = f' + 1 := ⟨f - 1, by omega⟩
      have up7 : (upS B N s a).1 ≤ 7 := by
        unfold upS
        split
        · show cst B N a ≤ 7
          omega
        · exact hs
      obtain ⟨σ3, e3, F3, q3⟩ := ih c (upS B N s a) σ2 f' (by simp at hf; omega) c2 (fun x hx => hm x (List.mem_cons_of_mem _ hx)) (Fr_Wd F1 hW) (by rw [F1.2.1]; exact hS) (MT_fr hC (DO_DM F1)) (MV_fo hV F1) x1 (OG_gF c1 m3) up7 q1
      refine ⟨σ3, ?_, Fr_tr F1 F3, q3⟩
      show jd_b (sbB (nI s.1, 1) σ) (jd_q (fun s' σ' => jd_lp sbB f' s' σ') jd_K0) = _
      rw [e1]
      exact e3
theorem y_seatsBest (hW : Wd τ) (hS : τ.2.2.2 118 3 = some b) (hC : MT B b τ) (hV : MV B N τ) (hb : bOk B) (hn : nOk B N) : ∃ σ', m_X13_seatsBest 118 τ = some (nI (sSt B N).1, σ') ∧ Fr DM L0 τ σ' ∧ SQ (sSt B N) σ' := by
  have b1 := hb.1
  have b2 := hb.2.1
  have hA := wk_MA hW hS hC hV hb
  have FW := wk_fr τ
  have hV1 := wk_MV hV
  obtain ⟨hW1, hS1, hC1, x0, x6, x7, x8⟩ := hA
  have F2 : Fr DO L0 (wk τ) (cpy (wk τ) 127 nI (B 8 3)) := ⟨rfl, rfl, fun a k hd => by
    rw [cpy_i, if_neg (fun h1 => hd (Or.inr (Or.inl h1.1)))], fun _ _ _ => rfl⟩
  rcases hl : pmL (B 8 3) (B 8 3) [] 0 with _ | ⟨a, l⟩
  · exact absurd hl (fin_p0 _ (by omega))
  · have hh := fin_hd (B 8 3) (by omega)
    have hn2 := fin_len (B 8 3) (by omega)
    have hc := fin_ch (B 8 3) (by omega) b1
    rw [hl] at hh hn2 hc
    have hh : a = List.range (B 8 3) := by simpa using hh
    have hl2 : l.length + 2 < 100000 := by
      simp at hn2
      omega
    obtain ⟨σ', e, F3, q3⟩ := y_sbL hb hn l a (7, []) (cpy (wk τ) 127 nI (B 8 3)) jd_fu hl2 hc (fun x hx => by rw [hl]; exact hx) hW1 hS1 (MT_fr hC1 (DO_DM F2)) (MV_fo hV1 F2) (by
      refine ⟨?_, ?_, ?_⟩
      · rw [cpy_i, if_neg (by omega)]
        exact x6
      · rw [cpy_i, if_neg (by omega)]
        exact x7
      · rw [cpy_i, if_neg (by omega)]
        exact x8) (fun i hi => by
      rw [cpy_i, if_pos ⟨rfl, hi⟩, hh]
      unfold gF
      rw [List.getD_eq_getElem?_getD, List.getElem?_range hi]
      rfl) (Nat.le_refl _) (fun i hi => absurd hi (Nat.not_lt_zero i))
    have ha : a ∈ pmL (B 8 3) (B 8 3) [] 0 := by rw [hl]; exact List.mem_cons_self
    have a1 := (okP_spec (by omega) ha).1
    have a2 := cst_le B N a
    have hs : (a :: l).foldl (upS B N) (7, []) = sSt B N := by
      unfold sSt
      rw [hl]
      show l.foldl (upS B N) (upS B N (7, []) a) = l.foldl (upS B N) (upS B N (B 8 3 + 1, []) a)
      unfold upS
      rw [if_pos (show cst B N a < (7, ([] : List Nat)).1 by show cst B N a < 7; omega), if_pos (show cst B N a < (B 8 3 + 1, ([] : List Nat)).1 by show cst B N a < B 8 3 + 1; omega)]
    rw [hs] at e q3
    refine ⟨σ', ?_, Fr_tr FW (DO_DM (Fr_tr F2 F3)), q3⟩
    have e : jd_lp sbB jd_fu (7, 1) (cpy (wk τ) 127 nI (B 8 3)) = some (nI (sSt B N).1, σ') := e
    rw [seatsBest_eq, y_works hW, jb_some, y_sbO hW1 hS1 hC1 hb, jb_some, e, jb_some]
end
set_option maxHeartbeats 2000000 in
theorem M_seats {o : BO} {b : Nat} {σ : jd_Hp} (h : RMc o b σ)  : OM (m_X13_seats 118 σ) (a_seats o) σ := by
  have F1 : Fr DM L0 σ (jd_pi σ 118 0 0) := Fr_pi (Fr_refl σ) (Or.inl ⟨rfl, by omega⟩)
  have h1 := RMc_fr h F1
  unfold m_X13_seats
  rw [jli]
  generalize jd_pi σ 118 0 0 = τ at *
  obtain ⟨hW, h1⟩ := h1
  rcases o with _ | ⟨B, N⟩
  · have hS : τ.2.2.2 118 3 = none := h1
    simp (disch := omega) only [jb_some, jli, jif, jd_q, jd_K0, jpi_s, jpi_l, jpi_p, jpl_s, jpl_i, jpl_p, if_true, if_false, if_pos, if_neg, not_true_eq_false, not_false_eq_true, ite_true, ite_false, Nat.not_lt_zero, eq_self, Nat.le_refl, Nat.lt_irrefl, Bool.false_eq_true, or0, jo_pi, jo_pl, jia_pi, jia_pl, jo_cpy, jia_cpy, cpy_r, m_X11_grant, m_X11_refuse, m_X13_good, m_X13_refused, reduceCtorEq, nI_add, nI_leI, nI_ltI, nI_eq, pk_mul, abs_nI, max_nI, min_nI, nI_m1, nI_m2, nI_le1, m1_lt, m2_lt, and_nI, or_nI, an_nI, has_nI, bit_nI, bc_nI, bits_nI, lx0, lx1, lx2, lx3, lx4, lx5, lx6, lx7, lx8, lx9, lx10, lx11, lx16, lx20, lx40, lx60, lx90, lx99, lx100, lx200, lx900, lx999, lx9999, jo_118 hW, ja_119 hW, ja_120 hW, ja_121 hW, ja_122 hW, ja_123 hW, ja_124 hW, ja_125 hW, ja_126 hW, ja_127 hW, ja_128 hW, ja_129 hW, wr_118_5 hW, wr_118_15 hW, wr_118_16 hW, wr_118_17 hW, wr_118_18 hW, wr_118_21 hW, wr_118_22 hW, wr_118_23 hW, wr_118_25 hW, wr_118_26 hW, wr_118_27 hW, hS, m_X13_isPerson, m_X13_isPost, m_X13_refusesMinute, m_X13_refusesFear, m_X13_refusesSeed, m_X13_lostBy, m_X13_changes]
    exact OM_of F1
  · obtain ⟨hS, hC, hV, hb, hn⟩ : τ.2.2.2 118 3 = some b ∧ MT B b τ ∧ MV B N τ ∧ bOk B ∧ nOk B N := h1
    have hb2 := hb.2.1
    have hb3 := hb.2.2.1
    have ePe := y_isPerson hS hC hb
    have ePo := y_isPost hS hC hb
    have eW := y_works hW
    have hA := wk_MA hW hS hC hV hb
    have hA2 := wk_MV hV
    have FW := Fr_tr F1 (wk_fr τ)
    show OM _ (a_seats (some (B, N))) σ
    unfold a_seats
    obtain ⟨σ', e, F, q⟩ := y_seatsBest hW hS hC hV hb hn
    simp (disch := omega) only [jb_some, jli, jif, jd_q, jd_K0, jpi_s, jpi_l, jpi_p, jpl_s, jpl_i, jpl_p, if_true, if_false, if_pos, if_neg, not_true_eq_false, not_false_eq_true, ite_true, ite_false, Nat.not_lt_zero, eq_self, Nat.le_refl, Nat.lt_irrefl, Bool.false_eq_true, or0, jo_pi, jo_pl, jia_pi, jia_pl, jo_cpy, jia_cpy, cpy_r, m_X11_grant, m_X11_refuse, m_X13_good, m_X13_refused, reduceCtorEq, nI_add, nI_leI, nI_ltI, nI_eq, pk_mul, abs_nI, max_nI, min_nI, nI_m1, nI_m2, nI_le1, m1_lt, m2_lt, and_nI, or_nI, an_nI, has_nI, bit_nI, bc_nI, bits_nI, lx0, lx1, lx2, lx3, lx4, lx5, lx6, lx7, lx8, lx9, lx10, lx11, lx16, lx20, lx40, lx60, lx90, lx99, lx100, lx200, lx900, lx999, lx9999, jo_118 hW, ja_119 hW, ja_120 hW, ja_121 hW, ja_122 hW, ja_123 hW, ja_124 hW, ja_125 hW, ja_126 hW, ja_127 hW, ja_128 hW, ja_129 hW, wr_118_5 hW, wr_118_15 hW, wr_118_16 hW, wr_118_17 hW, wr_118_18 hW, wr_118_21 hW, wr_118_22 hW, wr_118_23 hW, wr_118_25 hW, wr_118_26 hW, wr_118_27 hW, hS, e]
    exact OM_of (Fr_tr F1 F)
set_option maxHeartbeats 2000000 in
theorem M_seatOf {o : BO} {b : Nat} {σ : jd_Hp} (h : RMc o b σ) (p : Int32) : OM (m_X13_seatOf 118 p σ) (a_seatOf o p) σ := by
  have F1 : Fr DM L0 σ (jd_pi σ 118 0 0) := Fr_pi (Fr_refl σ) (Or.inl ⟨rfl, by omega⟩)
  have h1 := RMc_fr h F1
  unfold m_X13_seatOf
  rw [jli]
  generalize jd_pi σ 118 0 0 = τ at *
  obtain ⟨hW, h1⟩ := h1
  rcases o with _ | ⟨B, N⟩
  · have hS : τ.2.2.2 118 3 = none := h1
    simp (disch := omega) only [jb_some, jli, jif, jd_q, jd_K0, jpi_s, jpi_l, jpi_p, jpl_s, jpl_i, jpl_p, if_true, if_false, if_pos, if_neg, not_true_eq_false, not_false_eq_true, ite_true, ite_false, Nat.not_lt_zero, eq_self, Nat.le_refl, Nat.lt_irrefl, Bool.false_eq_true, or0, jo_pi, jo_pl, jia_pi, jia_pl, jo_cpy, jia_cpy, cpy_r, m_X11_grant, m_X11_refuse, m_X13_good, m_X13_refused, reduceCtorEq, nI_add, nI_leI, nI_ltI, nI_eq, pk_mul, abs_nI, max_nI, min_nI, nI_m1, nI_m2, nI_le1, m1_lt, m2_lt, and_nI, or_nI, an_nI, has_nI, bit_nI, bc_nI, bits_nI, lx0, lx1, lx2, lx3, lx4, lx5, lx6, lx7, lx8, lx9, lx10, lx11, lx16, lx20, lx40, lx60, lx90, lx99, lx100, lx200, lx900, lx999, lx9999, jo_118 hW, ja_119 hW, ja_120 hW, ja_121 hW, ja_122 hW, ja_123 hW, ja_124 hW, ja_125 hW, ja_126 hW, ja_127 hW, ja_128 hW, ja_129 hW, wr_118_5 hW, wr_118_15 hW, wr_118_16 hW, wr_118_17 hW, wr_118_18 hW, wr_118_21 hW, wr_118_22 hW, wr_118_23 hW, wr_118_25 hW, wr_118_26 hW, wr_118_27 hW, hS, m_X13_isPerson, m_X13_isPost, m_X13_refusesMinute, m_X13_refusesFear, m_X13_refusesSeed, m_X13_lostBy, m_X13_changes]
    exact OM_of F1
  · obtain ⟨hS, hC, hV, hb, hn⟩ : τ.2.2.2 118 3 = some b ∧ MT B b τ ∧ MV B N τ ∧ bOk B ∧ nOk B N := h1
    have hb2 := hb.2.1
    have hb3 := hb.2.2.1
    have ePe := y_isPerson hS hC hb
    have ePo := y_isPost hS hC hb
    have eW := y_works hW
    have hA := wk_MA hW hS hC hV hb
    have hA2 := wk_MV hV
    have FW := Fr_tr F1 (wk_fr τ)
    show OM _ (a_seatOf (some (B, N)) p) σ
    unfold a_seatOf
    rcases hj : ixN p (B 8 3) with _ | j
    · simp (disch := omega) only [jb_some, jli, jif, jd_q, jd_K0, jpi_s, jpi_l, jpi_p, jpl_s, jpl_i, jpl_p, if_true, if_false, if_pos, if_neg, not_true_eq_false, not_false_eq_true, ite_true, ite_false, Nat.not_lt_zero, eq_self, Nat.le_refl, Nat.lt_irrefl, Bool.false_eq_true, or0, jo_pi, jo_pl, jia_pi, jia_pl, jo_cpy, jia_cpy, cpy_r, m_X11_grant, m_X11_refuse, m_X13_good, m_X13_refused, reduceCtorEq, nI_add, nI_leI, nI_ltI, nI_eq, pk_mul, abs_nI, max_nI, min_nI, nI_m1, nI_m2, nI_le1, m1_lt, m2_lt, and_nI, or_nI, an_nI, has_nI, bit_nI, bc_nI, bits_nI, lx0, lx1, lx2, lx3, lx4, lx5, lx6, lx7, lx8, lx9, lx10, lx11, lx16, lx20, lx40, lx60, lx90, lx99, lx100, lx200, lx900, lx999, lx9999, jo_118 hW, ja_119 hW, ja_120 hW, ja_121 hW, ja_122 hW, ja_123 hW, ja_124 hW, ja_125 hW, ja_126 hW, ja_127 hW, ja_128 hW, ja_129 hW, wr_118_5 hW, wr_118_15 hW, wr_118_16 hW, wr_118_17 hW, wr_118_18 hW, wr_118_21 hW, wr_118_22 hW, wr_118_23 hW, wr_118_25 hW, wr_118_26 hW, wr_118_27 hW, ePe, hj, Option.isSome]
      exact OM_of F1
    · obtain ⟨h2, rfl⟩ := ixN_some hj
      obtain ⟨σ', e, F, q⟩ := y_seatsBest hW hS hC hV hb hn
      have hm := okP_spec (by omega) (sSt_mem (N := N) hb)
      have a3 := q j (by omega)
      have h3 := hm.2.2.1 j h2
      have hW' := Fr_Wd F hW
      have a4 : σ'.2.1 120 ((sSt B N).2.getD j 0) = nI (N ((sSt B N).2.getD j 0)) := (F.2.2.1 120 _ (by unfold DM; omega)).trans (mv_p hV h3)
      simp (disch := omega) only [jb_some, jli, jif, jd_q, jd_K0, jpi_s, jpi_l, jpi_p, jpl_s, jpl_i, jpl_p, if_true, if_false, if_pos, if_neg, not_true_eq_false, not_false_eq_true, ite_true, ite_false, Nat.not_lt_zero, eq_self, Nat.le_refl, Nat.lt_irrefl, Bool.false_eq_true, or0, jo_pi, jo_pl, jia_pi, jia_pl, jo_cpy, jia_cpy, cpy_r, m_X11_grant, m_X11_refuse, m_X13_good, m_X13_refused, reduceCtorEq, nI_add, nI_leI, nI_ltI, nI_eq, pk_mul, abs_nI, max_nI, min_nI, nI_m1, nI_m2, nI_le1, m1_lt, m2_lt, and_nI, or_nI, an_nI, has_nI, bit_nI, bc_nI, bits_nI, lx0, lx1, lx2, lx3, lx4, lx5, lx6, lx7, lx8, lx9, lx10, lx11, lx16, lx20, lx40, lx60, lx90, lx99, lx100, lx200, lx900, lx999, lx9999, jo_118 hW, ja_119 hW, ja_120 hW, ja_121 hW, ja_122 hW, ja_123 hW, ja_124 hW, ja_125 hW, ja_126 hW, ja_127 hW, ja_128 hW, ja_129 hW, wr_118_5 hW, wr_118_15 hW, wr_118_16 hW, wr_118_17 hW, wr_118_18 hW, wr_118_21 hW, wr_118_22 hW, wr_118_23 hW, wr_118_25 hW, wr_118_26 hW, wr_118_27 hW, ePe, hj, Option.isSome, e, a3, a4, wr_118_26 hW', ja_128 hW', wr_118_15 hW', ja_120 hW']
      exact OM_of (Fr_tr F1 F)
