/-! P (22): seats -/
def bdC (B : Bch) (N : Nw) (p s : Nat) : Bool := ! (N 7).testBit p && (! (cov B N (N 6)).testBit s && (sinkM B p (pc (nearN B N s))).isSome)
def bdN (B : Bch) (N : Nw) (p : Nat) : Nat := bN (bdC B N p) (B 8 3)
def csC (B : Bch) (N : Nw) (r : List Nat) (i : Nat) : Bool := bdC B N i (r.getD i 0)
def cst (B : Bch) (N : Nw) (r : List Nat) : Nat := cnt (csC B N r) r.length
def pmL (n : Nat) : Nat → List Nat → Nat → List (List Nat)
  | 0, r, _ => [r]
  | d + 1, r, u => (List.range n).flatMap fun t => if u.testBit t then [] else pmL n d (r ++ [t]) (u ||| 2 ^ t)
def pmG (n d : Nat) (r : List Nat) (u : Nat) : Nat → List (List Nat) := fun t => if u.testBit t then [] else pmL n d (r ++ [t]) (u ||| 2 ^ t)
def upS (B : Bch) (N : Nw) (s : AS) (r : List Nat) : AS := if cst B N r < s.1 then (cst B N r, r) else s
def sSt (B : Bch) (N : Nw) : AS := (pmL (B 8 3) (B 8 3) [] 0).foldl (upS B N) (B 8 3 + 1, [])
theorem cnt_congr {c d : Nat → Bool} : ∀ {n : Nat}, (∀ i, i < n → c i = d i) → cnt c n = cnt d n
  | 0, _ => rfl
  | n + 1, h => by
    have ih := cnt_congr (c := c) (d := d) (n := n) fun i hi => h i (by omega)
    rcases hd : d n with _ | _
    · rw [cnt_f hd, cnt_f ((h n (by omega)).trans hd), ih]
    · rw [cnt_t hd, cnt_t ((h n (by omega)).trans hd), ih]
theorem cst_add (B : Bch) (N : Nw) (r : List Nat) (t : Nat) : cst B N (r ++ [t]) = cst B N r + (if bdC B N r.length t then 1 else 0) := by
  have ll : (r ++ [t]).length = r.length + 1 := by simp
  unfold cst
  rw [ll]
  have h1 : csC B N (r ++ [t]) r.length = bdC B N r.length t := by
    unfold csC
    rw [getD_r]
  have h2 : cnt (csC B N (r ++ [t])) r.length = cnt (csC B N r) r.length := cnt_congr fun i hi => by
    unfold csC
    rw [getD_l hi]
  rcases hb : bdC B N r.length t with _ | _
  · rw [cnt_f (h1.trans hb), h2]
    simp
  · rw [cnt_t (h1.trans hb), h2]
    simp
theorem cst_le (B : Bch) (N : Nw) (r : List Nat) : cst B N r ≤ r.length := cnt_le _ _
theorem pmL_cst {B : Bch} {N : Nw} {n : Nat} : ∀ {d : Nat} {r : List Nat} {u : Nat} {x : List Nat}, x ∈ pmL n d r u → cst B N r ≤ cst B N x
  | 0, r, u, x, h => by
    have h : x ∈ [r] := h
    rw [List.mem_singleton] at h
    rw [h]
    exact Nat.le_refl _
  | d + 1, r, u, x, h => by
    have h : x ∈ (List.range n).flatMap fun t => if u.testBit t then [] else pmL n d (r ++ [t]) (u ||| 2 ^ t) := h
    rw [List.mem_flatMap] at h
    obtain ⟨t, -, ht⟩ := h
    split at ht
    · exact absurd ht (by simp)
    · have := pmL_cst (B := B) (N := N) ht
      rw [cst_add] at this
      omega
theorem fold_id {B : Bch} {N : Nw} {s : AS} : ∀ {l : List (List Nat)}, (∀ x, x ∈ l → s.1 ≤ cst B N x) → l.foldl (upS B N) s = s
  | [], _ => rfl
  | a :: l, h => by
    have h1 : upS B N s a = s := by
      unfold upS
      rw [if_neg (by have := h a (List.mem_cons_self); omega)]
    show l.foldl (upS B N) (upS B N s a) = s
    rw [h1]
    exact fold_id fun x hx => h x (List.mem_cons_of_mem _ hx)
theorem fold_le {B : Bch} {N : Nw} : ∀ (l : List (List Nat)) (s : AS), (l.foldl (upS B N) s).1 ≤ s.1
  | [], _ => Nat.le_refl _
  | a :: l, s => by
    refine Nat.le_trans (fold_le l (upS B N s a)) ?_
    unfold upS
    split
    · show cst B N a ≤ s.1
      omega
    · exact Nat.le_refl _
theorem pmG_s {B : Bch} {N : Nw} {n d : Nat} {r : List Nat} {u i : Nat} {s : AS} : ((List.range (i + 1)).flatMap (pmG n d r u)).foldl (upS B N) s = (pmG n d r u i).foldl (upS B N) (((List.range i).flatMap (pmG n d r u)).foldl (upS B N) s) := by
  rw [List.range_succ, List.flatMap_append, List.foldl_append]
  simp
def SL (s : AS) (σ : jd_Hp) : Prop := σ.2.1 100 3 = nI s.1 ∧ ∀ i, i < s.2.length → σ.2.1 101 i = nI (s.2.getD i 0)
def SR (r : List Nat) (σ : jd_Hp) : Prop := ∀ i, i < r.length → σ.2.1 102 i = nI (r.getD i 0)
def BS (B : Bch) (N : Nw) (σ : jd_Hp) : Prop := ∀ p, p < B 8 3 → σ.2.1 103 p = nI (bdN B N p)
def DE (a k : Nat) : Prop := a = 100 ∧ k = 3 ∨ a = 101 ∨ a = 102
def DF (a k : Nat) : Prop := a = 100 ∧ k = 3 ∨ a = 101 ∨ a = 102 ∨ a = 103
theorem SR_add {r : List Nat} {p : Nat} {σ : jd_Hp} (h : SR r σ) : SR (r ++ [p]) (jd_pi σ 102 r.length (nI p)) := by
  intro i hi
  rw [List.length_append] at hi
  by_cases h1 : i = r.length
  · rw [h1, pi_eq, getD_r]
  · have h2 : i < r.length := by
      simp at hi
      omega
    rw [pi_ne _ _ (by omega), getD_l h2]
    exact h i h2
section
variable {B : Bch} {N : Nw} {T : Nat} {σ σ' : jd_Hp}
theorem bdN_64 (hb : bOk B) (p : Nat) : bdN B N p < 64 := bN_64 _ hb.2.1
theorem bdN_test (hb : bOk B) {p s : Nat} (hs : s < B 8 3) : (bdN B N p).testBit s = bdC B N p s := by
  have b2 := hb.2.1
  unfold bdN
  rw [bN_test _ b2 (by omega)]
  simp [hs]
theorem DE_DF (f : Fr DE L0 σ σ') : Fr DF L0 σ σ' := Fr_mono f (fun a k h => by
  unfold DE at h
  unfold DF
  omega) (fun a h => h)
theorem DF_DQ (f : Fr DF L0 σ σ') : Fr DQ LQ σ σ' := Fr_mono f (fun a k h => by
  unfold DF at h
  unfold DQ
  omega) (fun a h => absurd h (fun h => h))
theorem BS_fr (h : BS B N σ) (f : Fr DE L0 σ σ') : BS B N σ' := fun p hp => (f.2.2.1 103 p (by unfold DE; omega)).trans (h p hp)
theorem x_stake (hW : Wd σ) {f : Nat} : m_X5_take 100 (nI f) σ = some ((), jd_pi (cpy σ 101 (σ.2.1 102) 6) 100 3 (nI f)) := by
  unfold m_X5_take
  rw [jlp_h 6 (fun i => nI i) (fun i => cpy σ 101 (σ.2.1 102) i) () (cpy σ 101 (σ.2.1 102) 6) (jfu (by omega)) ?_ ?_ ?_ ?_]
  · rw [jb_some, jo_cpy, jo_100 hW]
    rfl
  · rfl
  · exact (cpy_0 _ _ _).symm
  · intro i hi
    have h2 : ¬ 6 ≤ i := by omega
    simp (disch := omega) only [jb_some, jli, jif, jd_q, jd_K0, jpi_s, jpi_l, jpi_p, jpl_s, jpl_i, jpl_p, if_true, if_false, if_pos, if_neg, not_true_eq_false, not_false_eq_true, ite_true, ite_false, Nat.not_lt_zero, eq_self, Nat.le_refl, Nat.lt_irrefl, Bool.false_eq_true, or0, jo_pi, jo_pl, jia_pi, jia_pl, jo_cpy, jia_cpy, cpy_r, m_X11_grant, m_X11_refuse, m_X13_good, m_X13_refused, reduceCtorEq, nI_add, nI_leI, nI_ltI, nI_eq, pk_mul, abs_nI, max_nI, min_nI, nI_m1, nI_m2, nI_le1, m1_lt, m2_lt, and_nI, or_nI, an_nI, has_nI, bit_nI, bc_nI, bits_nI, lx0, lx1, lx2, lx3, lx4, lx5, lx6, lx7, lx8, lx9, lx10, lx11, lx16, lx20, lx40, lx60, lx90, lx99, lx100, lx200, lx900, lx999, lx9999, jo_32 hW, jo_33 hW, jo_35 hW, jo_40 hW, jo_41 hW, jo_56 hW, jo_97 hW, jo_100 hW, jo_104 hW, jo_106 hW, jo_108 hW, ja_34 hW, ja_36 hW, ja_37 hW, ja_38 hW, ja_39 hW, ja_42 hW, ja_43 hW, ja_44 hW, ja_45 hW, ja_46 hW, ja_98 hW, ja_99 hW, ja_101 hW, ja_102 hW, ja_103 hW, wr_32_0 hW, wr_32_1 hW, wr_32_2 hW, wr_32_3 hW, wr_32_4 hW, wr_32_5 hW, wr_32_6 hW, wr_32_7 hW, wr_32_8 hW, wr_33_0 hW, wr_35_0 hW, wr_35_1 hW, wr_35_2 hW, wr_35_3 hW, wr_35_4 hW, wr_40_0 hW, wr_40_1 hW, wr_40_2 hW, wr_40_3 hW, wr_40_4 hW, wr_41_0 hW, wr_56_0 hW, wr_56_1 hW, wr_97_0 hW, wr_97_1 hW, wr_100_0 hW, wr_100_1 hW, wr_100_2 hW, wr_104_0 hW, wr_106_0 hW, h2]
    rw [← cpy_s, cpy_i, if_neg (by omega)]
  · simp (disch := omega) only [jb_some, jli, jif, jd_q, jd_K0, jpi_s, jpi_l, jpi_p, jpl_s, jpl_i, jpl_p, if_true, if_false, if_pos, if_neg, not_true_eq_false, not_false_eq_true, ite_true, ite_false, Nat.not_lt_zero, eq_self, Nat.le_refl, Nat.lt_irrefl, Bool.false_eq_true, or0, jo_pi, jo_pl, jia_pi, jia_pl, jo_cpy, jia_cpy, cpy_r, m_X11_grant, m_X11_refuse, m_X13_good, m_X13_refused, reduceCtorEq, nI_add, nI_leI, nI_ltI, nI_eq, pk_mul, abs_nI, max_nI, min_nI, nI_m1, nI_m2, nI_le1, m1_lt, m2_lt, and_nI, or_nI, an_nI, has_nI, bit_nI, bc_nI, bits_nI, lx0, lx1, lx2, lx3, lx4, lx5, lx6, lx7, lx8, lx9, lx10, lx11, lx16, lx20, lx40, lx60, lx90, lx99, lx100, lx200, lx900, lx999, lx9999, jo_32 hW, jo_33 hW, jo_35 hW, jo_40 hW, jo_41 hW, jo_56 hW, jo_97 hW, jo_100 hW, jo_104 hW, jo_106 hW, jo_108 hW, ja_34 hW, ja_36 hW, ja_37 hW, ja_38 hW, ja_39 hW, ja_42 hW, ja_43 hW, ja_44 hW, ja_45 hW, ja_46 hW, ja_98 hW, ja_99 hW, ja_101 hW, ja_102 hW, ja_103 hW, wr_32_0 hW, wr_32_1 hW, wr_32_2 hW, wr_32_3 hW, wr_32_4 hW, wr_32_5 hW, wr_32_6 hW, wr_32_7 hW, wr_32_8 hW, wr_33_0 hW, wr_35_0 hW, wr_35_1 hW, wr_35_2 hW, wr_35_3 hW, wr_35_4 hW, wr_40_0 hW, wr_40_1 hW, wr_40_2 hW, wr_40_3 hW, wr_40_4 hW, wr_41_0 hW, wr_56_0 hW, wr_56_1 hW, wr_97_0 hW, wr_97_1 hW, wr_100_0 hW, wr_100_1 hW, wr_100_2 hW, wr_104_0 hW, wr_106_0 hW]
set_option maxHeartbeats 4000000 in
theorem x_sext (hb : bOk B) : ∀ (d f : Nat) (r : List Nat) (u : Nat) (s : AS) (σ : jd_Hp), r.length + d = B 8 3 → d < f → u < 64 → s.1 ≤ 7 → Wd σ → BS B N σ → SL s σ → SR r σ → ∃ σ', m_X5_extend f (some 100) (nI (B 8 3)) (nI r.length) (nI u) (nI (cst B N r)) σ = some ((), σ') ∧ Fr DE L0 σ σ' ∧ SL ((pmL (B 8 3) d r u).foldl (upS B N) s) σ' ∧ SR r σ' := by
  intro d
  have b2 := hb.2.1
  induction d with
  | zero =>
    intro f r u s σ hd hf hu hs hW hB ha hR
    obtain ⟨f', rfl⟩ : ∃ f', f = f' + 1 := ⟨f - 1, by omega⟩
    have cl := cst_le B N r
    rw [m_X5_extend, jo_100 hW, jif, ha.1]
    by_cases hc : cst B N r < s.1
    · rw [if_pos (nI_lt hc (by omega)), jif, if_pos (nI_le (by omega) (by omega)), x_stake hW, jb_some]
      have Fc : Fr DE L0 σ (cpy σ 101 (σ.2.1 102) 6) := ⟨rfl, rfl, fun a k hd => by
        rw [cpy_i, if_neg]
        intro h1
        exact hd (Or.inr (Or.inl h1.1)), fun _ _ _ => rfl⟩
      have d1 : DE 100 3 := Or.inl ⟨rfl, rfl⟩
      have hf : (pmL (B 8 3) 0 r u).foldl (upS B N) s = (cst B N r, r) := by
        show upS B N s r = _
        unfold upS
        rw [if_pos hc]
      refine ⟨_, rfl, Fr_pi Fc d1, ?_, fun i hi => ?_⟩
      · rw [hf]
        refine ⟨pi_eq _ _ _ _, fun i hi => ?_⟩
        have hi : i < r.length := hi
        rw [pi_ne _ _ (by omega), cpy_i, if_pos ⟨rfl, by omega⟩]
        exact hR i hi
      · rw [pi_ne _ _ (by omega), cpy_i, if_neg (by omega)]
        exact hR i hi
    · rw [if_neg (nI_nlt (by omega) (by omega))]
      refine ⟨σ, rfl, Fr_refl _, ?_, hR⟩
      rw [fold_id fun x hx => Nat.le_trans (Nat.not_lt.mp hc) (pmL_cst hx)]
      exact ha
  | succ d ih =>
    intro f r u s σ hd hf hu hs hW hB ha hR
    obtain ⟨f', rfl⟩ : ∃ f', f = f' + 1 := ⟨f - 1, by omega⟩
    have cl := cst_le B N r
    rw [m_X5_extend, jo_100 hW, jif, ha.1]
    by_cases hc : cst B N r < s.1
    · rw [if_pos (nI_lt hc (by omega)), jif, if_neg (nI_ge (by omega) (by omega)), jif, if_pos (show nI r.length < (6 : Int32) from nI_lt (b := 6) (by omega) (by decide))]
      have one := jlp_inv (body := fun (s3 : Int32) σ3 =>
    jd_if (nI (B 8 3) ≤ s3) (
    some ((Sum.inr ()), σ3)) (
    jd_b (m_X11_has (nI u) s3 σ3) fun r5 σ5 =>
    jd_if (¬ r5 = 0) (
    some (Sum.inl (s3 + 1), σ5)) (
    jd_o σ5 (5, 4) (some 100) fun a6 =>
    jd_ia σ5 20 (σ5.2.2.2 a6 1) (nI r.length) fun a7 j7 =>
    jd_li (jd_pi σ5 a7 j7 s3) fun τ8 =>
    jd_ia τ8 20 (τ8.2.2.2 a6 2) (nI r.length) fun a9 j9 =>
    jd_b (m_X11_has (τ8.2.1 a9 j9) s3 τ8) fun r10 σ10 =>
    jd_b (α := Int32) (
    jd_if (r10 = 0) (
    some (0, σ10)) (
    some (1, σ10))) fun t11 σ11 =>
    jd_b (m_X5_extend f' (some 100) (nI (B 8 3)) (nI r.length + 1) (nI u ||| (1 <<< (s3 &&& 31))) (nI (cst B N r) + t11) σ11) fun r12 σ12 =>
    some (Sum.inl (s3 + 1), σ12)))) (B 8 3) (fun i st σ' => st = nI i ∧ Fr DE L0 σ σ' ∧ SL (((List.range i).flatMap (pmG (B 8 3) d r u)).foldl (upS B N) s) σ' ∧ SR r σ') (fun _ σ' => Fr DE L0 σ σ' ∧ SL ((pmL (B 8 3) (d + 1) r u).foldl (upS B N) s) σ' ∧ SR r σ') ?_ ?_ jd_fu (jfu (by omega)) 0 σ ⟨rfl, Fr_refl _, ha, hR⟩
      · obtain ⟨_, σ9, h9, F9, a9, R9⟩ := one
        rw [h9, jb_some]
        exact ⟨σ9, rfl, F9, a9, R9⟩
      · rintro i st σ' hi ⟨rfl, F', a', R'⟩
        have hW' := Fr_Wd F' hW
        have hl' := fold_le (B := B) (N := N) ((List.range i).flatMap (pmG (B 8 3) d r u)) s
        have ni : ¬ B 8 3 ≤ i := by omega
        rcases hu1 : u.testBit i with _ | _
        · have p64 := fin_pb u hu i (by omega)
          have F2 : Fr DE L0 σ (jd_pi σ' 102 r.length (nI i)) := Fr_pi F' (Or.inr (Or.inr rfl))
          have A2 : SL (((List.range i).flatMap (pmG (B 8 3) d r u)).foldl (upS B N) s) (jd_pi σ' 102 r.length (nI i)) := ⟨(pi_ne _ _ (by omega)).trans a'.1, fun j hj => (pi_ne _ _ (by omega)).trans (a'.2 j hj)⟩
          have ll : (r ++ [i]).length = r.length + 1 := by simp
          have ca := cst_add B N r i
          obtain ⟨σ2, h2, F3, a3, R3⟩ := ih f' (r ++ [i]) (u ||| 2 ^ i) _ _ (by omega) (by omega) p64.2.1 (by omega) (Fr_Wd F2 hW) (BS_fr hB F2) A2 (SR_add R')
          have g1 : (jd_pi σ' 102 r.length (nI i)).2.1 103 r.length = nI (bdN B N r.length) := BS_fr hB F2 _ (by omega)
          have g2 := bdN_64 (N := N) hb r.length
          have g3 := bdN_test (N := N) hb (p := r.length) hi
          rw [ll, ca] at h2
          refine ⟨nI (i + 1), σ2, ?_, rfl, Fr_tr F2 F3, ?_, fun j hj => ?_⟩
          · rcases hbd : bdC B N r.length i with _ | _
            · rw [hbd] at h2 g3
              have h2 : m_X5_extend f' (some 100) (nI (B 8 3)) (nI (r.length + 1)) (nI (u ||| 2 ^ i)) (nI (cst B N r + 0)) (jd_pi σ' 102 r.length (nI i)) = some ((), σ2) := h2
              simp (disch := omega) only [jb_some, jli, jif, jd_q, jd_K0, jpi_s, jpi_l, jpi_p, jpl_s, jpl_i, jpl_p, if_true, if_false, if_pos, if_neg, not_true_eq_false, not_false_eq_true, ite_true, ite_false, Nat.not_lt_zero, eq_self, Nat.le_refl, Nat.lt_irrefl, Bool.false_eq_true, or0, jo_pi, jo_pl, jia_pi, jia_pl, jo_cpy, jia_cpy, cpy_r, m_X11_grant, m_X11_refuse, m_X13_good, m_X13_refused, reduceCtorEq, nI_add, nI_leI, nI_ltI, nI_eq, pk_mul, abs_nI, max_nI, min_nI, nI_m1, nI_m2, nI_le1, m1_lt, m2_lt, and_nI, or_nI, an_nI, has_nI, bit_nI, bc_nI, bits_nI, lx0, lx1, lx2, lx3, lx4, lx5, lx6, lx7, lx8, lx9, lx10, lx11, lx16, lx20, lx40, lx60, lx90, lx99, lx100, lx200, lx900, lx999, lx9999, ni, hu1, g1, g3, ou_nI, h2, jo_100 hW', wr_100_1 hW', wr_100_2 hW', ja_102 hW', ja_103 hW']
            · rw [hbd] at h2 g3
              have h2 : m_X5_extend f' (some 100) (nI (B 8 3)) (nI (r.length + 1)) (nI (u ||| 2 ^ i)) (nI (cst B N r + 1)) (jd_pi σ' 102 r.length (nI i)) = some ((), σ2) := h2
              simp (disch := omega) only [jb_some, jli, jif, jd_q, jd_K0, jpi_s, jpi_l, jpi_p, jpl_s, jpl_i, jpl_p, if_true, if_false, if_pos, if_neg, not_true_eq_false, not_false_eq_true, ite_true, ite_false, Nat.not_lt_zero, eq_self, Nat.le_refl, Nat.lt_irrefl, Bool.false_eq_true, or0, jo_pi, jo_pl, jia_pi, jia_pl, jo_cpy, jia_cpy, cpy_r, m_X11_grant, m_X11_refuse, m_X13_good, m_X13_refused, reduceCtorEq, nI_add, nI_leI, nI_ltI, nI_eq, pk_mul, abs_nI, max_nI, min_nI, nI_m1, nI_m2, nI_le1, m1_lt, m2_lt, and_nI, or_nI, an_nI, has_nI, bit_nI, bc_nI, bits_nI, lx0, lx1, lx2, lx3, lx4, lx5, lx6, lx7, lx8, lx9, lx10, lx11, lx16, lx20, lx40, lx60, lx90, lx99, lx100, lx200, lx900, lx999, lx9999, ni, hu1, g1, g3, ou_nI, h2, jo_100 hW', wr_100_1 hW', wr_100_2 hW', ja_102 hW', ja_103 hW']
          · rw [pmG_s]
            have hg : pmG (B 8 3) d r u i = pmL (B 8 3) d (r ++ [i]) (u ||| 2 ^ i) := by
              unfold pmG
              rw [hu1]
              rfl
            rw [hg]
            exact a3
          · have := R3 j (by omega)
            rw [getD_l hj] at this
            exact this
        · refine ⟨nI (i + 1), σ', ?_, rfl, F', ?_, R'⟩
          · simp (disch := omega) only [jb_some, jli, jif, jd_q, jd_K0, jpi_s, jpi_l, jpi_p, jpl_s, jpl_i, jpl_p, if_true, if_false, if_pos, if_neg, not_true_eq_false, not_false_eq_true, ite_true, ite_false, Nat.not_lt_zero, eq_self, Nat.le_refl, Nat.lt_irrefl, Bool.false_eq_true, or0, jo_pi, jo_pl, jia_pi, jia_pl, jo_cpy, jia_cpy, cpy_r, m_X11_grant, m_X11_refuse, m_X13_good, m_X13_refused, reduceCtorEq, nI_add, nI_leI, nI_ltI, nI_eq, pk_mul, abs_nI, max_nI, min_nI, nI_m1, nI_m2, nI_le1, m1_lt, m2_lt, and_nI, or_nI, an_nI, has_nI, bit_nI, bc_nI, bits_nI, lx0, lx1, lx2, lx3, lx4, lx5, lx6, lx7, lx8, lx9, lx10, lx11, lx16, lx20, lx40, lx60, lx90, lx99, lx100, lx200, lx900, lx999, lx9999, ni, hu1]
          · rw [pmG_s]
            have hg : pmG (B 8 3) d r u i = [] := by
              unfold pmG
              rw [hu1]
              rfl
            rw [hg]
            exact a'
      · rintro st σ' ⟨rfl, F', a', R'⟩
        refine ⟨(), σ', ?_, F', a', R'⟩
        simp (disch := omega) only [jb_some, jli, jif, jd_q, jd_K0, jpi_s, jpi_l, jpi_p, jpl_s, jpl_i, jpl_p, if_true, if_false, if_pos, if_neg, not_true_eq_false, not_false_eq_true, ite_true, ite_false, Nat.not_lt_zero, eq_self, Nat.le_refl, Nat.lt_irrefl, Bool.false_eq_true, or0, jo_pi, jo_pl, jia_pi, jia_pl, jo_cpy, jia_cpy, cpy_r, m_X11_grant, m_X11_refuse, m_X13_good, m_X13_refused, reduceCtorEq, nI_add, nI_leI, nI_ltI, nI_eq, pk_mul, abs_nI, max_nI, min_nI, nI_m1, nI_m2, nI_le1, m1_lt, m2_lt, and_nI, or_nI, an_nI, has_nI, bit_nI, bc_nI, bits_nI, lx0, lx1, lx2, lx3, lx4, lx5, lx6, lx7, lx8, lx9, lx10, lx11, lx16, lx20, lx40, lx60, lx90, lx99, lx100, lx200, lx900, lx999, lx9999]
    · rw [if_neg (nI_nlt (by omega) (by omega))]
      refine ⟨σ, rfl, Fr_refl _, ?_, hR⟩
      rw [fold_id fun x hx => Nat.le_trans (Nat.not_lt.mp hc) (pmL_cst hx)]
      exact ha
set_option maxHeartbeats 4000000 in
theorem x_badSeatsOf (h : CX B N T σ) (hb : bOk B) {p : Nat} (hp : p < B 8 3) (h7 : (N 7).testBit p = false) : m_X5_badSeatsOf (some 40) (nI p) σ = some (nI (bdN B N p), σ) := by
  have hh := h
  have b2 := hb.2.1
  have c64 := cov_64 hb N (N 6)
  obtain ⟨⟨hW, hT, hS, hC, hN⟩, hD⟩ := h
  unfold m_X5_badSeatsOf
  rw [jlp_p (B 8 3) (fun i => ((nI (bN (bdC B N p) i), nI i) : Int32 × Int32)) (nI (bdN B N p)) (jfu (by omega)) ?_ ?_ ?_]
  · rfl
  · rfl
  · intro i hi
    have e0 := near_64 hb N i
    have e01 := pc_le (nearN B N i)
    have e2 := x_sinkMinute hh.1 hb hp e01
    have ni : ¬ B 8 3 ≤ i := by omega
    rcases hcv : (cov B N (N 6)).testBit i with _ | _
    · rcases hsm : sinkM B p (pc (nearN B N i)) with _ | t
      · rw [hsm] at e2
        have e2 : m_X10_sinkMinute T (nI p) (nI (pc (nearN B N i))) σ = some (- nI 2, σ) := e2
        rw [bN_f (by simp [bdC, hsm])]
        simp (disch := omega) only [jb_some, jli, jif, jd_q, jd_K0, jpi_s, jpi_l, jpi_p, jpl_s, jpl_i, jpl_p, if_true, if_false, if_pos, if_neg, not_true_eq_false, not_false_eq_true, ite_true, ite_false, Nat.not_lt_zero, eq_self, Nat.le_refl, Nat.lt_irrefl, Bool.false_eq_true, or0, jo_pi, jo_pl, jia_pi, jia_pl, jo_cpy, jia_cpy, cpy_r, m_X11_grant, m_X11_refuse, m_X13_good, m_X13_refused, reduceCtorEq, nI_add, nI_leI, nI_ltI, nI_eq, pk_mul, abs_nI, max_nI, min_nI, nI_m1, nI_m2, nI_le1, m1_lt, m2_lt, and_nI, or_nI, an_nI, has_nI, bit_nI, bc_nI, bits_nI, lx0, lx1, lx2, lx3, lx4, lx5, lx6, lx7, lx8, lx9, lx10, lx11, lx16, lx20, lx40, lx60, lx90, lx99, lx100, lx200, lx900, lx999, lx9999, jo_32 hW, jo_33 hW, jo_35 hW, jo_40 hW, jo_41 hW, jo_56 hW, jo_97 hW, jo_100 hW, jo_104 hW, jo_106 hW, jo_108 hW, ja_34 hW, ja_36 hW, ja_37 hW, ja_38 hW, ja_39 hW, ja_42 hW, ja_43 hW, ja_44 hW, ja_45 hW, ja_46 hW, ja_98 hW, ja_99 hW, ja_101 hW, ja_102 hW, ja_103 hW, wr_32_0 hW, wr_32_1 hW, wr_32_2 hW, wr_32_3 hW, wr_32_4 hW, wr_32_5 hW, wr_32_6 hW, wr_32_7 hW, wr_32_8 hW, wr_33_0 hW, wr_35_0 hW, wr_35_1 hW, wr_35_2 hW, wr_35_3 hW, wr_35_4 hW, wr_40_0 hW, wr_40_1 hW, wr_40_2 hW, wr_40_3 hW, wr_40_4 hW, wr_41_0 hW, wr_56_0 hW, wr_56_1 hW, wr_97_0 hW, wr_97_1 hW, wr_100_0 hW, wr_100_1 hW, wr_100_2 hW, wr_104_0 hW, wr_106_0 hW, joT hW hT, jaT1 hW hT, jaT2 hW hT, jaT3 hW hT, jaT4 hW hT, jaT5 hW hT, jaT6 hW hT, jaT7 hW hT, jaT8 hW hT, wrT0 hW hT, wrT1 hW hT, wrT2 hW hT, wrT3 hW hT, wrT4 hW hT, wrT5 hW hT, wrT6 hW hT, wrT7 hW hT, hS, ct_a0 hC, ct_a1 hC, ct_a2 hC, ct_a3 hC, ct_a4 hC, ct_a5 hC, ct_a6 hC, ct_a7 hC, ct_s0 hC, ct_s1 hC, ct_s2 hC, ct_s3 hC, ct_s4 hC, ct_s5 hC, ct_s6 hC, ct_s7 hC, cn_p hN, cn_m hN, cn_l hN, cn_t hN, cd_n hD, cd_s hD, cd_r hD, cd_b hD, cd_c hD, ni, hcv, e2]
      · rw [hsm] at e2
        have t1 := sinkM_le hb e01 hsm
        have e2 : m_X10_sinkMinute T (nI p) (nI (pc (nearN B N i))) σ = some (nI t, σ) := e2
        rw [bN_t (by simp [bdC, hsm, h7, hcv])]
        simp (disch := omega) only [jb_some, jli, jif, jd_q, jd_K0, jpi_s, jpi_l, jpi_p, jpl_s, jpl_i, jpl_p, if_true, if_false, if_pos, if_neg, not_true_eq_false, not_false_eq_true, ite_true, ite_false, Nat.not_lt_zero, eq_self, Nat.le_refl, Nat.lt_irrefl, Bool.false_eq_true, or0, jo_pi, jo_pl, jia_pi, jia_pl, jo_cpy, jia_cpy, cpy_r, m_X11_grant, m_X11_refuse, m_X13_good, m_X13_refused, reduceCtorEq, nI_add, nI_leI, nI_ltI, nI_eq, pk_mul, abs_nI, max_nI, min_nI, nI_m1, nI_m2, nI_le1, m1_lt, m2_lt, and_nI, or_nI, an_nI, has_nI, bit_nI, bc_nI, bits_nI, lx0, lx1, lx2, lx3, lx4, lx5, lx6, lx7, lx8, lx9, lx10, lx11, lx16, lx20, lx40, lx60, lx90, lx99, lx100, lx200, lx900, lx999, lx9999, jo_32 hW, jo_33 hW, jo_35 hW, jo_40 hW, jo_41 hW, jo_56 hW, jo_97 hW, jo_100 hW, jo_104 hW, jo_106 hW, jo_108 hW, ja_34 hW, ja_36 hW, ja_37 hW, ja_38 hW, ja_39 hW, ja_42 hW, ja_43 hW, ja_44 hW, ja_45 hW, ja_46 hW, ja_98 hW, ja_99 hW, ja_101 hW, ja_102 hW, ja_103 hW, wr_32_0 hW, wr_32_1 hW, wr_32_2 hW, wr_32_3 hW, wr_32_4 hW, wr_32_5 hW, wr_32_6 hW, wr_32_7 hW, wr_32_8 hW, wr_33_0 hW, wr_35_0 hW, wr_35_1 hW, wr_35_2 hW, wr_35_3 hW, wr_35_4 hW, wr_40_0 hW, wr_40_1 hW, wr_40_2 hW, wr_40_3 hW, wr_40_4 hW, wr_41_0 hW, wr_56_0 hW, wr_56_1 hW, wr_97_0 hW, wr_97_1 hW, wr_100_0 hW, wr_100_1 hW, wr_100_2 hW, wr_104_0 hW, wr_106_0 hW, joT hW hT, jaT1 hW hT, jaT2 hW hT, jaT3 hW hT, jaT4 hW hT, jaT5 hW hT, jaT6 hW hT, jaT7 hW hT, jaT8 hW hT, wrT0 hW hT, wrT1 hW hT, wrT2 hW hT, wrT3 hW hT, wrT4 hW hT, wrT5 hW hT, wrT6 hW hT, wrT7 hW hT, hS, ct_a0 hC, ct_a1 hC, ct_a2 hC, ct_a3 hC, ct_a4 hC, ct_a5 hC, ct_a6 hC, ct_a7 hC, ct_s0 hC, ct_s1 hC, ct_s2 hC, ct_s3 hC, ct_s4 hC, ct_s5 hC, ct_s6 hC, ct_s7 hC, cn_p hN, cn_m hN, cn_l hN, cn_t hN, cd_n hD, cd_s hD, cd_r hD, cd_b hD, cd_c hD, ni, hcv, e2, bN_or]
    · rw [bN_f (by simp [bdC, hcv])]
      simp (disch := omega) only [jb_some, jli, jif, jd_q, jd_K0, jpi_s, jpi_l, jpi_p, jpl_s, jpl_i, jpl_p, if_true, if_false, if_pos, if_neg, not_true_eq_false, not_false_eq_true, ite_true, ite_false, Nat.not_lt_zero, eq_self, Nat.le_refl, Nat.lt_irrefl, Bool.false_eq_true, or0, jo_pi, jo_pl, jia_pi, jia_pl, jo_cpy, jia_cpy, cpy_r, m_X11_grant, m_X11_refuse, m_X13_good, m_X13_refused, reduceCtorEq, nI_add, nI_leI, nI_ltI, nI_eq, pk_mul, abs_nI, max_nI, min_nI, nI_m1, nI_m2, nI_le1, m1_lt, m2_lt, and_nI, or_nI, an_nI, has_nI, bit_nI, bc_nI, bits_nI, lx0, lx1, lx2, lx3, lx4, lx5, lx6, lx7, lx8, lx9, lx10, lx11, lx16, lx20, lx40, lx60, lx90, lx99, lx100, lx200, lx900, lx999, lx9999, jo_32 hW, jo_33 hW, jo_35 hW, jo_40 hW, jo_41 hW, jo_56 hW, jo_97 hW, jo_100 hW, jo_104 hW, jo_106 hW, jo_108 hW, ja_34 hW, ja_36 hW, ja_37 hW, ja_38 hW, ja_39 hW, ja_42 hW, ja_43 hW, ja_44 hW, ja_45 hW, ja_46 hW, ja_98 hW, ja_99 hW, ja_101 hW, ja_102 hW, ja_103 hW, wr_32_0 hW, wr_32_1 hW, wr_32_2 hW, wr_32_3 hW, wr_32_4 hW, wr_32_5 hW, wr_32_6 hW, wr_32_7 hW, wr_32_8 hW, wr_33_0 hW, wr_35_0 hW, wr_35_1 hW, wr_35_2 hW, wr_35_3 hW, wr_35_4 hW, wr_40_0 hW, wr_40_1 hW, wr_40_2 hW, wr_40_3 hW, wr_40_4 hW, wr_41_0 hW, wr_56_0 hW, wr_56_1 hW, wr_97_0 hW, wr_97_1 hW, wr_100_0 hW, wr_100_1 hW, wr_100_2 hW, wr_104_0 hW, wr_106_0 hW, joT hW hT, jaT1 hW hT, jaT2 hW hT, jaT3 hW hT, jaT4 hW hT, jaT5 hW hT, jaT6 hW hT, jaT7 hW hT, jaT8 hW hT, wrT0 hW hT, wrT1 hW hT, wrT2 hW hT, wrT3 hW hT, wrT4 hW hT, wrT5 hW hT, wrT6 hW hT, wrT7 hW hT, hS, ct_a0 hC, ct_a1 hC, ct_a2 hC, ct_a3 hC, ct_a4 hC, ct_a5 hC, ct_a6 hC, ct_a7 hC, ct_s0 hC, ct_s1 hC, ct_s2 hC, ct_s3 hC, ct_s4 hC, ct_s5 hC, ct_s6 hC, ct_s7 hC, cn_p hN, cn_m hN, cn_l hN, cn_t hN, cd_n hD, cd_s hD, cd_r hD, cd_b hD, cd_c hD, ni, hcv]
  · simp (disch := omega) only [jb_some, jli, jif, jd_q, jd_K0, jpi_s, jpi_l, jpi_p, jpl_s, jpl_i, jpl_p, if_true, if_false, if_pos, if_neg, not_true_eq_false, not_false_eq_true, ite_true, ite_false, Nat.not_lt_zero, eq_self, Nat.le_refl, Nat.lt_irrefl, Bool.false_eq_true, or0, jo_pi, jo_pl, jia_pi, jia_pl, jo_cpy, jia_cpy, cpy_r, m_X11_grant, m_X11_refuse, m_X13_good, m_X13_refused, reduceCtorEq, nI_add, nI_leI, nI_ltI, nI_eq, pk_mul, abs_nI, max_nI, min_nI, nI_m1, nI_m2, nI_le1, m1_lt, m2_lt, and_nI, or_nI, an_nI, has_nI, bit_nI, bc_nI, bits_nI, lx0, lx1, lx2, lx3, lx4, lx5, lx6, lx7, lx8, lx9, lx10, lx11, lx16, lx20, lx40, lx60, lx90, lx99, lx100, lx200, lx900, lx999, lx9999, jo_32 hW, jo_33 hW, jo_35 hW, jo_40 hW, jo_41 hW, jo_56 hW, jo_97 hW, jo_100 hW, jo_104 hW, jo_106 hW, jo_108 hW, ja_34 hW, ja_36 hW, ja_37 hW, ja_38 hW, ja_39 hW, ja_42 hW, ja_43 hW, ja_44 hW, ja_45 hW, ja_46 hW, ja_98 hW, ja_99 hW, ja_101 hW, ja_102 hW, ja_103 hW, wr_32_0 hW, wr_32_1 hW, wr_32_2 hW, wr_32_3 hW, wr_32_4 hW, wr_32_5 hW, wr_32_6 hW, wr_32_7 hW, wr_32_8 hW, wr_33_0 hW, wr_35_0 hW, wr_35_1 hW, wr_35_2 hW, wr_35_3 hW, wr_35_4 hW, wr_40_0 hW, wr_40_1 hW, wr_40_2 hW, wr_40_3 hW, wr_40_4 hW, wr_41_0 hW, wr_56_0 hW, wr_56_1 hW, wr_97_0 hW, wr_97_1 hW, wr_100_0 hW, wr_100_1 hW, wr_100_2 hW, wr_104_0 hW, wr_106_0 hW, joT hW hT, jaT1 hW hT, jaT2 hW hT, jaT3 hW hT, jaT4 hW hT, jaT5 hW hT, jaT6 hW hT, jaT7 hW hT, jaT8 hW hT, wrT0 hW hT, wrT1 hW hT, wrT2 hW hT, wrT3 hW hT, wrT4 hW hT, wrT5 hW hT, wrT6 hW hT, wrT7 hW hT, hS, ct_a0 hC, ct_a1 hC, ct_a2 hC, ct_a3 hC, ct_a4 hC, ct_a5 hC, ct_a6 hC, ct_a7 hC, ct_s0 hC, ct_s1 hC, ct_s2 hC, ct_s3 hC, ct_s4 hC, ct_s5 hC, ct_s6 hC, ct_s7 hC, cn_p hN, cn_m hN, cn_l hN, cn_t hN, cd_n hD, cd_s hD, cd_r hD, cd_b hD, cd_c hD]
    rfl
set_option maxHeartbeats 4000000 in
theorem x_ssearch (h : CX B N T σ) (hb : bOk B) (hn : nOk B N) : ∃ σ', m_X5_search 100 (some 40) σ = some ((), σ') ∧ Fr DF L0 σ σ' ∧ SL (sSt B N) σ' := by
  have b2 := hb.2.1
  have n7 := nOk7 hb hn
  have one := jlp_inv (body := fun (s4 : Int32) σ4 =>
jd_if (nI (B 8 3) ≤ s4) (
some ((Sum.inr ()), σ4)) (
jd_o σ4 (5, 4) (some 100) fun a6 =>
jd_o σ4 (6, 8) (some 40) fun a7 =>
jd_o σ4 (4, 4) (σ4.2.2.2 a7 0) fun a8 =>
jd_b (m_X11_has (σ4.2.1 a8 2) s4 σ4) fun r9 σ9 =>
jd_if (r9 = 0) (
jd_b (m_X5_badSeatsOf (some 40) s4 σ9) fun r10 σ10 =>
jd_ia σ10 20 (σ4.2.2.2 a6 2) s4 fun a11 j11 =>
jd_li (jd_pi σ10 a11 j11 r10) fun τ12 =>
some (Sum.inl (s4 + 1), τ12)) (
jd_ia σ9 20 (σ4.2.2.2 a6 2) s4 fun a13 j13 =>
jd_li (jd_pi σ9 a13 j13 0) fun τ14 =>
some (Sum.inl (s4 + 1), τ14)))) (B 8 3) (fun i st σ' => st = nI i ∧ Fr DF L0 σ σ' ∧ ∀ p, p < i → σ'.2.1 103 p = nI (bdN B N p)) (fun _ σ' => Fr DF L0 σ σ' ∧ BS B N σ') ?_ ?_ jd_fu (jfu (by omega)) 0 σ ⟨rfl, Fr_refl _, fun p hp => absurd hp (Nat.not_lt_zero p)⟩
  · obtain ⟨_, σ9, h9, F9, B9⟩ := one
    have hW9 := Fr_Wd F9 h.1.1
    have d1 : DF 100 3 := Or.inl ⟨rfl, rfl⟩
    have F2 : Fr DF L0 σ (jd_pi σ9 100 3 (nI (B 8 3 + 1))) := Fr_pi F9 d1
    obtain ⟨σ', e, F3, a3, -⟩ := x_sext (N := N) hb (B 8 3) 8 [] 0 (B 8 3 + 1, []) (jd_pi σ9 100 3 (nI (B 8 3 + 1))) (by simp) (by omega) (by decide) (by show B 8 3 + 1 ≤ 7; omega) (Fr_Wd F2 h.1.1) (fun p hp => (pi_ne _ _ (by omega)).trans (B9 p hp)) ⟨pi_eq _ _ _ _, fun i hi => absurd hi (Nat.not_lt_zero i)⟩ (fun i hi => absurd hi (Nat.not_lt_zero i))
    have e : m_X5_extend 8 (some 100) (nI (B 8 3)) 0 0 0 (jd_pi σ9 100 3 (nI (B 8 3 + 1))) = some ((), σ') := e
    refine ⟨σ', ?_, Fr_tr F2 (DE_DF F3), a3⟩
    obtain ⟨⟨hW, hT, hS, hC, hN⟩, hD⟩ := h
    unfold m_X5_search
    rw [jo_40 hW, hS, joT hW hT, ct_s3 hC, jli, h9, jb_some, jo_100 hW9, nI_1, jli, e, jb_some]
  · rintro i st σ' hi ⟨rfl, F', B'⟩
    have X' := CX_fr h (DF_DQ F')
    have ni : ¬ B 8 3 ≤ i := by omega
    have keep : ∀ p, p < i + 1 → (jd_pi σ' 103 i (nI (bdN B N i))).2.1 103 p = nI (bdN B N p) := fun p hp => by
      by_cases hpi : p = i
      · rw [hpi, pi_eq]
      · rw [pi_ne _ _ (by omega)]
        exact B' p (by omega)
    refine ⟨nI (i + 1), jd_pi σ' 103 i (nI (bdN B N i)), ?_, rfl, Fr_pi F' (Or.inr (Or.inr (Or.inr rfl))), keep⟩
    rcases h7 : (N 7).testBit i with _ | _
    · have e1 := x_badSeatsOf X' hb hi h7
      obtain ⟨⟨hW, hT, hS, hC, hN⟩, hD⟩ := X'
      simp (disch := omega) only [jb_some, jli, jif, jd_q, jd_K0, jpi_s, jpi_l, jpi_p, jpl_s, jpl_i, jpl_p, if_true, if_false, if_pos, if_neg, not_true_eq_false, not_false_eq_true, ite_true, ite_false, Nat.not_lt_zero, eq_self, Nat.le_refl, Nat.lt_irrefl, Bool.false_eq_true, or0, jo_pi, jo_pl, jia_pi, jia_pl, jo_cpy, jia_cpy, cpy_r, m_X11_grant, m_X11_refuse, m_X13_good, m_X13_refused, reduceCtorEq, nI_add, nI_leI, nI_ltI, nI_eq, pk_mul, abs_nI, max_nI, min_nI, nI_m1, nI_m2, nI_le1, m1_lt, m2_lt, and_nI, or_nI, an_nI, has_nI, bit_nI, bc_nI, bits_nI, lx0, lx1, lx2, lx3, lx4, lx5, lx6, lx7, lx8, lx9, lx10, lx11, lx16, lx20, lx40, lx60, lx90, lx99, lx100, lx200, lx900, lx999, lx9999, jo_32 hW, jo_33 hW, jo_35 hW, jo_40 hW, jo_41 hW, jo_56 hW, jo_97 hW, jo_100 hW, jo_104 hW, jo_106 hW, jo_108 hW, ja_34 hW, ja_36 hW, ja_37 hW, ja_38 hW, ja_39 hW, ja_42 hW, ja_43 hW, ja_44 hW, ja_45 hW, ja_46 hW, ja_98 hW, ja_99 hW, ja_101 hW, ja_102 hW, ja_103 hW, wr_32_0 hW, wr_32_1 hW, wr_32_2 hW, wr_32_3 hW, wr_32_4 hW, wr_32_5 hW, wr_32_6 hW, wr_32_7 hW, wr_32_8 hW, wr_33_0 hW, wr_35_0 hW, wr_35_1 hW, wr_35_2 hW, wr_35_3 hW, wr_35_4 hW, wr_40_0 hW, wr_40_1 hW, wr_40_2 hW, wr_40_3 hW, wr_40_4 hW, wr_41_0 hW, wr_56_0 hW, wr_56_1 hW, wr_97_0 hW, wr_97_1 hW, wr_100_0 hW, wr_100_1 hW, wr_100_2 hW, wr_104_0 hW, wr_106_0 hW, joT hW hT, jaT1 hW hT, jaT2 hW hT, jaT3 hW hT, jaT4 hW hT, jaT5 hW hT, jaT6 hW hT, jaT7 hW hT, jaT8 hW hT, wrT0 hW hT, wrT1 hW hT, wrT2 hW hT, wrT3 hW hT, wrT4 hW hT, wrT5 hW hT, wrT6 hW hT, wrT7 hW hT, hS, ct_a0 hC, ct_a1 hC, ct_a2 hC, ct_a3 hC, ct_a4 hC, ct_a5 hC, ct_a6 hC, ct_a7 hC, ct_s0 hC, ct_s1 hC, ct_s2 hC, ct_s3 hC, ct_s4 hC, ct_s5 hC, ct_s6 hC, ct_s7 hC, cn_p hN, cn_m hN, cn_l hN, cn_t hN, ni, h7, e1]
    · have e0 : bdN B N i = 0 := by
        have : ∀ n, bN (bdC B N i) n = 0 := fun n => by
          induction n with
          | zero => rfl
          | succ n ih => rw [bN_f (by simp [bdC, h7]), ih]
        exact this _
      rw [e0]
      obtain ⟨⟨hW, hT, hS, hC, hN⟩, hD⟩ := X'
      simp (disch := omega) only [jb_some, jli, jif, jd_q, jd_K0, jpi_s, jpi_l, jpi_p, jpl_s, jpl_i, jpl_p, if_true, if_false, if_pos, if_neg, not_true_eq_false, not_false_eq_true, ite_true, ite_false, Nat.not_lt_zero, eq_self, Nat.le_refl, Nat.lt_irrefl, Bool.false_eq_true, or0, jo_pi, jo_pl, jia_pi, jia_pl, jo_cpy, jia_cpy, cpy_r, m_X11_grant, m_X11_refuse, m_X13_good, m_X13_refused, reduceCtorEq, nI_add, nI_leI, nI_ltI, nI_eq, pk_mul, abs_nI, max_nI, min_nI, nI_m1, nI_m2, nI_le1, m1_lt, m2_lt, and_nI, or_nI, an_nI, has_nI, bit_nI, bc_nI, bits_nI, lx0, lx1, lx2, lx3, lx4, lx5, lx6, lx7, lx8, lx9, lx10, lx11, lx16, lx20, lx40, lx60, lx90, lx99, lx100, lx200, lx900, lx999, lx9999, jo_32 hW, jo_33 hW, jo_35 hW, jo_40 hW, jo_41 hW, jo_56 hW, jo_97 hW, jo_100 hW, jo_104 hW, jo_106 hW, jo_108 hW, ja_34 hW, ja_36 hW, ja_37 hW, ja_38 hW, ja_39 hW, ja_42 hW, ja_43 hW, ja_44 hW, ja_45 hW, ja_46 hW, ja_98 hW, ja_99 hW, ja_101 hW, ja_102 hW, ja_103 hW, wr_32_0 hW, wr_32_1 hW, wr_32_2 hW, wr_32_3 hW, wr_32_4 hW, wr_32_5 hW, wr_32_6 hW, wr_32_7 hW, wr_32_8 hW, wr_33_0 hW, wr_35_0 hW, wr_35_1 hW, wr_35_2 hW, wr_35_3 hW, wr_35_4 hW, wr_40_0 hW, wr_40_1 hW, wr_40_2 hW, wr_40_3 hW, wr_40_4 hW, wr_41_0 hW, wr_56_0 hW, wr_56_1 hW, wr_97_0 hW, wr_97_1 hW, wr_100_0 hW, wr_100_1 hW, wr_100_2 hW, wr_104_0 hW, wr_106_0 hW, joT hW hT, jaT1 hW hT, jaT2 hW hT, jaT3 hW hT, jaT4 hW hT, jaT5 hW hT, jaT6 hW hT, jaT7 hW hT, jaT8 hW hT, wrT0 hW hT, wrT1 hW hT, wrT2 hW hT, wrT3 hW hT, wrT4 hW hT, wrT5 hW hT, wrT6 hW hT, wrT7 hW hT, hS, ct_a0 hC, ct_a1 hC, ct_a2 hC, ct_a3 hC, ct_a4 hC, ct_a5 hC, ct_a6 hC, ct_a7 hC, ct_s0 hC, ct_s1 hC, ct_s2 hC, ct_s3 hC, ct_s4 hC, ct_s5 hC, ct_s6 hC, ct_s7 hC, cn_p hN, cn_m hN, cn_l hN, cn_t hN, ni, h7]
  · rintro st σ' ⟨rfl, F', B'⟩
    refine ⟨(), σ', ?_, F', B'⟩
    simp (disch := omega) only [jb_some, jli, jif, jd_q, jd_K0, jpi_s, jpi_l, jpi_p, jpl_s, jpl_i, jpl_p, if_true, if_false, if_pos, if_neg, not_true_eq_false, not_false_eq_true, ite_true, ite_false, Nat.not_lt_zero, eq_self, Nat.le_refl, Nat.lt_irrefl, Bool.false_eq_true, or0, jo_pi, jo_pl, jia_pi, jia_pl, jo_cpy, jia_cpy, cpy_r, m_X11_grant, m_X11_refuse, m_X13_good, m_X13_refused, reduceCtorEq, nI_add, nI_leI, nI_ltI, nI_eq, pk_mul, abs_nI, max_nI, min_nI, nI_m1, nI_m2, nI_le1, m1_lt, m2_lt, and_nI, or_nI, an_nI, has_nI, bit_nI, bc_nI, bits_nI, lx0, lx1, lx2, lx3, lx4, lx5, lx6, lx7, lx8, lx9, lx10, lx11, lx16, lx20, lx40, lx60, lx90, lx99, lx100, lx200, lx900, lx999, lx9999]
end
/-! the ways to sit -/
def okP (n : Nat) (r : List Nat) : Bool := r.length == n && (r.isPerm (List.range n) && (List.range n).all fun i => decide (r.getD i 0 < n) && (List.range n).all fun j => i == j || r.getD i 0 != r.getD j 0)
theorem fin_pm : ∀ n, n < 7 → (pmL n n [] 0).all (okP n) = true := by decide +kernel
theorem fin_p0 : ∀ n, n < 7 → pmL n n [] 0 ≠ [] := by decide +kernel
theorem fold_mem {B : Bch} {N : Nw} : ∀ (l : List (List Nat)) (s : AS), l.foldl (upS B N) s = s ∨ (l.foldl (upS B N) s).2 ∈ l
  | [], _ => Or.inl rfl
  | a :: l, s => by
    show l.foldl (upS B N) (upS B N s a) = s ∨ (l.foldl (upS B N) (upS B N s a)).2 ∈ a :: l
    rcases fold_mem l (upS B N s a) with h | h
    · rw [h]
      by_cases hc : cst B N a < s.1
      · right
        unfold upS
        rw [if_pos hc]
        exact List.mem_cons_self
      · left
        unfold upS
        rw [if_neg hc]
    · exact Or.inr (List.mem_cons_of_mem _ h)
theorem okP_spec {n : Nat} (hn : n < 7) {r : List Nat} (hr : r ∈ pmL n n [] 0) : r.length = n ∧ List.Perm r (List.range n) ∧ (∀ i, i < n → r.getD i 0 < n) ∧ ∀ i j, i < n → j < n → r.getD i 0 = r.getD j 0 → i = j := by
  have h := List.all_eq_true.mp (fin_pm n hn) r hr
  unfold okP at h
  simp only [Bool.and_eq_true, beq_iff_eq, List.all_eq_true, List.mem_range, decide_eq_true_eq, Bool.or_eq_true, bne_iff_ne, ne_eq] at h
  obtain ⟨h1, h2, h3⟩ := h
  refine ⟨h1, List.isPerm_iff.mp h2, fun i hi => (h3 i hi).1, fun i j hi hj e => ?_⟩
  rcases (h3 i hi).2 j hj with h4 | h4
  · exact h4
  · exact absurd e h4
theorem sSt_mem {B : Bch} {N : Nw} (hb : bOk B) : (sSt B N).2 ∈ pmL (B 8 3) (B 8 3) [] 0 := by
  have b2 := hb.2.1
  rcases hl : pmL (B 8 3) (B 8 3) [] 0 with _ | ⟨a, l⟩
  · exact absurd hl (fin_p0 _ (by omega))
  · have ha : a ∈ pmL (B 8 3) (B 8 3) [] 0 := by rw [hl]; exact List.mem_cons_self
    have h1 := (okP_spec (by omega) ha).1
    have h2 := cst_le B N a
    unfold sSt
    rw [hl]
    show (l.foldl (upS B N) (upS B N (B 8 3 + 1, []) a)).2 ∈ a :: l
    have h3 : upS B N (B 8 3 + 1, []) a = (cst B N a, a) := by
      unfold upS
      rw [if_pos (by show cst B N a < B 8 3 + 1; omega)]
    rw [h3]
    rcases fold_mem (B := B) (N := N) l (cst B N a, a) with h | h
    · rw [h]
      exact List.mem_cons_self
    · exact List.mem_cons_of_mem _ h
def a_seats : BO → Int32 × Nat
  | none => (- nI 1, 1)
  | some (B, N) => (nI (sSt B N).1, 0)
def a_seatOf (o : BO) (p : Int32) : Int32 × Nat := match o with
  | none => (- nI 1, 1)
  | some (B, N) => match ixN p (B 8 3) with
    | none => (- nI 1, 1)
    | some j => (nI (N ((sSt B N).2.getD j 0)), 0)
set_option maxHeartbeats 2000000 in
theorem X_seats {o : BO} {T : Nat} {σ : jd_Hp} (h : RXc o T σ)  : OX (m_X11_seats 32 σ) (a_seats o) σ := by
  obtain ⟨hW, h⟩ := h
  unfold m_X11_seats
  rcases o with _ | ⟨B, N⟩
  · have h10 : σ.2.1 32 10 = nI 0 := h
    simp (disch := omega) only [jb_some, jli, jif, jd_q, jd_K0, jpi_s, jpi_l, jpi_p, jpl_s, jpl_i, jpl_p, if_true, if_false, if_pos, if_neg, not_true_eq_false, not_false_eq_true, ite_true, ite_false, Nat.not_lt_zero, eq_self, Nat.le_refl, Nat.lt_irrefl, Bool.false_eq_true, or0, jo_pi, jo_pl, jia_pi, jia_pl, jo_cpy, jia_cpy, cpy_r, m_X11_grant, m_X11_refuse, m_X13_good, m_X13_refused, reduceCtorEq, nI_add, nI_leI, nI_ltI, nI_eq, pk_mul, abs_nI, max_nI, min_nI, nI_m1, nI_m2, nI_le1, m1_lt, m2_lt, and_nI, or_nI, an_nI, has_nI, bit_nI, bc_nI, bits_nI, lx0, lx1, lx2, lx3, lx4, lx5, lx6, lx7, lx8, lx9, lx10, lx11, lx16, lx20, lx40, lx60, lx90, lx99, lx100, lx200, lx900, lx999, lx9999, jo_32 hW, jo_33 hW, jo_35 hW, jo_40 hW, jo_41 hW, jo_56 hW, jo_97 hW, jo_100 hW, jo_104 hW, jo_106 hW, jo_108 hW, ja_34 hW, ja_36 hW, ja_37 hW, ja_38 hW, ja_39 hW, ja_42 hW, ja_43 hW, ja_44 hW, ja_45 hW, ja_46 hW, ja_98 hW, ja_99 hW, ja_101 hW, ja_102 hW, ja_103 hW, wr_32_0 hW, wr_32_1 hW, wr_32_2 hW, wr_32_3 hW, wr_32_4 hW, wr_32_5 hW, wr_32_6 hW, wr_32_7 hW, wr_32_8 hW, wr_33_0 hW, wr_35_0 hW, wr_35_1 hW, wr_35_2 hW, wr_35_3 hW, wr_35_4 hW, wr_40_0 hW, wr_40_1 hW, wr_40_2 hW, wr_40_3 hW, wr_40_4 hW, wr_41_0 hW, wr_56_0 hW, wr_56_1 hW, wr_97_0 hW, wr_97_1 hW, wr_100_0 hW, wr_100_1 hW, wr_100_2 hW, wr_104_0 hW, wr_106_0 hW, h10, m_X11_isPerson, m_X11_isPost]
    exact OX_of (Fr_refl _)
  · obtain ⟨h10, hX, hb, hn, hG⟩ : σ.2.1 32 10 = nI 1 ∧ CX B N T σ ∧ bOk B ∧ nOk B N ∧ SG B σ := h
    have hb2 := hb.2.1
    have hb3 := hb.2.2.1
    have ePe := x_isPerson hX h10 hb
    have ePo := x_isPost hX h10 hb
    show OX _ (a_seats (some (B, N))) σ
    unfold a_seats
    obtain ⟨σ', e, F, a1, a2⟩ := x_ssearch hX hb hn
    have hW' := Fr_Wd F hW
    simp (disch := omega) only [jb_some, jli, jif, jd_q, jd_K0, jpi_s, jpi_l, jpi_p, jpl_s, jpl_i, jpl_p, if_true, if_false, if_pos, if_neg, not_true_eq_false, not_false_eq_true, ite_true, ite_false, Nat.not_lt_zero, eq_self, Nat.le_refl, Nat.lt_irrefl, Bool.false_eq_true, or0, jo_pi, jo_pl, jia_pi, jia_pl, jo_cpy, jia_cpy, cpy_r, m_X11_grant, m_X11_refuse, m_X13_good, m_X13_refused, reduceCtorEq, nI_add, nI_leI, nI_ltI, nI_eq, pk_mul, abs_nI, max_nI, min_nI, nI_m1, nI_m2, nI_le1, m1_lt, m2_lt, and_nI, or_nI, an_nI, has_nI, bit_nI, bc_nI, bits_nI, lx0, lx1, lx2, lx3, lx4, lx5, lx6, lx7, lx8, lx9, lx10, lx11, lx16, lx20, lx40, lx60, lx90, lx99, lx100, lx200, lx900, lx999, lx9999, jo_32 hW, jo_33 hW, jo_35 hW, jo_40 hW, jo_41 hW, jo_56 hW, jo_97 hW, jo_100 hW, jo_104 hW, jo_106 hW, jo_108 hW, ja_34 hW, ja_36 hW, ja_37 hW, ja_38 hW, ja_39 hW, ja_42 hW, ja_43 hW, ja_44 hW, ja_45 hW, ja_46 hW, ja_98 hW, ja_99 hW, ja_101 hW, ja_102 hW, ja_103 hW, wr_32_0 hW, wr_32_1 hW, wr_32_2 hW, wr_32_3 hW, wr_32_4 hW, wr_32_5 hW, wr_32_6 hW, wr_32_7 hW, wr_32_8 hW, wr_33_0 hW, wr_35_0 hW, wr_35_1 hW, wr_35_2 hW, wr_35_3 hW, wr_35_4 hW, wr_40_0 hW, wr_40_1 hW, wr_40_2 hW, wr_40_3 hW, wr_40_4 hW, wr_41_0 hW, wr_56_0 hW, wr_56_1 hW, wr_97_0 hW, wr_97_1 hW, wr_100_0 hW, wr_100_1 hW, wr_100_2 hW, wr_104_0 hW, wr_106_0 hW, h10, e, a1, wr_32_5 hW', jo_100 hW']
    exact OX_of (DF_DQ F)
set_option maxHeartbeats 2000000 in
theorem X_seatOf {o : BO} {T : Nat} {σ : jd_Hp} (h : RXc o T σ) (p : Int32) : OX (m_X11_seatOf 32 p σ) (a_seatOf o p) σ := by
  obtain ⟨hW, h⟩ := h
  unfold m_X11_seatOf
  rcases o with _ | ⟨B, N⟩
  · have h10 : σ.2.1 32 10 = nI 0 := h
    simp (disch := omega) only [jb_some, jli, jif, jd_q, jd_K0, jpi_s, jpi_l, jpi_p, jpl_s, jpl_i, jpl_p, if_true, if_false, if_pos, if_neg, not_true_eq_false, not_false_eq_true, ite_true, ite_false, Nat.not_lt_zero, eq_self, Nat.le_refl, Nat.lt_irrefl, Bool.false_eq_true, or0, jo_pi, jo_pl, jia_pi, jia_pl, jo_cpy, jia_cpy, cpy_r, m_X11_grant, m_X11_refuse, m_X13_good, m_X13_refused, reduceCtorEq, nI_add, nI_leI, nI_ltI, nI_eq, pk_mul, abs_nI, max_nI, min_nI, nI_m1, nI_m2, nI_le1, m1_lt, m2_lt, and_nI, or_nI, an_nI, has_nI, bit_nI, bc_nI, bits_nI, lx0, lx1, lx2, lx3, lx4, lx5, lx6, lx7, lx8, lx9, lx10, lx11, lx16, lx20, lx40, lx60, lx90, lx99, lx100, lx200, lx900, lx999, lx9999, jo_32 hW, jo_33 hW, jo_35 hW, jo_40 hW, jo_41 hW, jo_56 hW, jo_97 hW, jo_100 hW, jo_104 hW, jo_106 hW, jo_108 hW, ja_34 hW, ja_36 hW, ja_37 hW, ja_38 hW, ja_39 hW, ja_42 hW, ja_43 hW, ja_44 hW, ja_45 hW, ja_46 hW, ja_98 hW, ja_99 hW, ja_101 hW, ja_102 hW, ja_103 hW, wr_32_0 hW, wr_32_1 hW, wr_32_2 hW, wr_32_3 hW, wr_32_4 hW, wr_32_5 hW, wr_32_6 hW, wr_32_7 hW, wr_32_8 hW, wr_33_0 hW, wr_35_0 hW, wr_35_1 hW, wr_35_2 hW, wr_35_3 hW, wr_35_4 hW, wr_40_0 hW, wr_40_1 hW, wr_40_2 hW, wr_40_3 hW, wr_40_4 hW, wr_41_0 hW, wr_56_0 hW, wr_56_1 hW, wr_97_0 hW, wr_97_1 hW, wr_100_0 hW, wr_100_1 hW, wr_100_2 hW, wr_104_0 hW, wr_106_0 hW, h10, m_X11_isPerson, m_X11_isPost]
    exact OX_of (Fr_refl _)
  · obtain ⟨h10, hX, hb, hn, hG⟩ : σ.2.1 32 10 = nI 1 ∧ CX B N T σ ∧ bOk B ∧ nOk B N ∧ SG B σ := h
    have hb2 := hb.2.1
    have hb3 := hb.2.2.1
    have ePe := x_isPerson hX h10 hb
    have ePo := x_isPost hX h10 hb
    show OX _ (a_seatOf (some (B, N)) p) σ
    unfold a_seatOf
    rcases hj : ixN p (B 8 3) with _ | j
    · simp (disch := omega) only [jb_some, jli, jif, jd_q, jd_K0, jpi_s, jpi_l, jpi_p, jpl_s, jpl_i, jpl_p, if_true, if_false, if_pos, if_neg, not_true_eq_false, not_false_eq_true, ite_true, ite_false, Nat.not_lt_zero, eq_self, Nat.le_refl, Nat.lt_irrefl, Bool.false_eq_true, or0, jo_pi, jo_pl, jia_pi, jia_pl, jo_cpy, jia_cpy, cpy_r, m_X11_grant, m_X11_refuse, m_X13_good, m_X13_refused, reduceCtorEq, nI_add, nI_leI, nI_ltI, nI_eq, pk_mul, abs_nI, max_nI, min_nI, nI_m1, nI_m2, nI_le1, m1_lt, m2_lt, and_nI, or_nI, an_nI, has_nI, bit_nI, bc_nI, bits_nI, lx0, lx1, lx2, lx3, lx4, lx5, lx6, lx7, lx8, lx9, lx10, lx11, lx16, lx20, lx40, lx60, lx90, lx99, lx100, lx200, lx900, lx999, lx9999, jo_32 hW, jo_33 hW, jo_35 hW, jo_40 hW, jo_41 hW, jo_56 hW, jo_97 hW, jo_100 hW, jo_104 hW, jo_106 hW, jo_108 hW, ja_34 hW, ja_36 hW, ja_37 hW, ja_38 hW, ja_39 hW, ja_42 hW, ja_43 hW, ja_44 hW, ja_45 hW, ja_46 hW, ja_98 hW, ja_99 hW, ja_101 hW, ja_102 hW, ja_103 hW, wr_32_0 hW, wr_32_1 hW, wr_32_2 hW, wr_32_3 hW, wr_32_4 hW, wr_32_5 hW, wr_32_6 hW, wr_32_7 hW, wr_32_8 hW, wr_33_0 hW, wr_35_0 hW, wr_35_1 hW, wr_35_2 hW, wr_35_3 hW, wr_35_4 hW, wr_40_0 hW, wr_40_1 hW, wr_40_2 hW, wr_40_3 hW, wr_40_4 hW, wr_41_0 hW, wr_56_0 hW, wr_56_1 hW, wr_97_0 hW, wr_97_1 hW, wr_100_0 hW, wr_100_1 hW, wr_100_2 hW, wr_104_0 hW, wr_106_0 hW, h10, ePe, hj, Option.isSome]
      exact OX_of (Fr_refl _)
    · obtain ⟨h2, rfl⟩ := ixN_some hj
      obtain ⟨σ', e, F, a1, a2⟩ := x_ssearch hX hb hn
      have hm := okP_spec (by omega) (sSt_mem (N := N) hb)
      have a3 := a2 j (by omega)
      have h3 := hm.2.2.1 j h2
      obtain ⟨⟨hW', hT, hS, hC, hN⟩, hD⟩ := CX_fr hX (DF_DQ F)
      have a4 := cn_p hN h3
      simp (disch := omega) only [jb_some, jli, jif, jd_q, jd_K0, jpi_s, jpi_l, jpi_p, jpl_s, jpl_i, jpl_p, if_true, if_false, if_pos, if_neg, not_true_eq_false, not_false_eq_true, ite_true, ite_false, Nat.not_lt_zero, eq_self, Nat.le_refl, Nat.lt_irrefl, Bool.false_eq_true, or0, jo_pi, jo_pl, jia_pi, jia_pl, jo_cpy, jia_cpy, cpy_r, m_X11_grant, m_X11_refuse, m_X13_good, m_X13_refused, reduceCtorEq, nI_add, nI_leI, nI_ltI, nI_eq, pk_mul, abs_nI, max_nI, min_nI, nI_m1, nI_m2, nI_le1, m1_lt, m2_lt, and_nI, or_nI, an_nI, has_nI, bit_nI, bc_nI, bits_nI, lx0, lx1, lx2, lx3, lx4, lx5, lx6, lx7, lx8, lx9, lx10, lx11, lx16, lx20, lx40, lx60, lx90, lx99, lx100, lx200, lx900, lx999, lx9999, jo_32 hW, jo_33 hW, jo_35 hW, jo_40 hW, jo_41 hW, jo_56 hW, jo_97 hW, jo_100 hW, jo_104 hW, jo_106 hW, jo_108 hW, ja_34 hW, ja_36 hW, ja_37 hW, ja_38 hW, ja_39 hW, ja_42 hW, ja_43 hW, ja_44 hW, ja_45 hW, ja_46 hW, ja_98 hW, ja_99 hW, ja_101 hW, ja_102 hW, ja_103 hW, wr_32_0 hW, wr_32_1 hW, wr_32_2 hW, wr_32_3 hW, wr_32_4 hW, wr_32_5 hW, wr_32_6 hW, wr_32_7 hW, wr_32_8 hW, wr_33_0 hW, wr_35_0 hW, wr_35_1 hW, wr_35_2 hW, wr_35_3 hW, wr_35_4 hW, wr_40_0 hW, wr_40_1 hW, wr_40_2 hW, wr_40_3 hW, wr_40_4 hW, wr_41_0 hW, wr_56_0 hW, wr_56_1 hW, wr_97_0 hW, wr_97_1 hW, wr_100_0 hW, wr_100_1 hW, wr_100_2 hW, wr_104_0 hW, wr_106_0 hW, h10, ePe, hj, Option.isSome, e, a3, a4, wr_32_5 hW', jo_100 hW', wr_32_2 hW', jo_40 hW', wr_40_0 hW', jo_41 hW', wr_100_0 hW', ja_101 hW', wr_41_0 hW', ja_42 hW']
      exact OX_of (DF_DQ F)
