/-! P (20): one guard alone -/
def fb1 (B : Bch) (N : Nw) (q f p : Nat) : Option Nat := (sink B N p).elim none fun t => if max f t + time B N q p ≤ t + B 8 0 then some (max f t + time B N q p + time B N q p) else none
def fbO (B : Bch) (N : Nw) (q u f p : Nat) : Option Nat := if u.testBit p then none else fb1 B N q f p
abbrev AS : Type := Nat × List Nat
def upA (s : AS) (r : List Nat) (f : Nat) : AS := if s.2.length < r.length then (f, r) else s
def lpA (g : Nat → AS → AS) : Nat → AS → AS
  | 0, s => s
  | n + 1, s => g n (lpA g n s)
def ndB (B : Bch) (N : Nw) (q : Nat) : Nat → List Nat → Nat → Nat → AS → AS
  | 0, _, _, _, s => s
  | d + 1, r, u, f, s => lpA (fun p s' => (fbO B N q u f p).elim s' fun g => ndB B N q d (r ++ [p]) (u ||| 2 ^ p) g (upA s' (r ++ [p]) g)) (B 8 3) s
def ndC (B : Bch) (N : Nw) (q d : Nat) (r : List Nat) (u f : Nat) : Nat → AS → AS := fun p s' => (fbO B N q u f p).elim s' fun g => ndB B N q d (r ++ [p]) (u ||| 2 ^ p) g (upA s' (r ++ [p]) g)
def aSt (B : Bch) (N : Nw) (q : Nat) : AS := ndB B N q 6 [] 0 (N 8) (N 8, [])
theorem lpA_id {g : Nat → AS → AS} {s : AS} : ∀ {n : Nat}, (∀ p, p < n → g p s = s) → lpA g n s = s
  | 0, _ => rfl
  | n + 1, h => by
    show g n (lpA g n s) = s
    rw [lpA_id fun p hp => h p (by omega)]
    exact h n (by omega)
theorem lpA_P {P : AS → Prop} {g : Nat → AS → AS} (h : ∀ p s, P s → P (g p s)) {s : AS} (h0 : P s) : ∀ n, P (lpA g n s)
  | 0 => h0
  | n + 1 => h n _ (lpA_P h h0 n)
theorem upA_len {s : AS} {r : List Nat} {f : Nat} (h : s.2.length ≤ 6) (hr : r.length ≤ 6) : (upA s r f).2.length ≤ 6 := by
  unfold upA
  split
  · exact hr
  · exact h
theorem ndB_len {B : Bch} {N : Nw} {q : Nat} : ∀ (d : Nat) (r : List Nat) (u f : Nat) (s : AS), r.length + d = 6 → s.2.length ≤ 6 → (ndB B N q d r u f s).2.length ≤ 6
  | 0, _, _, _, _, _, h => h
  | d + 1, r, u, f, s, hd, h => by
    refine lpA_P (P := fun s => s.2.length ≤ 6) (fun p s' hs => ?_) h _
    show ((fbO B N q u f p).elim s' fun g => ndB B N q d (r ++ [p]) (u ||| 2 ^ p) g (upA s' (r ++ [p]) g)).2.length ≤ 6
    rcases fbO B N q u f p with _ | g
    · exact hs
    · exact ndB_len d _ _ _ _ (by simp; omega) (upA_len hs (by simp; omega))
theorem fin_pa : ∀ w, w < 64 → ∀ p, p < 6 → w.testBit p = true → pc (w &&& (63 ^^^ 2 ^ p)) + 1 = pc w := by decide +kernel
theorem fin_pb : ∀ u, u < 64 → ∀ p, p < 6 → 63 ^^^ (u ||| 2 ^ p) = (63 ^^^ u) &&& (63 ^^^ 2 ^ p) ∧ u ||| 2 ^ p < 64 ∧ 2 ^ p < 64 ∧ nI u ||| (nI 1 <<< (nI p &&& 31)) = nI (u ||| 2 ^ p) := by decide +kernel
theorem fin_pd : ∀ u, u < 64 → ∀ p, p < 6 → u.testBit p = false → pc (u ||| 2 ^ p) = pc u + 1 ∧ nI (u ||| 2 ^ p) &&& ((nI 1 <<< (nI p &&& 31)) ^^^ (- nI 1)) = nI u := by decide +kernel
theorem ou_nI {u p : Nat} (hu : u < 64) (hp : p < 6) : nI u ||| (nI 1 <<< (nI p &&& 31)) = nI (u ||| 2 ^ p) := (fin_pb u hu p hp).2.2.2
theorem fbO_spec {B : Bch} {N : Nw} (hb : bOk B) (hn : nOk B N) {q u f p g : Nat} (hp : p < 6) (h : fbO B N q u f p = some g) : u.testBit p = false ∧ g ≤ 316 ∧ ∃ t, sink B N p = some t := by
  unfold fbO at h
  split at h
  · exact absurd h (by simp)
  · rename_i h1
    refine ⟨by simpa using h1, ?_⟩
    unfold fb1 at h
    rcases hs : sink B N p with _ | t
    · rw [hs] at h
      exact absurd h (by simp)
    · rw [hs] at h
      have e1 := sink_le hb hs
      have e2 := time_le hb (hn.1 p hp) q
      have e3 := hb.2.2.2.2.1
      refine ⟨?_, t, rfl⟩
      simp only [Option.elim] at h
      split at h
      · injection h with h
        omega
      · exact absurd h (by simp)
theorem nd_cut {B : Bch} {N : Nw} (hb : bOk B) (hn : nOk B N) {q : Nat} : ∀ (d : Nat) (r : List Nat) (u f : Nat) (s : AS), u < 64 → r.length + pc (sinkers B N &&& (63 ^^^ u)) ≤ s.2.length → ndB B N q d r u f s = s
  | 0, _, _, _, _, _, _ => rfl
  | d + 1, r, u, f, s, hu, h => by
    have b2 := hb.2.1
    refine lpA_id fun p hp => ?_
    show ((fbO B N q u f p).elim s fun g => ndB B N q d (r ++ [p]) (u ||| 2 ^ p) g (upA s (r ++ [p]) g)) = s
    rcases hf : fbO B N q u f p with _ | g
    · rfl
    · obtain ⟨h1, h2, t, h3⟩ := fbO_spec hb hn (by omega) hf
      obtain ⟨k1, k2, k3, -⟩ := fin_pb u hu p (by omega)
      have st := sinkers_test (N := N) hb hp
      have s64 := sinkers_64 hb N
      have hw : (sinkers B N &&& (63 ^^^ u)).testBit p = true := by
        rw [Nat.testBit_and, st, fin_63 u hu p (by omega), h1]
        simp [skC, h3]
      have k4 := fin_pa _ (and_64 (63 ^^^ u) s64) p (by omega) hw
      rw [Nat.and_assoc, ← k1] at k4
      have hl : (r ++ [p]).length = r.length + 1 := by simp
      have hu' : upA s (r ++ [p]) g = s := by
        unfold upA
        rw [if_neg (by omega)]
      show ndB B N q d (r ++ [p]) (u ||| 2 ^ p) g (upA s (r ++ [p]) g) = s
      rw [hu']
      exact nd_cut hb hn d _ _ _ _ k2 (by omega)
def AL (s : AS) (σ : jd_Hp) : Prop := σ.2.1 97 2 = nI s.2.length ∧ σ.2.1 97 3 = nI s.1 ∧ ∀ i, i < s.2.length → σ.2.1 98 i = nI (s.2.getD i 0)
def AR (r : List Nat) (σ : jd_Hp) : Prop := ∀ i, i < r.length → σ.2.1 99 i = nI (r.getD i 0)
def DA (a k : Nat) : Prop := a = 97 ∧ (k = 2 ∨ k = 3) ∨ a = 98 ∨ a = 99
section
variable {B : Bch} {N : Nw} {T : Nat} {σ σ' : jd_Hp}
theorem DA_DQ (f : Fr DA L0 σ σ') : Fr DQ LQ σ σ' := Fr_mono f (fun a k h => by
  unfold DA at h
  unfold DQ
  omega) (fun a h => absurd h (fun h => h))
theorem x_take (hW : Wd σ) {m f : Nat} (hm : m ≤ 6) : m_X0_take 97 (nI m) (nI f) σ = some ((), jd_pi (jd_pi (cpy σ 98 (σ.2.1 99) m) 97 2 (nI m)) 97 3 (nI f)) := by
  unfold m_X0_take
  rw [jlp_h m (fun i => nI i) (fun i => cpy σ 98 (σ.2.1 99) i) () (cpy σ 98 (σ.2.1 99) m) (jfu (by omega)) ?_ ?_ ?_ ?_]
  · rw [jb_some, jo_cpy, jo_97 hW]
    rfl
  · rfl
  · exact (cpy_0 _ _ _).symm
  · intro i hi
    have h1 : ¬ m ≤ i := by omega
    have h2 : ¬ 6 ≤ i := by omega
    simp (disch := omega) only [jb_some, jli, jif, jd_q, jd_K0, jpi_s, jpi_l, jpi_p, jpl_s, jpl_i, jpl_p, if_true, if_false, if_pos, if_neg, not_true_eq_false, not_false_eq_true, ite_true, ite_false, Nat.not_lt_zero, eq_self, Nat.le_refl, Nat.lt_irrefl, Bool.false_eq_true, or0, jo_pi, jo_pl, jia_pi, jia_pl, jo_cpy, jia_cpy, cpy_r, m_X11_grant, m_X11_refuse, m_X13_good, m_X13_refused, reduceCtorEq, nI_add, nI_leI, nI_ltI, nI_eq, pk_mul, abs_nI, max_nI, min_nI, nI_m1, nI_m2, nI_le1, m1_lt, m2_lt, and_nI, or_nI, an_nI, has_nI, bit_nI, bc_nI, bits_nI, lx0, lx1, lx2, lx3, lx4, lx5, lx6, lx7, lx8, lx9, lx10, lx11, lx16, lx20, lx40, lx60, lx90, lx99, lx100, lx200, lx900, lx999, lx9999, jo_32 hW, jo_33 hW, jo_35 hW, jo_40 hW, jo_41 hW, jo_56 hW, jo_97 hW, jo_100 hW, jo_104 hW, jo_106 hW, jo_108 hW, ja_34 hW, ja_36 hW, ja_37 hW, ja_38 hW, ja_39 hW, ja_42 hW, ja_43 hW, ja_44 hW, ja_45 hW, ja_46 hW, ja_98 hW, ja_99 hW, ja_101 hW, ja_102 hW, ja_103 hW, wr_32_0 hW, wr_32_1 hW, wr_32_2 hW, wr_32_3 hW, wr_32_4 hW, wr_32_5 hW, wr_32_6 hW, wr_32_7 hW, wr_32_8 hW, wr_33_0 hW, wr_35_0 hW, wr_35_1 hW, wr_35_2 hW, wr_35_3 hW, wr_35_4 hW, wr_40_0 hW, wr_40_1 hW, wr_40_2 hW, wr_40_3 hW, wr_40_4 hW, wr_41_0 hW, wr_56_0 hW, wr_56_1 hW, wr_97_0 hW, wr_97_1 hW, wr_100_0 hW, wr_100_1 hW, wr_100_2 hW, wr_104_0 hW, wr_106_0 hW, h1, h2]
    rw [← cpy_s, cpy_i, if_neg (by omega)]
  · simp (disch := omega) only [jb_some, jli, jif, jd_q, jd_K0, jpi_s, jpi_l, jpi_p, jpl_s, jpl_i, jpl_p, if_true, if_false, if_pos, if_neg, not_true_eq_false, not_false_eq_true, ite_true, ite_false, Nat.not_lt_zero, eq_self, Nat.le_refl, Nat.lt_irrefl, Bool.false_eq_true, or0, jo_pi, jo_pl, jia_pi, jia_pl, jo_cpy, jia_cpy, cpy_r, m_X11_grant, m_X11_refuse, m_X13_good, m_X13_refused, reduceCtorEq, nI_add, nI_leI, nI_ltI, nI_eq, pk_mul, abs_nI, max_nI, min_nI, nI_m1, nI_m2, nI_le1, m1_lt, m2_lt, and_nI, or_nI, an_nI, has_nI, bit_nI, bc_nI, bits_nI, lx0, lx1, lx2, lx3, lx4, lx5, lx6, lx7, lx8, lx9, lx10, lx11, lx16, lx20, lx40, lx60, lx90, lx99, lx100, lx200, lx900, lx999, lx9999, jo_32 hW, jo_33 hW, jo_35 hW, jo_40 hW, jo_41 hW, jo_56 hW, jo_97 hW, jo_100 hW, jo_104 hW, jo_106 hW, jo_108 hW, ja_34 hW, ja_36 hW, ja_37 hW, ja_38 hW, ja_39 hW, ja_42 hW, ja_43 hW, ja_44 hW, ja_45 hW, ja_46 hW, ja_98 hW, ja_99 hW, ja_101 hW, ja_102 hW, ja_103 hW, wr_32_0 hW, wr_32_1 hW, wr_32_2 hW, wr_32_3 hW, wr_32_4 hW, wr_32_5 hW, wr_32_6 hW, wr_32_7 hW, wr_32_8 hW, wr_33_0 hW, wr_35_0 hW, wr_35_1 hW, wr_35_2 hW, wr_35_3 hW, wr_35_4 hW, wr_40_0 hW, wr_40_1 hW, wr_40_2 hW, wr_40_3 hW, wr_40_4 hW, wr_41_0 hW, wr_56_0 hW, wr_56_1 hW, wr_97_0 hW, wr_97_1 hW, wr_100_0 hW, wr_100_1 hW, wr_100_2 hW, wr_104_0 hW, wr_106_0 hW]
theorem x_ent (hW : Wd σ) {r : List Nat} {f : Nat} {s : AS} (hr : r.length ≤ 6) (hs : s.2.length ≤ 6) (ha : AL s σ) (hR : AR r σ) : ∃ σ1, jd_if (nI r.length ≤ σ.2.1 97 2) (some ((), σ)) (jd_b (m_X0_take 97 (nI r.length) (nI f) σ) fun r4 σ4 => some ((), σ4)) = some ((), σ1) ∧ Fr DA L0 σ σ1 ∧ AL (upA s r f) σ1 ∧ AR r σ1 := by
  by_cases h : s.2.length < r.length
  · refine ⟨jd_pi (jd_pi (cpy σ 98 (σ.2.1 99) r.length) 97 2 (nI r.length)) 97 3 (nI f), ?_, ?_, ?_, ?_⟩
    · rw [jif, ha.1, if_neg (nI_ge h (by omega)), x_take hW hr, jb_some]
    · have Fc : Fr DA L0 σ (cpy σ 98 (σ.2.1 99) r.length) := ⟨rfl, rfl, fun a k hd => by
        rw [cpy_i, if_neg]
        intro h1
        exact hd (Or.inr (Or.inl h1.1)), fun _ _ _ => rfl⟩
      have d1 : DA 97 2 := Or.inl ⟨rfl, Or.inl rfl⟩
      have d2 : DA 97 3 := Or.inl ⟨rfl, Or.inr rfl⟩
      exact Fr_pi (Fr_pi Fc d1) d2
    · unfold upA
      rw [if_pos h]
      refine ⟨?_, pi_eq _ _ _ _, fun i hi => ?_⟩
      · rw [pi_ne _ _ (by omega), pi_eq]
      · rw [pi_ne _ _ (by omega), pi_ne _ _ (by omega), cpy_i, if_pos ⟨rfl, hi⟩]
        exact hR i hi
    · intro i hi
      rw [pi_ne _ _ (by omega), pi_ne _ _ (by omega), cpy_i, if_neg (by omega)]
      exact hR i hi
  · refine ⟨σ, ?_, Fr_refl _, ?_, hR⟩
    · rw [jif, ha.1, if_pos (nI_le (by omega) (by omega))]
    · unfold upA
      rw [if_neg h]
      exact ha
theorem getD_l {r : List Nat} {p i : Nat} (hi : i < r.length) : (r ++ [p]).getD i 0 = r.getD i 0 := by
  simp [List.getD_eq_getElem?_getD, List.getElem?_append_left hi]
theorem getD_r {r : List Nat} {p : Nat} : (r ++ [p]).getD r.length 0 = p := by
  simp [List.getD_eq_getElem?_getD]
theorem AR_add {r : List Nat} {p : Nat} (h : AR r σ) : AR (r ++ [p]) (jd_pi σ 99 r.length (nI p)) := by
  intro i hi
  rw [List.length_append] at hi
  by_cases h1 : i = r.length
  · rw [h1, pi_eq, getD_r]
  · have h2 : i < r.length := by
      simp at hi
      omega
    rw [pi_ne _ _ (by omega), getD_l h2]
    exact h i h2
set_option maxHeartbeats 4000000 in
theorem x_extend (hb : bOk B) (hn : nOk B N) {q : Nat} (hq : q < B 8 4) : ∀ (d f : Nat) (r : List Nat) (u fr : Nat) (s : AS) (σ : jd_Hp), r.length + d = 6 → d < f → u < 64 → fr ≤ 999 → s.2.length ≤ 6 → CX B N T σ → AL s σ → AR r σ → ∃ σ', m_X0_extend f (some 97) (some 40) (nI q) (nI r.length) (nI u) (nI fr) σ = some ((), σ') ∧ Fr DA L0 σ σ' ∧ AL (ndB B N q d r u fr (upA s r fr)) σ' ∧ AR r σ' := by
  intro d
  induction d with
  | zero =>
    intro f r u fr s σ hd hf hu hfr hs hX ha hR
    obtain ⟨f', rfl⟩ : ∃ f', f = f' + 1 := ⟨f - 1, by omega⟩
    obtain ⟨σ1, h1, F1, a1, R1⟩ := x_ent hX.1.1 (f := fr) (by omega) hs ha hR
    have X1 := CX_fr hX (DA_DQ F1)
    have s64 := sinkers_64 hb N
    have e6 := cd_b X1.2
    refine ⟨σ1, ?_, F1, a1, R1⟩
    rw [m_X0_extend, jo_97 hX.1.1, h1, jb_some, jo_40 X1.1.1, e6, show nI (sinkers B N) &&& (nI u ^^^ -1) = nI (sinkers B N &&& (63 ^^^ u)) from an_nI s64 hu, bc_nI (and_64 _ s64), jb_some, jif, if_pos (show (6 : Int32) ≤ nI r.length from nI_le (a := 6) (by omega) (by omega))]
  | succ d ih =>
    intro f r u fr s σ hd hf hu hfr hs hX ha hR
    obtain ⟨f', rfl⟩ : ∃ f', f = f' + 1 := ⟨f - 1, by omega⟩
    obtain ⟨σ1, h1, F1, a1, R1⟩ := x_ent hX.1.1 (f := fr) (by omega) hs ha hR
    have X1 := CX_fr hX (DA_DQ F1)
    have s64 := sinkers_64 hb N
    have b2 := hb.2.1
    have b4 := hb.2.2.2.2.1
    have e6 := cd_b X1.2
    have hl := upA_len (f := fr) hs (show r.length ≤ 6 by omega)
    have hpc := pc_le (sinkers B N &&& (63 ^^^ u))
    rw [m_X0_extend, jo_97 hX.1.1, h1, jb_some, jo_40 X1.1.1, e6, show nI (sinkers B N) &&& (nI u ^^^ -1) = nI (sinkers B N &&& (63 ^^^ u)) from an_nI s64 hu, bc_nI (and_64 _ s64), jb_some, jif, if_neg (show ¬ (6 : Int32) ≤ nI r.length from nI_ge (b := 6) (by omega) (by omega)), jo_97 X1.1.1, jif, a1.1, nI_add]
    by_cases hc : r.length + pc (sinkers B N &&& (63 ^^^ u)) ≤ (upA s r fr).2.length
    · rw [if_neg (nI_nlt hc (by omega))]
      refine ⟨σ1, rfl, F1, ?_, R1⟩
      rw [nd_cut hb hn (d + 1) r u fr _ hu hc]
      exact a1
    · rw [if_pos (nI_lt (by omega) (by omega))]
      have one := jlp_inv (body := fun (s8 : Int32) σ8 =>
    jd_o σ8 (6, 8) (some 40) fun a10 =>
    jd_o σ8 (10, 16) (σ8.2.2.2 a10 5) fun a11 =>
    jd_if ((σ8.2.1 a11 11) ≤ s8) (
    some ((Sum.inr ()), σ8)) (
    jd_b (m_X6_sinks a10 s8 σ8) fun r12 σ12 =>
    jd_if (r12 = 0) (
    some (Sum.inl (s8 + 1), σ12)) (
    jd_b (m_X11_has (nI u) s8 σ12) fun r13 σ13 =>
    jd_if (¬ r13 = 0) (
    some (Sum.inl (s8 + 1), σ13)) (
    jd_b (m_X6_timeTo a10 (nI q) s8 σ13) fun r14 σ14 =>
    jd_ia σ14 20 (σ14.2.2.2 a10 2) s8 fun a15 j15 =>
    jd_li ((jd_max (nI fr) (σ14.2.1 a15 j15)) + r14) fun x16 =>
    jd_ia σ14 20 (σ14.2.2.2 a10 2) s8 fun a17 j17 =>
    jd_o σ14 (10, 16) (σ14.2.2.2 a10 5) fun a18 =>
    jd_if (((σ14.2.1 a17 j17) + (σ14.2.1 a18 8)) < x16) (
    some (Sum.inl (s8 + 1), σ14)) (
    jd_o σ14 (0, 4) (some 97) fun a19 =>
    jd_ia σ14 20 (σ14.2.2.2 a19 1) (nI r.length) fun a20 j20 =>
    jd_li (jd_pi σ14 a20 j20 s8) fun τ21 =>
    jd_b (m_X0_extend f' (some 97) (some 40) (nI q) (nI r.length + 1) (nI u ||| (1 <<< (s8 &&& 31))) (x16 + r14) τ21) fun r22 σ22 =>
    some (Sum.inl (s8 + 1), σ22)))))) (B 8 3) (fun i st σ' => st = nI i ∧ Fr DA L0 σ σ' ∧ AL (lpA (ndC B N q d r u fr) i (upA s r fr)) σ' ∧ AR r σ') (fun _ σ' => Fr DA L0 σ σ' ∧ AL (lpA (ndC B N q d r u fr) (B 8 3) (upA s r fr)) σ' ∧ AR r σ') ?_ ?_ jd_fu (jfu (by omega)) 0 σ1 ⟨rfl, F1, a1, R1⟩
      · obtain ⟨_, σ9, h9, F9, a9, R9⟩ := one
        rw [h9, jb_some]
        exact ⟨σ9, rfl, F9, a9, R9⟩
      · rintro i st σ' hi ⟨rfl, F', a', R'⟩
        have X' := CX_fr hX (DA_DQ F')
        have hl' : (lpA (ndC B N q d r u fr) i (upA s r fr)).2.length ≤ 6 := lpA_P (P := fun s => s.2.length ≤ 6) (fun p s' hs => by
          show ((fbO B N q u fr p).elim s' fun g => ndB B N q d (r ++ [p]) (u ||| 2 ^ p) g (upA s' (r ++ [p]) g)).2.length ≤ 6
          rcases fbO B N q u fr p with _ | g
          · exact hs
          · exact ndB_len d _ _ _ _ (by simp; omega) (upA_len hs (by simp; omega))) hl i
        have ni : ¬ B 8 3 ≤ i := by omega
        have skip : fbO B N q u fr i = none → lpA (ndC B N q d r u fr) (i + 1) (upA s r fr) = lpA (ndC B N q d r u fr) i (upA s r fr) := fun h => by
          show ((fbO B N q u fr i).elim (lpA (ndC B N q d r u fr) i (upA s r fr)) fun g => ndB B N q d (r ++ [i]) (u ||| 2 ^ i) g (upA (lpA (ndC B N q d r u fr) i (upA s r fr)) (r ++ [i]) g)) = _
          rw [h]
          rfl
        rcases hs1 : sink B N i with _ | t
        · have e1 := x_sk0 X' hb hi hs1
          have hf0 : fbO B N q u fr i = none := by simp [fbO, fb1, hs1]
          refine ⟨nI (i + 1), σ', ?_, rfl, F', by rw [skip hf0]; exact a', R'⟩
          obtain ⟨⟨hW, hT, hS, hC, hN⟩, hD⟩ := X'
          simp (disch := omega) only [jb_some, jli, jif, jd_q, jd_K0, jpi_s, jpi_l, jpi_p, jpl_s, jpl_i, jpl_p, if_true, if_false, if_pos, if_neg, not_true_eq_false, not_false_eq_true, ite_true, ite_false, Nat.not_lt_zero, eq_self, Nat.le_refl, Nat.lt_irrefl, Bool.false_eq_true, or0, jo_pi, jo_pl, jia_pi, jia_pl, jo_cpy, jia_cpy, cpy_r, m_X11_grant, m_X11_refuse, m_X13_good, m_X13_refused, reduceCtorEq, nI_add, nI_leI, nI_ltI, nI_eq, pk_mul, abs_nI, max_nI, min_nI, nI_m1, nI_m2, nI_le1, m1_lt, m2_lt, and_nI, or_nI, an_nI, has_nI, bit_nI, bc_nI, bits_nI, lx0, lx1, lx2, lx3, lx4, lx5, lx6, lx7, lx8, lx9, lx10, lx11, lx16, lx20, lx40, lx60, lx90, lx99, lx100, lx200, lx900, lx999, lx9999, jo_32 hW, jo_33 hW, jo_35 hW, jo_40 hW, jo_41 hW, jo_56 hW, jo_97 hW, jo_100 hW, jo_104 hW, jo_106 hW, jo_108 hW, ja_34 hW, ja_36 hW, ja_37 hW, ja_38 hW, ja_39 hW, ja_42 hW, ja_43 hW, ja_44 hW, ja_45 hW, ja_46 hW, ja_98 hW, ja_99 hW, ja_101 hW, ja_102 hW, ja_103 hW, wr_32_0 hW, wr_32_1 hW, wr_32_2 hW, wr_32_3 hW, wr_32_4 hW, wr_32_5 hW, wr_32_6 hW, wr_32_7 hW, wr_32_8 hW, wr_33_0 hW, wr_35_0 hW, wr_35_1 hW, wr_35_2 hW, wr_35_3 hW, wr_35_4 hW, wr_40_0 hW, wr_40_1 hW, wr_40_2 hW, wr_40_3 hW, wr_40_4 hW, wr_41_0 hW, wr_56_0 hW, wr_56_1 hW, wr_97_0 hW, wr_97_1 hW, wr_100_0 hW, wr_100_1 hW, wr_100_2 hW, wr_104_0 hW, wr_106_0 hW, joT hW hT, jaT1 hW hT, jaT2 hW hT, jaT3 hW hT, jaT4 hW hT, jaT5 hW hT, jaT6 hW hT, jaT7 hW hT, jaT8 hW hT, wrT0 hW hT, wrT1 hW hT, wrT2 hW hT, wrT3 hW hT, wrT4 hW hT, wrT5 hW hT, wrT6 hW hT, wrT7 hW hT, hS, ct_a0 hC, ct_a1 hC, ct_a2 hC, ct_a3 hC, ct_a4 hC, ct_a5 hC, ct_a6 hC, ct_a7 hC, ct_s0 hC, ct_s1 hC, ct_s2 hC, ct_s3 hC, ct_s4 hC, ct_s5 hC, ct_s6 hC, ct_s7 hC, cn_p hN, cn_m hN, cn_l hN, cn_t hN, ni, e1]
        · have e1 := x_sk1 X' hb hi hs1
          rcases hu1 : u.testBit i with _ | _
          · have e2 := x_timeTo X'.1 hb hn hq hi
            have e3 := cd_s1 X'.2 hi hs1
            have e4 := sink_le hb hs1
            have e5 := time_le hb (hn.1 i (by omega)) q
            by_cases hg : max fr t + time B N q i ≤ t + B 8 0
            · have hf1 : fbO B N q u fr i = some (max fr t + time B N q i + time B N q i) := by simp [fbO, fb1, hs1, hu1, hg]
              have p64 := fin_pb u hu i (by omega)
              have F2 : Fr DA L0 σ (jd_pi σ' 99 r.length (nI i)) := Fr_pi F' (Or.inr (Or.inr rfl))
              have A2 : AL (lpA (ndC B N q d r u fr) i (upA s r fr)) (jd_pi σ' 99 r.length (nI i)) := ⟨(pi_ne _ _ (by omega)).trans a'.1, (pi_ne _ _ (by omega)).trans a'.2.1, fun j hj => (pi_ne _ _ (by omega)).trans (a'.2.2 j hj)⟩
              have ll : (r ++ [i]).length = r.length + 1 := by simp
              obtain ⟨σ2, h2, F3, a3, R3⟩ := ih f' (r ++ [i]) (u ||| 2 ^ i) (max fr t + time B N q i + time B N q i) _ _ (by omega) (by omega) p64.2.1 (by omega) hl' (CX_fr hX (DA_DQ F2)) A2 (AR_add R')
              rw [ll] at h2
              have hg' : ¬ t + B 8 0 < max fr t + time B N q i := by omega
              refine ⟨nI (i + 1), σ2, ?_, rfl, Fr_tr F2 F3, ?_, fun j hj => ?_⟩
              · obtain ⟨⟨hW, hT, hS, hC, hN⟩, hD⟩ := X'
                simp (disch := omega) only [jb_some, jli, jif, jd_q, jd_K0, jpi_s, jpi_l, jpi_p, jpl_s, jpl_i, jpl_p, if_true, if_false, if_pos, if_neg, not_true_eq_false, not_false_eq_true, ite_true, ite_false, Nat.not_lt_zero, eq_self, Nat.le_refl, Nat.lt_irrefl, Bool.false_eq_true, or0, jo_pi, jo_pl, jia_pi, jia_pl, jo_cpy, jia_cpy, cpy_r, m_X11_grant, m_X11_refuse, m_X13_good, m_X13_refused, reduceCtorEq, nI_add, nI_leI, nI_ltI, nI_eq, pk_mul, abs_nI, max_nI, min_nI, nI_m1, nI_m2, nI_le1, m1_lt, m2_lt, and_nI, or_nI, an_nI, has_nI, bit_nI, bc_nI, bits_nI, lx0, lx1, lx2, lx3, lx4, lx5, lx6, lx7, lx8, lx9, lx10, lx11, lx16, lx20, lx40, lx60, lx90, lx99, lx100, lx200, lx900, lx999, lx9999, jo_32 hW, jo_33 hW, jo_35 hW, jo_40 hW, jo_41 hW, jo_56 hW, jo_97 hW, jo_100 hW, jo_104 hW, jo_106 hW, jo_108 hW, ja_34 hW, ja_36 hW, ja_37 hW, ja_38 hW, ja_39 hW, ja_42 hW, ja_43 hW, ja_44 hW, ja_45 hW, ja_46 hW, ja_98 hW, ja_99 hW, ja_101 hW, ja_102 hW, ja_103 hW, wr_32_0 hW, wr_32_1 hW, wr_32_2 hW, wr_32_3 hW, wr_32_4 hW, wr_32_5 hW, wr_32_6 hW, wr_32_7 hW, wr_32_8 hW, wr_33_0 hW, wr_35_0 hW, wr_35_1 hW, wr_35_2 hW, wr_35_3 hW, wr_35_4 hW, wr_40_0 hW, wr_40_1 hW, wr_40_2 hW, wr_40_3 hW, wr_40_4 hW, wr_41_0 hW, wr_56_0 hW, wr_56_1 hW, wr_97_0 hW, wr_97_1 hW, wr_100_0 hW, wr_100_1 hW, wr_100_2 hW, wr_104_0 hW, wr_106_0 hW, joT hW hT, jaT1 hW hT, jaT2 hW hT, jaT3 hW hT, jaT4 hW hT, jaT5 hW hT, jaT6 hW hT, jaT7 hW hT, jaT8 hW hT, wrT0 hW hT, wrT1 hW hT, wrT2 hW hT, wrT3 hW hT, wrT4 hW hT, wrT5 hW hT, wrT6 hW hT, wrT7 hW hT, hS, ct_a0 hC, ct_a1 hC, ct_a2 hC, ct_a3 hC, ct_a4 hC, ct_a5 hC, ct_a6 hC, ct_a7 hC, ct_s0 hC, ct_s1 hC, ct_s2 hC, ct_s3 hC, ct_s4 hC, ct_s5 hC, ct_s6 hC, ct_s7 hC, cn_p hN, cn_m hN, cn_l hN, cn_t hN, ni, e1, hu1, e2, e3, hg', ou_nI, h2]
              · show AL ((fbO B N q u fr i).elim (lpA (ndC B N q d r u fr) i (upA s r fr)) fun g => ndB B N q d (r ++ [i]) (u ||| 2 ^ i) g (upA (lpA (ndC B N q d r u fr) i (upA s r fr)) (r ++ [i]) g)) σ2
                rw [hf1]
                exact a3
              · have := R3 j (by omega)
                rw [getD_l hj] at this
                exact this
            · have hf0 : fbO B N q u fr i = none := by simp [fbO, fb1, hs1, hg]
              have hg' : t + B 8 0 < max fr t + time B N q i := by omega
              refine ⟨nI (i + 1), σ', ?_, rfl, F', by rw [skip hf0]; exact a', R'⟩
              obtain ⟨⟨hW, hT, hS, hC, hN⟩, hD⟩ := X'
              simp (disch := omega) only [jb_some, jli, jif, jd_q, jd_K0, jpi_s, jpi_l, jpi_p, jpl_s, jpl_i, jpl_p, if_true, if_false, if_pos, if_neg, not_true_eq_false, not_false_eq_true, ite_true, ite_false, Nat.not_lt_zero, eq_self, Nat.le_refl, Nat.lt_irrefl, Bool.false_eq_true, or0, jo_pi, jo_pl, jia_pi, jia_pl, jo_cpy, jia_cpy, cpy_r, m_X11_grant, m_X11_refuse, m_X13_good, m_X13_refused, reduceCtorEq, nI_add, nI_leI, nI_ltI, nI_eq, pk_mul, abs_nI, max_nI, min_nI, nI_m1, nI_m2, nI_le1, m1_lt, m2_lt, and_nI, or_nI, an_nI, has_nI, bit_nI, bc_nI, bits_nI, lx0, lx1, lx2, lx3, lx4, lx5, lx6, lx7, lx8, lx9, lx10, lx11, lx16, lx20, lx40, lx60, lx90, lx99, lx100, lx200, lx900, lx999, lx9999, jo_32 hW, jo_33 hW, jo_35 hW, jo_40 hW, jo_41 hW, jo_56 hW, jo_97 hW, jo_100 hW, jo_104 hW, jo_106 hW, jo_108 hW, ja_34 hW, ja_36 hW, ja_37 hW, ja_38 hW, ja_39 hW, ja_42 hW, ja_43 hW, ja_44 hW, ja_45 hW, ja_46 hW, ja_98 hW, ja_99 hW, ja_101 hW, ja_102 hW, ja_103 hW, wr_32_0 hW, wr_32_1 hW, wr_32_2 hW, wr_32_3 hW, wr_32_4 hW, wr_32_5 hW, wr_32_6 hW, wr_32_7 hW, wr_32_8 hW, wr_33_0 hW, wr_35_0 hW, wr_35_1 hW, wr_35_2 hW, wr_35_3 hW, wr_35_4 hW, wr_40_0 hW, wr_40_1 hW, wr_40_2 hW, wr_40_3 hW, wr_40_4 hW, wr_41_0 hW, wr_56_0 hW, wr_56_1 hW, wr_97_0 hW, wr_97_1 hW, wr_100_0 hW, wr_100_1 hW, wr_100_2 hW, wr_104_0 hW, wr_106_0 hW, joT hW hT, jaT1 hW hT, jaT2 hW hT, jaT3 hW hT, jaT4 hW hT, jaT5 hW hT, jaT6 hW hT, jaT7 hW hT, jaT8 hW hT, wrT0 hW hT, wrT1 hW hT, wrT2 hW hT, wrT3 hW hT, wrT4 hW hT, wrT5 hW hT, wrT6 hW hT, wrT7 hW hT, hS, ct_a0 hC, ct_a1 hC, ct_a2 hC, ct_a3 hC, ct_a4 hC, ct_a5 hC, ct_a6 hC, ct_a7 hC, ct_s0 hC, ct_s1 hC, ct_s2 hC, ct_s3 hC, ct_s4 hC, ct_s5 hC, ct_s6 hC, ct_s7 hC, cn_p hN, cn_m hN, cn_l hN, cn_t hN, ni, e1, hu1, e2, e3, hg']
          · have hf0 : fbO B N q u fr i = none := by simp [fbO, hu1]
            refine ⟨nI (i + 1), σ', ?_, rfl, F', by rw [skip hf0]; exact a', R'⟩
            obtain ⟨⟨hW, hT, hS, hC, hN⟩, hD⟩ := X'
            simp (disch := omega) only [jb_some, jli, jif, jd_q, jd_K0, jpi_s, jpi_l, jpi_p, jpl_s, jpl_i, jpl_p, if_true, if_false, if_pos, if_neg, not_true_eq_false, not_false_eq_true, ite_true, ite_false, Nat.not_lt_zero, eq_self, Nat.le_refl, Nat.lt_irrefl, Bool.false_eq_true, or0, jo_pi, jo_pl, jia_pi, jia_pl, jo_cpy, jia_cpy, cpy_r, m_X11_grant, m_X11_refuse, m_X13_good, m_X13_refused, reduceCtorEq, nI_add, nI_leI, nI_ltI, nI_eq, pk_mul, abs_nI, max_nI, min_nI, nI_m1, nI_m2, nI_le1, m1_lt, m2_lt, and_nI, or_nI, an_nI, has_nI, bit_nI, bc_nI, bits_nI, lx0, lx1, lx2, lx3, lx4, lx5, lx6, lx7, lx8, lx9, lx10, lx11, lx16, lx20, lx40, lx60, lx90, lx99, lx100, lx200, lx900, lx999, lx9999, jo_32 hW, jo_33 hW, jo_35 hW, jo_40 hW, jo_41 hW, jo_56 hW, jo_97 hW, jo_100 hW, jo_104 hW, jo_106 hW, jo_108 hW, ja_34 hW, ja_36 hW, ja_37 hW, ja_38 hW, ja_39 hW, ja_42 hW, ja_43 hW, ja_44 hW, ja_45 hW, ja_46 hW, ja_98 hW, ja_99 hW, ja_101 hW, ja_102 hW, ja_103 hW, wr_32_0 hW, wr_32_1 hW, wr_32_2 hW, wr_32_3 hW, wr_32_4 hW, wr_32_5 hW, wr_32_6 hW, wr_32_7 hW, wr_32_8 hW, wr_33_0 hW, wr_35_0 hW, wr_35_1 hW, wr_35_2 hW, wr_35_3 hW, wr_35_4 hW, wr_40_0 hW, wr_40_1 hW, wr_40_2 hW, wr_40_3 hW, wr_40_4 hW, wr_41_0 hW, wr_56_0 hW, wr_56_1 hW, wr_97_0 hW, wr_97_1 hW, wr_100_0 hW, wr_100_1 hW, wr_100_2 hW, wr_104_0 hW, wr_106_0 hW, joT hW hT, jaT1 hW hT, jaT2 hW hT, jaT3 hW hT, jaT4 hW hT, jaT5 hW hT, jaT6 hW hT, jaT7 hW hT, jaT8 hW hT, wrT0 hW hT, wrT1 hW hT, wrT2 hW hT, wrT3 hW hT, wrT4 hW hT, wrT5 hW hT, wrT6 hW hT, wrT7 hW hT, hS, ct_a0 hC, ct_a1 hC, ct_a2 hC, ct_a3 hC, ct_a4 hC, ct_a5 hC, ct_a6 hC, ct_a7 hC, ct_s0 hC, ct_s1 hC, ct_s2 hC, ct_s3 hC, ct_s4 hC, ct_s5 hC, ct_s6 hC, ct_s7 hC, cn_p hN, cn_m hN, cn_l hN, cn_t hN, ni, e1, hu1]
      · rintro st σ' ⟨rfl, F', a', R'⟩
        refine ⟨(), σ', ?_, F', a', R'⟩
        obtain ⟨⟨hW, hT, hS, hC, hN⟩, hD⟩ := CX_fr hX (DA_DQ F')
        simp (disch := omega) only [jb_some, jli, jif, jd_q, jd_K0, jpi_s, jpi_l, jpi_p, jpl_s, jpl_i, jpl_p, if_true, if_false, if_pos, if_neg, not_true_eq_false, not_false_eq_true, ite_true, ite_false, Nat.not_lt_zero, eq_self, Nat.le_refl, Nat.lt_irrefl, Bool.false_eq_true, or0, jo_pi, jo_pl, jia_pi, jia_pl, jo_cpy, jia_cpy, cpy_r, m_X11_grant, m_X11_refuse, m_X13_good, m_X13_refused, reduceCtorEq, nI_add, nI_leI, nI_ltI, nI_eq, pk_mul, abs_nI, max_nI, min_nI, nI_m1, nI_m2, nI_le1, m1_lt, m2_lt, and_nI, or_nI, an_nI, has_nI, bit_nI, bc_nI, bits_nI, lx0, lx1, lx2, lx3, lx4, lx5, lx6, lx7, lx8, lx9, lx10, lx11, lx16, lx20, lx40, lx60, lx90, lx99, lx100, lx200, lx900, lx999, lx9999, jo_32 hW, jo_33 hW, jo_35 hW, jo_40 hW, jo_41 hW, jo_56 hW, jo_97 hW, jo_100 hW, jo_104 hW, jo_106 hW, jo_108 hW, ja_34 hW, ja_36 hW, ja_37 hW, ja_38 hW, ja_39 hW, ja_42 hW, ja_43 hW, ja_44 hW, ja_45 hW, ja_46 hW, ja_98 hW, ja_99 hW, ja_101 hW, ja_102 hW, ja_103 hW, wr_32_0 hW, wr_32_1 hW, wr_32_2 hW, wr_32_3 hW, wr_32_4 hW, wr_32_5 hW, wr_32_6 hW, wr_32_7 hW, wr_32_8 hW, wr_33_0 hW, wr_35_0 hW, wr_35_1 hW, wr_35_2 hW, wr_35_3 hW, wr_35_4 hW, wr_40_0 hW, wr_40_1 hW, wr_40_2 hW, wr_40_3 hW, wr_40_4 hW, wr_41_0 hW, wr_56_0 hW, wr_56_1 hW, wr_97_0 hW, wr_97_1 hW, wr_100_0 hW, wr_100_1 hW, wr_100_2 hW, wr_104_0 hW, wr_106_0 hW, joT hW hT, jaT1 hW hT, jaT2 hW hT, jaT3 hW hT, jaT4 hW hT, jaT5 hW hT, jaT6 hW hT, jaT7 hW hT, jaT8 hW hT, wrT0 hW hT, wrT1 hW hT, wrT2 hW hT, wrT3 hW hT, wrT4 hW hT, wrT5 hW hT, wrT6 hW hT, wrT7 hW hT, hS, ct_a0 hC, ct_a1 hC, ct_a2 hC, ct_a3 hC, ct_a4 hC, ct_a5 hC, ct_a6 hC, ct_a7 hC, ct_s0 hC, ct_s1 hC, ct_s2 hC, ct_s3 hC, ct_s4 hC, ct_s5 hC, ct_s6 hC, ct_s7 hC, cn_p hN, cn_m hN, cn_l hN, cn_t hN]
theorem x_search (hX : CX B N T σ) (hb : bOk B) (hn : nOk B N) {q : Nat} (hq : q < B 8 4) : ∃ σ', m_X0_search 97 (some 40) (nI q) σ = some ((), σ') ∧ Fr DA L0 σ σ' ∧ AL (aSt B N q) σ' := by
  have F1 : Fr DA L0 σ (jd_pi σ 97 2 0) := Fr_pi (Fr_refl _) (Or.inl ⟨rfl, Or.inl rfl⟩)
  have F2 : Fr DA L0 σ (jd_pi (jd_pi σ 97 2 0) 97 3 (nI (N 8))) := Fr_pi F1 (Or.inl ⟨rfl, Or.inr rfl⟩)
  have X1 := CX_fr hX (DA_DQ F1)
  have X2 := CX_fr hX (DA_DQ F2)
  have t1 := cn_t X1.1.2.2.2.2
  have t2 := cn_t X2.1.2.2.2.2
  have n8 := hn.2.2.2
  obtain ⟨σ', e, F3, a3, -⟩ := x_extend hb hn hq 6 8 [] 0 (N 8) (N 8, []) _ rfl (by decide) (by decide) n8 (Nat.zero_le 6) X2 ⟨(pi_ne _ _ (by omega)).trans (pi_eq _ _ _ _), pi_eq _ _ _ _, fun i hi => absurd hi (Nat.not_lt_zero i)⟩ (fun i hi => absurd hi (Nat.not_lt_zero i))
  refine ⟨σ', ?_, Fr_tr F2 F3, a3⟩
  have e' : m_X0_extend 8 (some 97) (some 40) (nI q) 0 0 (nI (N 8)) (jd_pi (jd_pi σ 97 2 0) 97 3 (nI (N 8))) = some ((), σ') := e
  have w1 := wr_40_0 X1.1.1
  have w2 := wr_40_0 X2.1.1
  unfold m_X0_search
  rw [jli, jo_40 X1.1.1, w1, jo_41 X1.1.1, t1, jli, w2, jo_41 X2.1.1, t2, e', jb_some]
end
def argQ (f : Nat → Nat) : Nat → Option (Nat × Nat)
  | 0 => none
  | n + 1 => (argQ f n).elim (some (n, f n)) fun x => if f n ≤ x.2 then some x else some (n, f n)
def oQ (o : Option (Nat × Nat)) : Int32 := o.elim (- nI 1) fun x => nI x.2
theorem argQ_le {f : Nat → Nat} {m : Nat} (h : ∀ i, f i ≤ m) : ∀ {n : Nat} {x : Nat × Nat}, argQ f n = some x → x.2 ≤ m
  | 0, x, h1 => absurd h1 (by simp [argQ])
  | n + 1, x, h1 => by
    have h1 : (argQ f n).elim (some (n, f n)) (fun x => if f n ≤ x.2 then some x else some (n, f n)) = some x := h1
    rcases hq : argQ f n with _ | y
    · rw [hq] at h1
      injection h1 with h1
      subst h1
      exact h n
    · rw [hq] at h1
      simp only [Option.elim] at h1
      split at h1
      · injection h1 with h1
        subst h1
        exact argQ_le h hq
      · injection h1 with h1
        subst h1
        exact h n
theorem aSt_len {B : Bch} {N : Nw} (q : Nat) : (aSt B N q).2.length ≤ 6 := ndB_len 6 [] 0 (N 8) _ rfl (Nat.zero_le 6)
def a_alone (o : BO) (q : Int32) : Int32 × Nat := match o with
  | none => (- nI 1, 1)
  | some (B, N) => match ixN q (B 8 4) with
    | none => (- nI 1, 1)
    | some i => (nI (aSt B N i).2.length, 0)
def a_aloneAt (o : BO) (q k : Int32) : Int32 × Nat := match o with
  | none => (- nI 1, 1)
  | some (B, N) => match ixN q (B 8 4) with
    | none => (- nI 1, 1)
    | some i => match ixN k (aSt B N i).2.length with
      | none => (- nI 1, 1)
      | some j => (nI ((aSt B N i).2.getD j 0), 0)
def a_aloneFree (o : BO) (q : Int32) : Int32 × Nat := match o with
  | none => (- nI 1, 1)
  | some (B, N) => match ixN q (B 8 4) with
    | none => (- nI 1, 1)
    | some i => (nI (aSt B N i).1, 0)
def a_bestAlone : BO → Int32 × Nat
  | none => (- nI 1, 1)
  | some (B, N) => (oI (argQ (fun q => (aSt B N q).2.length) (B 8 4)), 0)
set_option maxHeartbeats 2000000 in
theorem X_alone {o : BO} {T : Nat} {σ : jd_Hp} (h : RXc o T σ) (q : Int32) : OX (m_X11_alone 32 q σ) (a_alone o q) σ := by
  obtain ⟨hW, h⟩ := h
  unfold m_X11_alone
  rcases o with _ | ⟨B, N⟩
  · have h10 : σ.2.1 32 10 = nI 0 := h
    simp (disch := omega) only [jb_some, jli, jif, jd_q, jd_K0, jpi_s, jpi_l, jpi_p, jpl_s, jpl_i, jpl_p, if_true, if_false, if_pos, if_neg, not_true_eq_false, not_false_eq_true, ite_true, ite_false, Nat.not_lt_zero, eq_self, Nat.le_refl, Nat.lt_irrefl, Bool.false_eq_true, or0, jo_pi, jo_pl, jia_pi, jia_pl, jo_cpy, jia_cpy, cpy_r, m_X11_grant, m_X11_refuse, m_X13_good, m_X13_refused, reduceCtorEq, nI_add, nI_leI, nI_ltI, nI_eq, pk_mul, abs_nI, max_nI, min_nI, nI_m1, nI_m2, nI_le1, m1_lt, m2_lt, and_nI, or_nI, an_nI, has_nI, bit_nI, bc_nI, bits_nI, lx0, lx1, lx2, lx3, lx4, lx5, lx6, lx7, lx8, lx9, lx10, lx11, lx16, lx20, lx40, lx60, lx90, lx99, lx100, lx200, lx900, lx999, lx9999, jo_32 hW, jo_33 hW, jo_35 hW, jo_40 hW, jo_41 hW, jo_56 hW, jo_97 hW, jo_100 hW, jo_104 hW, jo_106 hW, jo_108 hW, ja_34 hW, ja_36 hW, ja_37 hW, ja_38 hW, ja_39 hW, ja_42 hW, ja_43 hW, ja_44 hW, ja_45 hW, ja_46 hW, ja_98 hW, ja_99 hW, ja_101 hW, ja_102 hW, ja_103 hW, wr_32_0 hW, wr_32_1 hW, wr_32_2 hW, wr_32_3 hW, wr_32_4 hW, wr_32_5 hW, wr_32_6 hW, wr_32_7 hW, wr_32_8 hW, wr_33_0 hW, wr_35_0 hW, wr_35_1 hW, wr_35_2 hW, wr_35_3 hW, wr_35_4 hW, wr_40_0 hW, wr_40_1 hW, wr_40_2 hW, wr_40_3 hW, wr_40_4 hW, wr_41_0 hW, wr_56_0 hW, wr_56_1 hW, wr_97_0 hW, wr_97_1 hW, wr_100_0 hW, wr_100_1 hW, wr_100_2 hW, wr_104_0 hW, wr_106_0 hW, h10, m_X11_isPerson, m_X11_isPost]
    exact OX_of (Fr_refl _)
  · obtain ⟨h10, hX, hb, hn, hG⟩ : σ.2.1 32 10 = nI 1 ∧ CX B N T σ ∧ bOk B ∧ nOk B N ∧ SG B σ := h
    have hb2 := hb.2.1
    have hb3 := hb.2.2.1
    have ePe := x_isPerson hX h10 hb
    have ePo := x_isPost hX h10 hb
    show OX _ (a_alone (some (B, N)) q) σ
    unfold a_alone
    rcases hi : ixN q (B 8 4) with _ | i
    · simp (disch := omega) only [jb_some, jli, jif, jd_q, jd_K0, jpi_s, jpi_l, jpi_p, jpl_s, jpl_i, jpl_p, if_true, if_false, if_pos, if_neg, not_true_eq_false, not_false_eq_true, ite_true, ite_false, Nat.not_lt_zero, eq_self, Nat.le_refl, Nat.lt_irrefl, Bool.false_eq_true, or0, jo_pi, jo_pl, jia_pi, jia_pl, jo_cpy, jia_cpy, cpy_r, m_X11_grant, m_X11_refuse, m_X13_good, m_X13_refused, reduceCtorEq, nI_add, nI_leI, nI_ltI, nI_eq, pk_mul, abs_nI, max_nI, min_nI, nI_m1, nI_m2, nI_le1, m1_lt, m2_lt, and_nI, or_nI, an_nI, has_nI, bit_nI, bc_nI, bits_nI, lx0, lx1, lx2, lx3, lx4, lx5, lx6, lx7, lx8, lx9, lx10, lx11, lx16, lx20, lx40, lx60, lx90, lx99, lx100, lx200, lx900, lx999, lx9999, jo_32 hW, jo_33 hW, jo_35 hW, jo_40 hW, jo_41 hW, jo_56 hW, jo_97 hW, jo_100 hW, jo_104 hW, jo_106 hW, jo_108 hW, ja_34 hW, ja_36 hW, ja_37 hW, ja_38 hW, ja_39 hW, ja_42 hW, ja_43 hW, ja_44 hW, ja_45 hW, ja_46 hW, ja_98 hW, ja_99 hW, ja_101 hW, ja_102 hW, ja_103 hW, wr_32_0 hW, wr_32_1 hW, wr_32_2 hW, wr_32_3 hW, wr_32_4 hW, wr_32_5 hW, wr_32_6 hW, wr_32_7 hW, wr_32_8 hW, wr_33_0 hW, wr_35_0 hW, wr_35_1 hW, wr_35_2 hW, wr_35_3 hW, wr_35_4 hW, wr_40_0 hW, wr_40_1 hW, wr_40_2 hW, wr_40_3 hW, wr_40_4 hW, wr_41_0 hW, wr_56_0 hW, wr_56_1 hW, wr_97_0 hW, wr_97_1 hW, wr_100_0 hW, wr_100_1 hW, wr_100_2 hW, wr_104_0 hW, wr_106_0 hW, h10, ePo, hi, Option.isSome]
      exact OX_of (Fr_refl _)
    · obtain ⟨h1, rfl⟩ := ixN_some hi
      obtain ⟨σ', e, F, a1, a2, a3⟩ := x_search hX hb hn h1
      have hW' := Fr_Wd F hW
      simp (disch := omega) only [jb_some, jli, jif, jd_q, jd_K0, jpi_s, jpi_l, jpi_p, jpl_s, jpl_i, jpl_p, if_true, if_false, if_pos, if_neg, not_true_eq_false, not_false_eq_true, ite_true, ite_false, Nat.not_lt_zero, eq_self, Nat.le_refl, Nat.lt_irrefl, Bool.false_eq_true, or0, jo_pi, jo_pl, jia_pi, jia_pl, jo_cpy, jia_cpy, cpy_r, m_X11_grant, m_X11_refuse, m_X13_good, m_X13_refused, reduceCtorEq, nI_add, nI_leI, nI_ltI, nI_eq, pk_mul, abs_nI, max_nI, min_nI, nI_m1, nI_m2, nI_le1, m1_lt, m2_lt, and_nI, or_nI, an_nI, has_nI, bit_nI, bc_nI, bits_nI, lx0, lx1, lx2, lx3, lx4, lx5, lx6, lx7, lx8, lx9, lx10, lx11, lx16, lx20, lx40, lx60, lx90, lx99, lx100, lx200, lx900, lx999, lx9999, jo_32 hW, jo_33 hW, jo_35 hW, jo_40 hW, jo_41 hW, jo_56 hW, jo_97 hW, jo_100 hW, jo_104 hW, jo_106 hW, jo_108 hW, ja_34 hW, ja_36 hW, ja_37 hW, ja_38 hW, ja_39 hW, ja_42 hW, ja_43 hW, ja_44 hW, ja_45 hW, ja_46 hW, ja_98 hW, ja_99 hW, ja_101 hW, ja_102 hW, ja_103 hW, wr_32_0 hW, wr_32_1 hW, wr_32_2 hW, wr_32_3 hW, wr_32_4 hW, wr_32_5 hW, wr_32_6 hW, wr_32_7 hW, wr_32_8 hW, wr_33_0 hW, wr_35_0 hW, wr_35_1 hW, wr_35_2 hW, wr_35_3 hW, wr_35_4 hW, wr_40_0 hW, wr_40_1 hW, wr_40_2 hW, wr_40_3 hW, wr_40_4 hW, wr_41_0 hW, wr_56_0 hW, wr_56_1 hW, wr_97_0 hW, wr_97_1 hW, wr_100_0 hW, wr_100_1 hW, wr_100_2 hW, wr_104_0 hW, wr_106_0 hW, h10, ePo, hi, Option.isSome, e, a1, wr_32_4 hW', jo_97 hW']
      exact OX_of (DA_DQ F)
set_option maxHeartbeats 2000000 in
theorem X_aloneAt {o : BO} {T : Nat} {σ : jd_Hp} (h : RXc o T σ) (q : Int32) (k : Int32) : OX (m_X11_aloneAt 32 q k σ) (a_aloneAt o q k) σ := by
  obtain ⟨hW, h⟩ := h
  unfold m_X11_aloneAt
  rcases o with _ | ⟨B, N⟩
  · have h10 : σ.2.1 32 10 = nI 0 := h
    simp (disch := omega) only [jb_some, jli, jif, jd_q, jd_K0, jpi_s, jpi_l, jpi_p, jpl_s, jpl_i, jpl_p, if_true, if_false, if_pos, if_neg, not_true_eq_false, not_false_eq_true, ite_true, ite_false, Nat.not_lt_zero, eq_self, Nat.le_refl, Nat.lt_irrefl, Bool.false_eq_true, or0, jo_pi, jo_pl, jia_pi, jia_pl, jo_cpy, jia_cpy, cpy_r, m_X11_grant, m_X11_refuse, m_X13_good, m_X13_refused, reduceCtorEq, nI_add, nI_leI, nI_ltI, nI_eq, pk_mul, abs_nI, max_nI, min_nI, nI_m1, nI_m2, nI_le1, m1_lt, m2_lt, and_nI, or_nI, an_nI, has_nI, bit_nI, bc_nI, bits_nI, lx0, lx1, lx2, lx3, lx4, lx5, lx6, lx7, lx8, lx9, lx10, lx11, lx16, lx20, lx40, lx60, lx90, lx99, lx100, lx200, lx900, lx999, lx9999, jo_32 hW, jo_33 hW, jo_35 hW, jo_40 hW, jo_41 hW, jo_56 hW, jo_97 hW, jo_100 hW, jo_104 hW, jo_106 hW, jo_108 hW, ja_34 hW, ja_36 hW, ja_37 hW, ja_38 hW, ja_39 hW, ja_42 hW, ja_43 hW, ja_44 hW, ja_45 hW, ja_46 hW, ja_98 hW, ja_99 hW, ja_101 hW, ja_102 hW, ja_103 hW, wr_32_0 hW, wr_32_1 hW, wr_32_2 hW, wr_32_3 hW, wr_32_4 hW, wr_32_5 hW, wr_32_6 hW, wr_32_7 hW, wr_32_8 hW, wr_33_0 hW, wr_35_0 hW, wr_35_1 hW, wr_35_2 hW, wr_35_3 hW, wr_35_4 hW, wr_40_0 hW, wr_40_1 hW, wr_40_2 hW, wr_40_3 hW, wr_40_4 hW, wr_41_0 hW, wr_56_0 hW, wr_56_1 hW, wr_97_0 hW, wr_97_1 hW, wr_100_0 hW, wr_100_1 hW, wr_100_2 hW, wr_104_0 hW, wr_106_0 hW, h10, m_X11_isPerson, m_X11_isPost]
    exact OX_of (Fr_refl _)
  · obtain ⟨h10, hX, hb, hn, hG⟩ : σ.2.1 32 10 = nI 1 ∧ CX B N T σ ∧ bOk B ∧ nOk B N ∧ SG B σ := h
    have hb2 := hb.2.1
    have hb3 := hb.2.2.1
    have ePe := x_isPerson hX h10 hb
    have ePo := x_isPost hX h10 hb
    show OX _ (a_aloneAt (some (B, N)) q k) σ
    unfold a_aloneAt
    rcases hi : ixN q (B 8 4) with _ | i
    · simp (disch := omega) only [jb_some, jli, jif, jd_q, jd_K0, jpi_s, jpi_l, jpi_p, jpl_s, jpl_i, jpl_p, if_true, if_false, if_pos, if_neg, not_true_eq_false, not_false_eq_true, ite_true, ite_false, Nat.not_lt_zero, eq_self, Nat.le_refl, Nat.lt_irrefl, Bool.false_eq_true, or0, jo_pi, jo_pl, jia_pi, jia_pl, jo_cpy, jia_cpy, cpy_r, m_X11_grant, m_X11_refuse, m_X13_good, m_X13_refused, reduceCtorEq, nI_add, nI_leI, nI_ltI, nI_eq, pk_mul, abs_nI, max_nI, min_nI, nI_m1, nI_m2, nI_le1, m1_lt, m2_lt, and_nI, or_nI, an_nI, has_nI, bit_nI, bc_nI, bits_nI, lx0, lx1, lx2, lx3, lx4, lx5, lx6, lx7, lx8, lx9, lx10, lx11, lx16, lx20, lx40, lx60, lx90, lx99, lx100, lx200, lx900, lx999, lx9999, jo_32 hW, jo_33 hW, jo_35 hW, jo_40 hW, jo_41 hW, jo_56 hW, jo_97 hW, jo_100 hW, jo_104 hW, jo_106 hW, jo_108 hW, ja_34 hW, ja_36 hW, ja_37 hW, ja_38 hW, ja_39 hW, ja_42 hW, ja_43 hW, ja_44 hW, ja_45 hW, ja_46 hW, ja_98 hW, ja_99 hW, ja_101 hW, ja_102 hW, ja_103 hW, wr_32_0 hW, wr_32_1 hW, wr_32_2 hW, wr_32_3 hW, wr_32_4 hW, wr_32_5 hW, wr_32_6 hW, wr_32_7 hW, wr_32_8 hW, wr_33_0 hW, wr_35_0 hW, wr_35_1 hW, wr_35_2 hW, wr_35_3 hW, wr_35_4 hW, wr_40_0 hW, wr_40_1 hW, wr_40_2 hW, wr_40_3 hW, wr_40_4 hW, wr_41_0 hW, wr_56_0 hW, wr_56_1 hW, wr_97_0 hW, wr_97_1 hW, wr_100_0 hW, wr_100_1 hW, wr_100_2 hW, wr_104_0 hW, wr_106_0 hW, h10, ePo, hi, Option.isSome]
      exact OX_of (Fr_refl _)
    · obtain ⟨h1, rfl⟩ := ixN_some hi
      obtain ⟨σ', e, F, a1, a2, a3⟩ := x_search hX hb hn h1
      have hW' := Fr_Wd F hW
      have l6 := aSt_len (B := B) (N := N) i
      rcases hj : ixN k (aSt B N i).2.length with _ | j
      · rcases ixN_none (by omega) hj with h2 | ⟨h2, h3⟩
        · simp (disch := omega) only [jb_some, jli, jif, jd_q, jd_K0, jpi_s, jpi_l, jpi_p, jpl_s, jpl_i, jpl_p, if_true, if_false, if_pos, if_neg, not_true_eq_false, not_false_eq_true, ite_true, ite_false, Nat.not_lt_zero, eq_self, Nat.le_refl, Nat.lt_irrefl, Bool.false_eq_true, or0, jo_pi, jo_pl, jia_pi, jia_pl, jo_cpy, jia_cpy, cpy_r, m_X11_grant, m_X11_refuse, m_X13_good, m_X13_refused, reduceCtorEq, nI_add, nI_leI, nI_ltI, nI_eq, pk_mul, abs_nI, max_nI, min_nI, nI_m1, nI_m2, nI_le1, m1_lt, m2_lt, and_nI, or_nI, an_nI, has_nI, bit_nI, bc_nI, bits_nI, lx0, lx1, lx2, lx3, lx4, lx5, lx6, lx7, lx8, lx9, lx10, lx11, lx16, lx20, lx40, lx60, lx90, lx99, lx100, lx200, lx900, lx999, lx9999, jo_32 hW, jo_33 hW, jo_35 hW, jo_40 hW, jo_41 hW, jo_56 hW, jo_97 hW, jo_100 hW, jo_104 hW, jo_106 hW, jo_108 hW, ja_34 hW, ja_36 hW, ja_37 hW, ja_38 hW, ja_39 hW, ja_42 hW, ja_43 hW, ja_44 hW, ja_45 hW, ja_46 hW, ja_98 hW, ja_99 hW, ja_101 hW, ja_102 hW, ja_103 hW, wr_32_0 hW, wr_32_1 hW, wr_32_2 hW, wr_32_3 hW, wr_32_4 hW, wr_32_5 hW, wr_32_6 hW, wr_32_7 hW, wr_32_8 hW, wr_33_0 hW, wr_35_0 hW, wr_35_1 hW, wr_35_2 hW, wr_35_3 hW, wr_35_4 hW, wr_40_0 hW, wr_40_1 hW, wr_40_2 hW, wr_40_3 hW, wr_40_4 hW, wr_41_0 hW, wr_56_0 hW, wr_56_1 hW, wr_97_0 hW, wr_97_1 hW, wr_100_0 hW, wr_100_1 hW, wr_100_2 hW, wr_104_0 hW, wr_106_0 hW, h10, ePo, hi, hj, Option.isSome, e, a1, h2, wr_32_4 hW', jo_97 hW']
          exact OX_of (DA_DQ F)
        · have h3' := Int32.not_lt.mpr h3
          simp (disch := omega) only [jb_some, jli, jif, jd_q, jd_K0, jpi_s, jpi_l, jpi_p, jpl_s, jpl_i, jpl_p, if_true, if_false, if_pos, if_neg, not_true_eq_false, not_false_eq_true, ite_true, ite_false, Nat.not_lt_zero, eq_self, Nat.le_refl, Nat.lt_irrefl, Bool.false_eq_true, or0, jo_pi, jo_pl, jia_pi, jia_pl, jo_cpy, jia_cpy, cpy_r, m_X11_grant, m_X11_refuse, m_X13_good, m_X13_refused, reduceCtorEq, nI_add, nI_leI, nI_ltI, nI_eq, pk_mul, abs_nI, max_nI, min_nI, nI_m1, nI_m2, nI_le1, m1_lt, m2_lt, and_nI, or_nI, an_nI, has_nI, bit_nI, bc_nI, bits_nI, lx0, lx1, lx2, lx3, lx4, lx5, lx6, lx7, lx8, lx9, lx10, lx11, lx16, lx20, lx40, lx60, lx90, lx99, lx100, lx200, lx900, lx999, lx9999, jo_32 hW, jo_33 hW, jo_35 hW, jo_40 hW, jo_41 hW, jo_56 hW, jo_97 hW, jo_100 hW, jo_104 hW, jo_106 hW, jo_108 hW, ja_34 hW, ja_36 hW, ja_37 hW, ja_38 hW, ja_39 hW, ja_42 hW, ja_43 hW, ja_44 hW, ja_45 hW, ja_46 hW, ja_98 hW, ja_99 hW, ja_101 hW, ja_102 hW, ja_103 hW, wr_32_0 hW, wr_32_1 hW, wr_32_2 hW, wr_32_3 hW, wr_32_4 hW, wr_32_5 hW, wr_32_6 hW, wr_32_7 hW, wr_32_8 hW, wr_33_0 hW, wr_35_0 hW, wr_35_1 hW, wr_35_2 hW, wr_35_3 hW, wr_35_4 hW, wr_40_0 hW, wr_40_1 hW, wr_40_2 hW, wr_40_3 hW, wr_40_4 hW, wr_41_0 hW, wr_56_0 hW, wr_56_1 hW, wr_97_0 hW, wr_97_1 hW, wr_100_0 hW, wr_100_1 hW, wr_100_2 hW, wr_104_0 hW, wr_106_0 hW, h10, ePo, hi, hj, Option.isSome, e, a1, h2, h3', wr_32_4 hW', jo_97 hW']
          exact OX_of (DA_DQ F)
      · obtain ⟨h2, rfl⟩ := ixN_some hj
        have a4 := a3 j h2
        simp (disch := omega) only [jb_some, jli, jif, jd_q, jd_K0, jpi_s, jpi_l, jpi_p, jpl_s, jpl_i, jpl_p, if_true, if_false, if_pos, if_neg, not_true_eq_false, not_false_eq_true, ite_true, ite_false, Nat.not_lt_zero, eq_self, Nat.le_refl, Nat.lt_irrefl, Bool.false_eq_true, or0, jo_pi, jo_pl, jia_pi, jia_pl, jo_cpy, jia_cpy, cpy_r, m_X11_grant, m_X11_refuse, m_X13_good, m_X13_refused, reduceCtorEq, nI_add, nI_leI, nI_ltI, nI_eq, pk_mul, abs_nI, max_nI, min_nI, nI_m1, nI_m2, nI_le1, m1_lt, m2_lt, and_nI, or_nI, an_nI, has_nI, bit_nI, bc_nI, bits_nI, lx0, lx1, lx2, lx3, lx4, lx5, lx6, lx7, lx8, lx9, lx10, lx11, lx16, lx20, lx40, lx60, lx90, lx99, lx100, lx200, lx900, lx999, lx9999, jo_32 hW, jo_33 hW, jo_35 hW, jo_40 hW, jo_41 hW, jo_56 hW, jo_97 hW, jo_100 hW, jo_104 hW, jo_106 hW, jo_108 hW, ja_34 hW, ja_36 hW, ja_37 hW, ja_38 hW, ja_39 hW, ja_42 hW, ja_43 hW, ja_44 hW, ja_45 hW, ja_46 hW, ja_98 hW, ja_99 hW, ja_101 hW, ja_102 hW, ja_103 hW, wr_32_0 hW, wr_32_1 hW, wr_32_2 hW, wr_32_3 hW, wr_32_4 hW, wr_32_5 hW, wr_32_6 hW, wr_32_7 hW, wr_32_8 hW, wr_33_0 hW, wr_35_0 hW, wr_35_1 hW, wr_35_2 hW, wr_35_3 hW, wr_35_4 hW, wr_40_0 hW, wr_40_1 hW, wr_40_2 hW, wr_40_3 hW, wr_40_4 hW, wr_41_0 hW, wr_56_0 hW, wr_56_1 hW, wr_97_0 hW, wr_97_1 hW, wr_100_0 hW, wr_100_1 hW, wr_100_2 hW, wr_104_0 hW, wr_106_0 hW, h10, ePo, hi, hj, Option.isSome, e, a1, a4, h2, wr_32_4 hW', jo_97 hW', wr_97_0 hW', ja_98 hW']
        exact OX_of (DA_DQ F)
set_option maxHeartbeats 2000000 in
theorem X_aloneFree {o : BO} {T : Nat} {σ : jd_Hp} (h : RXc o T σ) (q : Int32) : OX (m_X11_aloneFree 32 q σ) (a_aloneFree o q) σ := by
  obtain ⟨hW, h⟩ := h
  unfold m_X11_aloneFree
  rcases o with _ | ⟨B, N⟩
  · have h10 : σ.2.1 32 10 = nI 0 := h
    simp (disch := omega) only [jb_some, jli, jif, jd_q, jd_K0, jpi_s, jpi_l, jpi_p, jpl_s, jpl_i, jpl_p, if_true, if_false, if_pos, if_neg, not_true_eq_false, not_false_eq_true, ite_true, ite_false, Nat.not_lt_zero, eq_self, Nat.le_refl, Nat.lt_irrefl, Bool.false_eq_true, or0, jo_pi, jo_pl, jia_pi, jia_pl, jo_cpy, jia_cpy, cpy_r, m_X11_grant, m_X11_refuse, m_X13_good, m_X13_refused, reduceCtorEq, nI_add, nI_leI, nI_ltI, nI_eq, pk_mul, abs_nI, max_nI, min_nI, nI_m1, nI_m2, nI_le1, m1_lt, m2_lt, and_nI, or_nI, an_nI, has_nI, bit_nI, bc_nI, bits_nI, lx0, lx1, lx2, lx3, lx4, lx5, lx6, lx7, lx8, lx9, lx10, lx11, lx16, lx20, lx40, lx60, lx90, lx99, lx100, lx200, lx900, lx999, lx9999, jo_32 hW, jo_33 hW, jo_35 hW, jo_40 hW, jo_41 hW, jo_56 hW, jo_97 hW, jo_100 hW, jo_104 hW, jo_106 hW, jo_108 hW, ja_34 hW, ja_36 hW, ja_37 hW, ja_38 hW, ja_39 hW, ja_42 hW, ja_43 hW, ja_44 hW, ja_45 hW, ja_46 hW, ja_98 hW, ja_99 hW, ja_101 hW, ja_102 hW, ja_103 hW, wr_32_0 hW, wr_32_1 hW, wr_32_2 hW, wr_32_3 hW, wr_32_4 hW, wr_32_5 hW, wr_32_6 hW, wr_32_7 hW, wr_32_8 hW, wr_33_0 hW, wr_35_0 hW, wr_35_1 hW, wr_35_2 hW, wr_35_3 hW, wr_35_4 hW, wr_40_0 hW, wr_40_1 hW, wr_40_2 hW, wr_40_3 hW, wr_40_4 hW, wr_41_0 hW, wr_56_0 hW, wr_56_1 hW, wr_97_0 hW, wr_97_1 hW, wr_100_0 hW, wr_100_1 hW, wr_100_2 hW, wr_104_0 hW, wr_106_0 hW, h10, m_X11_isPerson, m_X11_isPost]
    exact OX_of (Fr_refl _)
  · obtain ⟨h10, hX, hb, hn, hG⟩ : σ.2.1 32 10 = nI 1 ∧ CX B N T σ ∧ bOk B ∧ nOk B N ∧ SG B σ := h
    have hb2 := hb.2.1
    have hb3 := hb.2.2.1
    have ePe := x_isPerson hX h10 hb
    have ePo := x_isPost hX h10 hb
    show OX _ (a_aloneFree (some (B, N)) q) σ
    unfold a_aloneFree
    rcases hi : ixN q (B 8 4) with _ | i
    · simp (disch := omega) only [jb_some, jli, jif, jd_q, jd_K0, jpi_s, jpi_l, jpi_p, jpl_s, jpl_i, jpl_p, if_true, if_false, if_pos, if_neg, not_true_eq_false, not_false_eq_true, ite_true, ite_false, Nat.not_lt_zero, eq_self, Nat.le_refl, Nat.lt_irrefl, Bool.false_eq_true, or0, jo_pi, jo_pl, jia_pi, jia_pl, jo_cpy, jia_cpy, cpy_r, m_X11_grant, m_X11_refuse, m_X13_good, m_X13_refused, reduceCtorEq, nI_add, nI_leI, nI_ltI, nI_eq, pk_mul, abs_nI, max_nI, min_nI, nI_m1, nI_m2, nI_le1, m1_lt, m2_lt, and_nI, or_nI, an_nI, has_nI, bit_nI, bc_nI, bits_nI, lx0, lx1, lx2, lx3, lx4, lx5, lx6, lx7, lx8, lx9, lx10, lx11, lx16, lx20, lx40, lx60, lx90, lx99, lx100, lx200, lx900, lx999, lx9999, jo_32 hW, jo_33 hW, jo_35 hW, jo_40 hW, jo_41 hW, jo_56 hW, jo_97 hW, jo_100 hW, jo_104 hW, jo_106 hW, jo_108 hW, ja_34 hW, ja_36 hW, ja_37 hW, ja_38 hW, ja_39 hW, ja_42 hW, ja_43 hW, ja_44 hW, ja_45 hW, ja_46 hW, ja_98 hW, ja_99 hW, ja_101 hW, ja_102 hW, ja_103 hW, wr_32_0 hW, wr_32_1 hW, wr_32_2 hW, wr_32_3 hW, wr_32_4 hW, wr_32_5 hW, wr_32_6 hW, wr_32_7 hW, wr_32_8 hW, wr_33_0 hW, wr_35_0 hW, wr_35_1 hW, wr_35_2 hW, wr_35_3 hW, wr_35_4 hW, wr_40_0 hW, wr_40_1 hW, wr_40_2 hW, wr_40_3 hW, wr_40_4 hW, wr_41_0 hW, wr_56_0 hW, wr_56_1 hW, wr_97_0 hW, wr_97_1 hW, wr_100_0 hW, wr_100_1 hW, wr_100_2 hW, wr_104_0 hW, wr_106_0 hW, h10, ePo, hi, Option.isSome]
      exact OX_of (Fr_refl _)
    · obtain ⟨h1, rfl⟩ := ixN_some hi
      obtain ⟨σ', e, F, a1, a2, a3⟩ := x_search hX hb hn h1
      have hW' := Fr_Wd F hW
      simp (disch := omega) only [jb_some, jli, jif, jd_q, jd_K0, jpi_s, jpi_l, jpi_p, jpl_s, jpl_i, jpl_p, if_true, if_false, if_pos, if_neg, not_true_eq_false, not_false_eq_true, ite_true, ite_false, Nat.not_lt_zero, eq_self, Nat.le_refl, Nat.lt_irrefl, Bool.false_eq_true, or0, jo_pi, jo_pl, jia_pi, jia_pl, jo_cpy, jia_cpy, cpy_r, m_X11_grant, m_X11_refuse, m_X13_good, m_X13_refused, reduceCtorEq, nI_add, nI_leI, nI_ltI, nI_eq, pk_mul, abs_nI, max_nI, min_nI, nI_m1, nI_m2, nI_le1, m1_lt, m2_lt, and_nI, or_nI, an_nI, has_nI, bit_nI, bc_nI, bits_nI, lx0, lx1, lx2, lx3, lx4, lx5, lx6, lx7, lx8, lx9, lx10, lx11, lx16, lx20, lx40, lx60, lx90, lx99, lx100, lx200, lx900, lx999, lx9999, jo_32 hW, jo_33 hW, jo_35 hW, jo_40 hW, jo_41 hW, jo_56 hW, jo_97 hW, jo_100 hW, jo_104 hW, jo_106 hW, jo_108 hW, ja_34 hW, ja_36 hW, ja_37 hW, ja_38 hW, ja_39 hW, ja_42 hW, ja_43 hW, ja_44 hW, ja_45 hW, ja_46 hW, ja_98 hW, ja_99 hW, ja_101 hW, ja_102 hW, ja_103 hW, wr_32_0 hW, wr_32_1 hW, wr_32_2 hW, wr_32_3 hW, wr_32_4 hW, wr_32_5 hW, wr_32_6 hW, wr_32_7 hW, wr_32_8 hW, wr_33_0 hW, wr_35_0 hW, wr_35_1 hW, wr_35_2 hW, wr_35_3 hW, wr_35_4 hW, wr_40_0 hW, wr_40_1 hW, wr_40_2 hW, wr_40_3 hW, wr_40_4 hW, wr_41_0 hW, wr_56_0 hW, wr_56_1 hW, wr_97_0 hW, wr_97_1 hW, wr_100_0 hW, wr_100_1 hW, wr_100_2 hW, wr_104_0 hW, wr_106_0 hW, h10, ePo, hi, Option.isSome, e, a2, wr_32_4 hW', jo_97 hW']
      exact OX_of (DA_DQ F)
set_option maxHeartbeats 2000000 in
theorem X_bestAlone {o : BO} {T : Nat} {σ : jd_Hp} (h : RXc o T σ)  : OX (m_X11_bestAlone 32 σ) (a_bestAlone o) σ := by
  obtain ⟨hW, h⟩ := h
  unfold m_X11_bestAlone
  rcases o with _ | ⟨B, N⟩
  · have h10 : σ.2.1 32 10 = nI 0 := h
    simp (disch := omega) only [jb_some, jli, jif, jd_q, jd_K0, jpi_s, jpi_l, jpi_p, jpl_s, jpl_i, jpl_p, if_true, if_false, if_pos, if_neg, not_true_eq_false, not_false_eq_true, ite_true, ite_false, Nat.not_lt_zero, eq_self, Nat.le_refl, Nat.lt_irrefl, Bool.false_eq_true, or0, jo_pi, jo_pl, jia_pi, jia_pl, jo_cpy, jia_cpy, cpy_r, m_X11_grant, m_X11_refuse, m_X13_good, m_X13_refused, reduceCtorEq, nI_add, nI_leI, nI_ltI, nI_eq, pk_mul, abs_nI, max_nI, min_nI, nI_m1, nI_m2, nI_le1, m1_lt, m2_lt, and_nI, or_nI, an_nI, has_nI, bit_nI, bc_nI, bits_nI, lx0, lx1, lx2, lx3, lx4, lx5, lx6, lx7, lx8, lx9, lx10, lx11, lx16, lx20, lx40, lx60, lx90, lx99, lx100, lx200, lx900, lx999, lx9999, jo_32 hW, jo_33 hW, jo_35 hW, jo_40 hW, jo_41 hW, jo_56 hW, jo_97 hW, jo_100 hW, jo_104 hW, jo_106 hW, jo_108 hW, ja_34 hW, ja_36 hW, ja_37 hW, ja_38 hW, ja_39 hW, ja_42 hW, ja_43 hW, ja_44 hW, ja_45 hW, ja_46 hW, ja_98 hW, ja_99 hW, ja_101 hW, ja_102 hW, ja_103 hW, wr_32_0 hW, wr_32_1 hW, wr_32_2 hW, wr_32_3 hW, wr_32_4 hW, wr_32_5 hW, wr_32_6 hW, wr_32_7 hW, wr_32_8 hW, wr_33_0 hW, wr_35_0 hW, wr_35_1 hW, wr_35_2 hW, wr_35_3 hW, wr_35_4 hW, wr_40_0 hW, wr_40_1 hW, wr_40_2 hW, wr_40_3 hW, wr_40_4 hW, wr_41_0 hW, wr_56_0 hW, wr_56_1 hW, wr_97_0 hW, wr_97_1 hW, wr_100_0 hW, wr_100_1 hW, wr_100_2 hW, wr_104_0 hW, wr_106_0 hW, h10, m_X11_isPerson, m_X11_isPost]
    exact OX_of (Fr_refl _)
  · obtain ⟨h10, hX, hb, hn, hG⟩ : σ.2.1 32 10 = nI 1 ∧ CX B N T σ ∧ bOk B ∧ nOk B N ∧ SG B σ := h
    have hb2 := hb.2.1
    have hb3 := hb.2.2.1
    have ePe := x_isPerson hX h10 hb
    have ePo := x_isPost hX h10 hb
    show OX _ (a_bestAlone (some (B, N))) σ
    unfold a_bestAlone
    have one := jlp_inv (body := fun (s1 : Int32 × Int32 × Int32) σ1 =>
jd_o σ1 (11, 12) (some 32) fun a3 =>
jd_o σ1 (6, 8) (σ1.2.2.2 a3 2) fun a4 =>
jd_o σ1 (10, 16) (σ1.2.2.2 a4 5) fun a5 =>
jd_if ((σ1.2.1 a5 12) ≤ s1.2.2) (
some ((Sum.inr s1.1), σ1)) (
jd_o σ1 (0, 4) (σ1.2.2.2 a3 4) fun a6 =>
jd_b (m_X0_search a6 (σ1.2.2.2 a3 2) s1.2.2 σ1) fun r7 σ7 =>
jd_o σ7 (0, 4) (σ7.2.2.2 a3 4) fun a8 =>
jd_if ((σ7.2.1 a8 2) ≤ s1.2.1) (
some (Sum.inl (s1.1, s1.2.1, (s1.2.2 + 1)), σ7)) (
jd_li (σ7.2.1 a8 2) fun x9 =>
some (Sum.inl (s1.2.2, x9, (s1.2.2 + 1)), σ7)))) (B 8 4) (fun i st σ' => st = (oI (argQ (fun q => (aSt B N q).2.length) i), oQ (argQ (fun q => (aSt B N q).2.length) i), nI i) ∧ Fr DQ LQ σ σ') (fun t σ' => t = oI (argQ (fun q => (aSt B N q).2.length) (B 8 4)) ∧ Fr DQ LQ σ σ') ?_ ?_ jd_fu (jfu (by omega)) (-2, -1, 0) σ ⟨rfl, Fr_refl _⟩
    · obtain ⟨_, σ9, h9, rfl, F9⟩ := one
      have hW9 := Fr_Wd F9 hW
      rw [jif, h10, if_pos (show ¬ nI 1 = 0 from by decide), h9, jb_some, jo_32 hW9]
      exact OX_of (t := 0) F9
    · rintro i st σ' hi ⟨rfl, F'⟩
      have X' := CX_fr hX F'
      have ni : ¬ B 8 4 ≤ i := by omega
      obtain ⟨σ2, e, F2, a1, a2, a3⟩ := x_search X' hb hn hi
      have hW2 := Fr_Wd F2 X'.1.1
      have l6 := aSt_len (B := B) (N := N) i
      obtain ⟨⟨hW', hT, hS, hC, hN⟩, hD⟩ := X'
      have s4 := ct_s4 hC
      have jT := fun {α : Type} {A : Nat → Option (α × jd_Hp)} => joT (α := α) (A := A) hW' hT
      rcases hq : argQ (fun q => (aSt B N q).2.length) i with _ | x
      · have hq' : argQ (fun q => (aSt B N q).2.length) (i + 1) = some (i, (aSt B N i).2.length) := by
          show (argQ _ i).elim _ _ = _
          rw [hq]
          rfl
        refine ⟨_, σ2, ?_, by rw [hq'], Fr_tr F' (DA_DQ F2)⟩
        simp (disch := omega) only [jb_some, jli, jif, jd_q, jd_K0, jpi_s, jpi_l, jpi_p, jpl_s, jpl_i, jpl_p, if_true, if_false, if_pos, if_neg, not_true_eq_false, not_false_eq_true, ite_true, ite_false, Nat.not_lt_zero, eq_self, Nat.le_refl, Nat.lt_irrefl, Bool.false_eq_true, or0, jo_pi, jo_pl, jia_pi, jia_pl, jo_cpy, jia_cpy, cpy_r, m_X11_grant, m_X11_refuse, m_X13_good, m_X13_refused, reduceCtorEq, nI_add, nI_leI, nI_ltI, nI_eq, pk_mul, abs_nI, max_nI, min_nI, nI_m1, nI_m2, nI_le1, m1_lt, m2_lt, and_nI, or_nI, an_nI, has_nI, bit_nI, bc_nI, bits_nI, lx0, lx1, lx2, lx3, lx4, lx5, lx6, lx7, lx8, lx9, lx10, lx11, lx16, lx20, lx40, lx60, lx90, lx99, lx100, lx200, lx900, lx999, lx9999, ni, e, a1, oI, oQ, Option.elim, hS, s4, jT, wr_32_2 hW', wr_32_4 hW', jo_32 hW', jo_40 hW', jo_97 hW', wr_32_4 hW2, jo_97 hW2]
      · have x6 := argQ_le (fun q => aSt_len (B := B) (N := N) q) hq
        by_cases hx : (aSt B N i).2.length ≤ x.2
        · have hq' : argQ (fun q => (aSt B N q).2.length) (i + 1) = some x := by
            show (argQ _ i).elim _ _ = _
            rw [hq]
            exact if_pos hx
          refine ⟨_, σ2, ?_, by rw [hq'], Fr_tr F' (DA_DQ F2)⟩
          simp (disch := omega) only [jb_some, jli, jif, jd_q, jd_K0, jpi_s, jpi_l, jpi_p, jpl_s, jpl_i, jpl_p, if_true, if_false, if_pos, if_neg, not_true_eq_false, not_false_eq_true, ite_true, ite_false, Nat.not_lt_zero, eq_self, Nat.le_refl, Nat.lt_irrefl, Bool.false_eq_true, or0, jo_pi, jo_pl, jia_pi, jia_pl, jo_cpy, jia_cpy, cpy_r, m_X11_grant, m_X11_refuse, m_X13_good, m_X13_refused, reduceCtorEq, nI_add, nI_leI, nI_ltI, nI_eq, pk_mul, abs_nI, max_nI, min_nI, nI_m1, nI_m2, nI_le1, m1_lt, m2_lt, and_nI, or_nI, an_nI, has_nI, bit_nI, bc_nI, bits_nI, lx0, lx1, lx2, lx3, lx4, lx5, lx6, lx7, lx8, lx9, lx10, lx11, lx16, lx20, lx40, lx60, lx90, lx99, lx100, lx200, lx900, lx999, lx9999, ni, e, a1, oI, oQ, hx, Option.elim, hS, s4, jT, wr_32_2 hW', wr_32_4 hW', jo_32 hW', jo_40 hW', jo_97 hW', wr_32_4 hW2, jo_97 hW2]
        · have hq' : argQ (fun q => (aSt B N q).2.length) (i + 1) = some (i, (aSt B N i).2.length) := by
            show (argQ _ i).elim _ _ = _
            rw [hq]
            exact if_neg hx
          refine ⟨_, σ2, ?_, by rw [hq'], Fr_tr F' (DA_DQ F2)⟩
          simp (disch := omega) only [jb_some, jli, jif, jd_q, jd_K0, jpi_s, jpi_l, jpi_p, jpl_s, jpl_i, jpl_p, if_true, if_false, if_pos, if_neg, not_true_eq_false, not_false_eq_true, ite_true, ite_false, Nat.not_lt_zero, eq_self, Nat.le_refl, Nat.lt_irrefl, Bool.false_eq_true, or0, jo_pi, jo_pl, jia_pi, jia_pl, jo_cpy, jia_cpy, cpy_r, m_X11_grant, m_X11_refuse, m_X13_good, m_X13_refused, reduceCtorEq, nI_add, nI_leI, nI_ltI, nI_eq, pk_mul, abs_nI, max_nI, min_nI, nI_m1, nI_m2, nI_le1, m1_lt, m2_lt, and_nI, or_nI, an_nI, has_nI, bit_nI, bc_nI, bits_nI, lx0, lx1, lx2, lx3, lx4, lx5, lx6, lx7, lx8, lx9, lx10, lx11, lx16, lx20, lx40, lx60, lx90, lx99, lx100, lx200, lx900, lx999, lx9999, ni, e, a1, oI, oQ, hx, Option.elim, hS, s4, jT, wr_32_2 hW', wr_32_4 hW', jo_32 hW', jo_40 hW', jo_97 hW', wr_32_4 hW2, jo_97 hW2]
    · rintro st σ' ⟨rfl, F'⟩
      obtain ⟨⟨hW', hT, hS, hC, hN⟩, hD⟩ := CX_fr hX F'
      have s4 := ct_s4 hC
      have jT := fun {α : Type} {A : Nat → Option (α × jd_Hp)} => joT (α := α) (A := A) hW' hT
      refine ⟨_, σ', ?_, rfl, F'⟩
      simp (disch := omega) only [jb_some, jli, jif, jd_q, jd_K0, jpi_s, jpi_l, jpi_p, jpl_s, jpl_i, jpl_p, if_true, if_false, if_pos, if_neg, not_true_eq_false, not_false_eq_true, ite_true, ite_false, Nat.not_lt_zero, eq_self, Nat.le_refl, Nat.lt_irrefl, Bool.false_eq_true, or0, jo_pi, jo_pl, jia_pi, jia_pl, jo_cpy, jia_cpy, cpy_r, m_X11_grant, m_X11_refuse, m_X13_good, m_X13_refused, reduceCtorEq, nI_add, nI_leI, nI_ltI, nI_eq, pk_mul, abs_nI, max_nI, min_nI, nI_m1, nI_m2, nI_le1, m1_lt, m2_lt, and_nI, or_nI, an_nI, has_nI, bit_nI, bc_nI, bits_nI, lx0, lx1, lx2, lx3, lx4, lx5, lx6, lx7, lx8, lx9, lx10, lx11, lx16, lx20, lx40, lx60, lx90, lx99, lx100, lx200, lx900, lx999, lx9999, hS, s4, jT, wr_32_2 hW', jo_32 hW', jo_40 hW']
