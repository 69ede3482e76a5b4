/-! P (31): what a text means, word by word; the class's words -/
abbrev Fl : Type := Nat × Nat
def e_b {α β : Type} (x : Fl ⊕ α) (f : α → Fl ⊕ β) : Fl ⊕ β := match x with
  | .inl e => .inl e
  | .inr a => f a
def isWd (tp : Nat → Nat) (n i w : Nat) : Bool := decide (tK tp n i = 1 ∧ tW tp n i = kw w)
def isLW (tp : Nat → Nat) (n i : Nat) : Bool := isWd tp n i 0 || isWd tp n i 1 || isWd tp n i 2 || isWd tp n i 3 || isWd tp n i 4 || isWd tp n i 5 || isWd tp n i 6
def e_lab (tp : Nat → Nat) (n w lo hi i : Nat) : Fl ⊕ (Nat × Nat) := if isWd tp n i w then (if tK tp n (tE tp n i) = 2 then (if lo ≤ tV tp n (tE tp n i) ∧ tV tp n (tE tp n i) ≤ hi then .inr (tV tp n (tE tp n i), tE tp n (tE tp n i)) else .inl (4, tS tp n (tE tp n i))) else .inl (1, tS tp n (tE tp n i))) else .inl (1, tS tp n i)
def fnd (B : Bch) (w : Nat) : Option Nat := (List.range (B 8 8)).find? fun k => decide (B 9 k = w)
def isNm (tp : Nat → Nat) (n i : Nat) : Bool := decide (tK tp n i = 1) && !isLW tp n i
def e_new (tp : Nat → Nat) (n : Nat) (B : Bch) (i : Nat) : Fl ⊕ (Nat × Nat) := if isNm tp n i then (match fnd B (tW tp n i) with
  | some _ => .inl (3, tS tp n i)
  | none => .inr (tW tp n i, tE tp n i)) else .inl (1, tS tp n i)
def e_told (tp : Nat → Nat) (n : Nat) (B : Bch) (so i : Nat) : Fl ⊕ (Nat × Nat) := if isNm tp n i then (match fnd B (tW tp n i) with
  | none => .inl (2, tS tp n i)
  | some k => if B 10 k = so then .inr (B 11 k, tE tp n i) else .inl (2, tS tp n i)) else .inl (1, tS tp n i)
def kdO (tp : Nat → Nat) (n i : Nat) : Option Nat := if isWd tp n i 10 then some 0 else if isWd tp n i 11 then some 1 else if isWd tp n i 12 then some 2 else if isWd tp n i 13 then some 3 else none
def upB (B : Bch) (a b v : Nat) : Bch := fun x y => if x = a ∧ y = b then v else B x y
theorem upB_e (B : Bch) (a b v : Nat) : upB B a b v a b = v := if_pos ⟨rfl, rfl⟩
theorem upB_n (B : Bch) {a b x y : Nat} (v : Nat) (h : ¬ (x = a ∧ y = b)) : upB B a b v x y = B x y := if_neg h
def addN (B : Bch) (w so q : Nat) : Bch := upB (upB (upB (upB B 9 (B 8 8) w) 10 (B 8 8) so) 11 (B 8 8) q) 8 8 (B 8 8 + 1)
/-! the class -/
def CK (tp : Nat → Nat) (n i : Nat) (σ : jd_Hp) : Prop := σ.2.1 35 8 = nI (tK tp n i) ∧ σ.2.1 35 9 = nI (tS tp n i) ∧ σ.2.1 35 10 = nI (tE tp n i - tS tp n i) ∧ σ.2.1 35 7 = nI (tE tp n i)
def DLr (a k : Nat) : Prop := a = 35 ∧ (7 ≤ k ∧ k ≤ 12 ∨ k = 14 ∨ k = 15)
def NmX (tp : Nat → Nat) (n : Nat) (B : Bch) (σ : jd_Hp) : Prop := ∃ ps pl : Nat → Nat, ∀ k, k < B 8 8 → σ.2.1 36 k = nI (ps k) ∧ σ.2.1 37 k = nI (pl k) ∧ σ.2.1 38 k = nI (B 11 k) ∧ σ.2.1 39 k = nI (1 - B 10 k) ∧ okW tp n (ps k) (pl k) ∧ wv tp (ps k) (pl k) = B 9 k
def FrK (σ σ' : jd_Hp) : Prop := σ'.2.1 35 14 = σ.2.1 35 14 ∧ σ'.2.1 35 15 = σ.2.1 35 15
def RX {α : Type} (x : Fl ⊕ α) (c : Option (Int32 × jd_Hp)) (σ : jd_Hp) (D : Nat → Nat → Prop) (Q : α → jd_Hp → Prop) : Prop := match x with
  | .inl f => ∃ σ', c = some (nI 0, σ') ∧ Fr D L0 σ σ' ∧ σ'.2.1 35 14 = nI f.1 ∧ σ'.2.1 35 15 = nI f.2
  | .inr a => ∃ σ', c = some (nI 1, σ') ∧ Fr D L0 σ σ' ∧ FrK σ σ' ∧ Q a σ'
theorem FrK_refl (σ : jd_Hp) : FrK σ σ := ⟨rfl, rfl⟩
theorem FrK_tr {σ σ1 σ2 : jd_Hp} (h : FrK σ σ1) (g : FrK σ1 σ2) : FrK σ σ2 := ⟨g.1.trans h.1, g.2.trans h.2⟩
theorem FrK_pi {σ σ1 : jd_Hp} (h : FrK σ σ1) {a k : Nat} {v : Int32} (ha : ¬ (a = 35 ∧ (k = 14 ∨ k = 15))) : FrK σ (jd_pi σ1 a k v) := ⟨(pi_ne _ _ (by omega)).trans h.1, (pi_ne _ _ (by omega)).trans h.2⟩
theorem FrK_fr {σ σ1 : jd_Hp} {D : Nat → Nat → Prop} {L : Nat → Prop} (f : Fr D L σ σ1) (h1 : ¬ D 35 14) (h2 : ¬ D 35 15) : FrK σ σ1 := ⟨f.2.2.1 35 14 h1, f.2.2.1 35 15 h2⟩
theorem sl_of {α : Type} {σ : jd_Hp} {w : Nat} {A : Int32 → Option (α × jd_Hp)} (hw : w < 18) : jd_sl σ (some w) A = A (nI (sl w)) := if_pos hw
theorem sc_of {α : Type} {σ : jd_Hp} {w k : Nat} {A : Int32 → Option (α × jd_Hp)} (hw : w < 18) (hk : k < sl w) : jd_sc σ (some w) (nI k) A = A (nI (su w k)) := by
  obtain ⟨h1, -, h2⟩ := fin_su w hw
  have e : (nI k).toNatClampNeg = k := nI_clamp (by omega)
  show (if w < 18 ∧ ¬ nI k < 0 ∧ (nI k).toNatClampNeg < jd_sn.getD w 0 then A (jd_ch w (nI k).toNatClampNeg) else none) = _
  rw [e, if_pos ⟨hw, nI_pos (by omega), hk⟩, (h2 k hk).1]
section
variable {tp : Nat → Nat} {n i : Nat} {σ σ' : jd_Hp} {D : Nat → Nat → Prop} {L : Nat → Prop} {B : Bch}
theorem CB_fr (h : CB tp n σ) (f : Fr D L σ σ') (e : ∀ k, ¬ D 34 k) (e6 : ¬ D 35 6) : CB tp n σ' := ⟨Fr_Wd f h.1, (f.2.2.1 35 6 e6).trans h.2.1, fun k hk => (f.2.2.1 34 k (e k)).trans (h.2.2.1 k hk), h.2.2.2⟩
theorem CK_fr (h : CK tp n i σ) (f : Fr D L σ σ') (e : ∀ k, 7 ≤ k → k ≤ 10 → ¬ D 35 k) : CK tp n i σ' := ⟨(f.2.2.1 35 8 (e 8 (by decide) (by decide))).trans h.1, (f.2.2.1 35 9 (e 9 (by decide) (by decide))).trans h.2.1, (f.2.2.1 35 10 (e 10 (by decide) (by decide))).trans h.2.2.1, (f.2.2.1 35 7 (e 7 (by decide) (by decide))).trans h.2.2.2⟩
theorem NmX_fr (h : NmX tp n B σ) (f : Fr D L σ σ') (e : ∀ a k, 36 ≤ a → a ≤ 39 → ¬ D a k) : NmX tp n B σ' := by
  obtain ⟨ps, pl, h⟩ := h
  refine ⟨ps, pl, fun k hk => ?_⟩
  obtain ⟨h1, h2, h3, h4, h5⟩ := h k hk
  exact ⟨(f.2.2.1 _ _ (e _ _ (by decide) (by decide))).trans h1, (f.2.2.1 _ _ (e _ _ (by decide) (by decide))).trans h2, (f.2.2.1 _ _ (e _ _ (by decide) (by decide))).trans h3, (f.2.2.1 _ _ (e _ _ (by decide) (by decide))).trans h4, h5⟩
theorem avd_CK : CK tp n i (avd σ (tK tp n i) (tS tp n i) (tE tp n i)) := ⟨avd_8 _ _ _, avd_9 _ _ _, avd_10 _ _ _, avd_7 _ _ _⟩
theorem DVL {a k : Nat} (h : DV a k) : DLr a k := ⟨h.1, Or.inl ⟨h.2.1, by have := h.2.2; omega⟩⟩
/-- one TOKEN more -/
theorem x_adv (hB : CB tp n σ) (h7 : σ.2.1 35 7 = nI i) (hi : i ≤ n) : ∃ σ', m_X9_advance 35 σ = some ((), σ') ∧ CK tp n i σ' ∧ Fr DV L0 σ σ' ∧ CB tp n σ' := ⟨_, x_advance hB h7 hi, avd_CK, avd_fr _ _ _, CB_fr hB (avd_fr _ _ _) (fun k => by unfold DV; omega) (by unfold DV; omega)⟩
theorem x_fail {f s : Nat} (h9 : σ.2.1 35 9 = nI s) : m_X9_fail 35 (nI f) σ = some (nI 0, jd_pi (jd_pi σ 35 14 (nI f)) 35 15 (nI s)) := by
  unfold m_X9_fail
  rw [jli, jli, pi_ne _ _ (by omega), h9]
  rfl
/-- a fault -/
theorem RX_f {α : Type} {f s : Nat} {σ1 : jd_Hp} {Q : α → jd_Hp → Prop} (F : Fr D L0 σ σ1) (h1 : D 35 14) (h2 : D 35 15) : RX (.inl (f, s)) (some (nI 0, jd_pi (jd_pi σ1 35 14 (nI f)) 35 15 (nI s))) σ D Q := ⟨_, rfl, Fr_pi (Fr_pi F h1) h2, by
  show (jd_pi (jd_pi σ1 35 14 (nI f)) 35 15 (nI s)).2.1 35 14 = nI f
  rw [pi_ne _ _ (by omega), pi_eq], pi_eq _ _ _ _⟩
theorem isWd_t {w : Nat} : isWd tp n i w = true ↔ tK tp n i = 1 ∧ tW tp n i = kw w := by
  unfold isWd
  exact decide_eq_true_iff
theorem isWd_f {w : Nat} : isWd tp n i w = false ↔ ¬ (tK tp n i = 1 ∧ tW tp n i = kw w) := by
  unfold isWd
  exact decide_eq_false_iff_not
set_option maxHeartbeats 1000000 in
theorem x_isWord (hB : CB tp n σ) (hi : i ≤ n) (hK : CK tp n i σ) {w : Nat} (hw : w < 18) : m_X9_isWord 35 (some w) σ = some (if isWd tp n i w then nI 1 else nI 0, σ) := by
  obtain ⟨hW, h6, hY, hn, ht⟩ := hB
  obtain ⟨k8, k9, k10, k7⟩ := hK
  have k4 := tK_le (tp := tp) (n := n) (i := i)
  unfold m_X9_isWord
  by_cases h1 : tK tp n i = 1
  · obtain ⟨hk, -⟩ := tok_W hi h1
    have e1 := wv_kw hk hw
    have e2 : isWd tp n i w = decide (wv tp (tS tp n i) (tE tp n i - tS tp n i) = kw w) := by
      unfold isWd tW
      simp [h1]
    rw [e2]
    rw [h1] at k8
    generalize tS tp n i = s at *
    generalize tE tp n i - s = l at *
    obtain ⟨o1, o2, o3, o4⟩ := hk
    obtain ⟨s1, s2, s3⟩ := fin_su w hw
    by_cases h2 : sl w = l
    · rw [k8, jif, if_neg (by simp only [Classical.not_not]; rfl), sl_of hw, k10, h2, jif, if_pos rfl]
      rw [jlp_e l (fun k => nI k) (fun k => decide (¬ tp (s + k) = su w k)) (fun _ => Sum.inr 0) (Sum.inl ()) (jfu (by omega)) ?_ ?_ ?_]
      · rcases hf : (List.range l).find? (fun k => decide (¬ tp (s + k) = su w k)) with _ | k
        · rw [List.find?_eq_none] at hf
          have : wv tp s l = kw w := e1.mpr ⟨h2.symm, fun k hk => by
            have := hf k (List.mem_range.mpr hk)
            simpa using this⟩
          rw [decide_eq_true this]
          rfl
        · have hk1 := List.find?_some hf
          have hk2 := List.mem_range.mp (List.mem_of_find?_eq_some hf)
          have : ¬ wv tp s l = kw w := fun h => by
            have := (e1.mp h).2 k hk2
            simp [this] at hk1
          rw [decide_eq_false this]
          rfl
      · rfl
      · intro k hk
        have hk' : ¬ l ≤ k := by omega
        have e6 := hY (s + k) (by omega)
        have o5 := o4 k hk
        have o6 := (s3 k (by omega)).2
        have e7 : bI (tp (s + k)) = nI (tp (s + k)) := b_nI (by omega)
        by_cases h3 : tp (s + k) = su w k
        · have e7' : bI (su w k) = nI (su w k) := b_nI (by omega)
          simp (disch := omega) only [jb_some, jli, jif, jd_q, jd_K0, jpi_s, jpi_l, jpi_p, jpl_s, jpl_i, jpl_p, if_true, if_false, if_pos, if_neg, not_true_eq_false, not_false_eq_true, ite_true, ite_false, Nat.not_lt_zero, eq_self, Nat.le_refl, Nat.lt_irrefl, Bool.false_eq_true, or0, jo_pi, jo_pl, jia_pi, jia_pl, jo_cpy, jia_cpy, cpy_r, m_X11_grant, m_X11_refuse, m_X13_good, m_X13_refused, reduceCtorEq, nI_add, nI_leI, nI_ltI, nI_eq, pk_mul, abs_nI, max_nI, min_nI, nI_m1, nI_m2, nI_le1, m1_lt, m2_lt, and_nI, or_nI, an_nI, has_nI, bit_nI, bc_nI, bits_nI, lx0, lx1, lx2, lx3, lx4, lx5, lx6, lx7, lx8, lx9, lx10, lx11, lx16, lx20, lx40, lx60, lx90, lx99, lx100, lx200, lx900, lx999, lx9999, hk', k10, k9, e6, e7', h3, decide_false, sc_of, jo_35 hW, wr_35_0 hW, ja_34 hW]
        · simp (disch := omega) only [jb_some, jli, jif, jd_q, jd_K0, jpi_s, jpi_l, jpi_p, jpl_s, jpl_i, jpl_p, if_true, if_false, if_pos, if_neg, not_true_eq_false, not_false_eq_true, ite_true, ite_false, Nat.not_lt_zero, eq_self, Nat.le_refl, Nat.lt_irrefl, Bool.false_eq_true, or0, jo_pi, jo_pl, jia_pi, jia_pl, jo_cpy, jia_cpy, cpy_r, m_X11_grant, m_X11_refuse, m_X13_good, m_X13_refused, reduceCtorEq, nI_add, nI_leI, nI_ltI, nI_eq, pk_mul, abs_nI, max_nI, min_nI, nI_m1, nI_m2, nI_le1, m1_lt, m2_lt, and_nI, or_nI, an_nI, has_nI, bit_nI, bc_nI, bits_nI, lx0, lx1, lx2, lx3, lx4, lx5, lx6, lx7, lx8, lx9, lx10, lx11, lx16, lx20, lx40, lx60, lx90, lx99, lx100, lx200, lx900, lx999, lx9999, hk', k10, k9, e6, e7, h3, decide_true, sc_of, jo_35 hW, wr_35_0 hW, ja_34 hW]
      · simp (disch := omega) only [jb_some, jli, jif, jd_q, jd_K0, jpi_s, jpi_l, jpi_p, jpl_s, jpl_i, jpl_p, if_true, if_false, if_pos, if_neg, not_true_eq_false, not_false_eq_true, ite_true, ite_false, Nat.not_lt_zero, eq_self, Nat.le_refl, Nat.lt_irrefl, Bool.false_eq_true, or0, jo_pi, jo_pl, jia_pi, jia_pl, jo_cpy, jia_cpy, cpy_r, m_X11_grant, m_X11_refuse, m_X13_good, m_X13_refused, reduceCtorEq, nI_add, nI_leI, nI_ltI, nI_eq, pk_mul, abs_nI, max_nI, min_nI, nI_m1, nI_m2, nI_le1, m1_lt, m2_lt, and_nI, or_nI, an_nI, has_nI, bit_nI, bc_nI, bits_nI, lx0, lx1, lx2, lx3, lx4, lx5, lx6, lx7, lx8, lx9, lx10, lx11, lx16, lx20, lx40, lx60, lx90, lx99, lx100, lx200, lx900, lx999, lx9999, k10, jo_35 hW]
    · have : ¬ wv tp s l = kw w := fun h => h2 (e1.mp h).1.symm
      rw [decide_eq_false this]
      simp (disch := omega) only [jb_some, jli, jif, jd_q, jd_K0, jpi_s, jpi_l, jpi_p, jpl_s, jpl_i, jpl_p, if_true, if_false, if_pos, if_neg, not_true_eq_false, not_false_eq_true, ite_true, ite_false, Nat.not_lt_zero, eq_self, Nat.le_refl, Nat.lt_irrefl, Bool.false_eq_true, or0, jo_pi, jo_pl, jia_pi, jia_pl, jo_cpy, jia_cpy, cpy_r, m_X11_grant, m_X11_refuse, m_X13_good, m_X13_refused, reduceCtorEq, nI_add, nI_leI, nI_ltI, nI_eq, pk_mul, abs_nI, max_nI, min_nI, nI_m1, nI_m2, nI_le1, m1_lt, m2_lt, and_nI, or_nI, an_nI, has_nI, bit_nI, bc_nI, bits_nI, lx0, lx1, lx2, lx3, lx4, lx5, lx6, lx7, lx8, lx9, lx10, lx11, lx16, lx20, lx40, lx60, lx90, lx99, lx100, lx200, lx900, lx999, lx9999, k8, k10, h2, sl_of]
  · have e2 : isWd tp n i w = false := by
      unfold isWd
      simp [h1]
    rw [e2]
    simp (disch := omega) only [jb_some, jli, jif, jd_q, jd_K0, jpi_s, jpi_l, jpi_p, jpl_s, jpl_i, jpl_p, if_true, if_false, if_pos, if_neg, not_true_eq_false, not_false_eq_true, ite_true, ite_false, Nat.not_lt_zero, eq_self, Nat.le_refl, Nat.lt_irrefl, Bool.false_eq_true, or0, jo_pi, jo_pl, jia_pi, jia_pl, jo_cpy, jia_cpy, cpy_r, m_X11_grant, m_X11_refuse, m_X13_good, m_X13_refused, reduceCtorEq, nI_add, nI_leI, nI_ltI, nI_eq, pk_mul, abs_nI, max_nI, min_nI, nI_m1, nI_m2, nI_le1, m1_lt, m2_lt, and_nI, or_nI, an_nI, has_nI, bit_nI, bc_nI, bits_nI, lx0, lx1, lx2, lx3, lx4, lx5, lx6, lx7, lx8, lx9, lx10, lx11, lx16, lx20, lx40, lx60, lx90, lx99, lx100, lx200, lx900, lx999, lx9999, k8, h1]
theorem x_isLineWord (hB : CB tp n σ) (hi : i ≤ n) (hK : CK tp n i σ) : m_X9_isLineWord 35 σ = some (if isLW tp n i then nI 1 else nI 0, σ) := by
  have e := fun (w : Nat) hw => x_isWord hB hi hK (w := w) hw
  unfold m_X9_isLineWord isLW
  simp only [jb_some, e 0 (by decide), e 1 (by decide), e 2 (by decide), e 3 (by decide), e 4 (by decide), e 5 (by decide), e 6 (by decide)]
  rcases isWd tp n i 0 with _ | _
  · rcases isWd tp n i 1 with _ | _
    · rcases isWd tp n i 2 with _ | _
      · rcases isWd tp n i 3 with _ | _
        · rcases isWd tp n i 4 with _ | _
          · rcases isWd tp n i 5 with _ | _
            · rcases isWd tp n i 6 with _ | _ <;> rfl
            · rfl
          · rfl
        · rfl
      · rfl
    · rfl
  · rfl
theorem x_kindTold (hB : CB tp n σ) (hi : i ≤ n) (hK : CK tp n i σ) : m_X9_kindTold 35 σ = some ((kdO tp n i).elim (- nI 1) nI, σ) := by
  have e := fun (w : Nat) hw => x_isWord hB hi hK (w := w) hw
  unfold m_X9_kindTold kdO
  simp only [jb_some, e 10 (by decide), e 11 (by decide), e 12 (by decide), e 13 (by decide)]
  rcases isWd tp n i 10 with _ | _
  · rcases isWd tp n i 11 with _ | _
    · rcases isWd tp n i 12 with _ | _
      · rcases isWd tp n i 13 with _ | _ <;> rfl
      · rfl
    · rfl
  · rfl
theorem x_wholeValue (hB : CB tp n σ) (hi : i ≤ n) (hK : CK tp n i σ) (h2 : tK tp n i = 2) : m_X9_wholeValue 35 σ = some (nI (tV tp n i), σ) := by
  obtain ⟨hW, h6, hY, hn, ht⟩ := hB
  obtain ⟨k8, k9, k10, k7⟩ := hK
  obtain ⟨hk, -⟩ := tok_V hi h2
  unfold m_X9_wholeValue tV
  generalize tS tp n i = s at *
  generalize tE tp n i - s = l at *
  obtain ⟨o1, o2, o3, o4⟩ := hk
  rw [jlp_p l (fun k => ((nI (nv tp s k), nI k) : Int32 × Int32)) (nI (nv tp s l)) (jfu (by omega)) ?_ ?_ ?_]
  · rfl
  · rfl
  · intro k hk
    have hk' : ¬ l ≤ k := by omega
    have e6 := hY (s + k) (by omega)
    have o5 := o4 k hk
    have e7 : bI (tp (s + k)) = nI (tp (s + k)) := b_nI (by omega)
    have e8 : nI (nv tp s k * 10 + tp (s + k)) - nI 48 = nI (nv tp s (k + 1)) := by
      rw [nI_sub (by omega)]
      show _ = nI (10 * nv tp s k + (tp (s + k) - 48))
      congr 1
      omega
    simp (disch := omega) only [jb_some, jli, jif, jd_q, jd_K0, jpi_s, jpi_l, jpi_p, jpl_s, jpl_i, jpl_p, if_true, if_false, if_pos, if_neg, not_true_eq_false, not_false_eq_true, ite_true, ite_false, Nat.not_lt_zero, eq_self, Nat.le_refl, Nat.lt_irrefl, Bool.false_eq_true, or0, jo_pi, jo_pl, jia_pi, jia_pl, jo_cpy, jia_cpy, cpy_r, m_X11_grant, m_X11_refuse, m_X13_good, m_X13_refused, reduceCtorEq, nI_add, nI_leI, nI_ltI, nI_eq, pk_mul, abs_nI, max_nI, min_nI, nI_m1, nI_m2, nI_le1, m1_lt, m2_lt, and_nI, or_nI, an_nI, has_nI, bit_nI, bc_nI, bits_nI, lx0, lx1, lx2, lx3, lx4, lx5, lx6, lx7, lx8, lx9, lx10, lx11, lx16, lx20, lx40, lx60, lx90, lx99, lx100, lx200, lx900, lx999, lx9999, hk', k10, k9, e6, e7, lx48, e8, jo_35 hW, wr_35_0 hW, ja_34 hW]
  · simp (disch := omega) only [jb_some, jli, jif, jd_q, jd_K0, jpi_s, jpi_l, jpi_p, jpl_s, jpl_i, jpl_p, if_true, if_false, if_pos, if_neg, not_true_eq_false, not_false_eq_true, ite_true, ite_false, Nat.not_lt_zero, eq_self, Nat.le_refl, Nat.lt_irrefl, Bool.false_eq_true, or0, jo_pi, jo_pl, jia_pi, jia_pl, jo_cpy, jia_cpy, cpy_r, m_X11_grant, m_X11_refuse, m_X13_good, m_X13_refused, reduceCtorEq, nI_add, nI_leI, nI_ltI, nI_eq, pk_mul, abs_nI, max_nI, min_nI, nI_m1, nI_m2, nI_le1, m1_lt, m2_lt, and_nI, or_nI, an_nI, has_nI, bit_nI, bc_nI, bits_nI, lx0, lx1, lx2, lx3, lx4, lx5, lx6, lx7, lx8, lx9, lx10, lx11, lx16, lx20, lx40, lx60, lx90, lx99, lx100, lx200, lx900, lx999, lx9999, k10, jo_35 hW]
theorem e_lab_ok {w lo hi v j : Nat} (h : i ≤ n) (e : e_lab tp n w lo hi i = .inr (v, j)) : lo ≤ v ∧ v ≤ hi ∧ i < j ∧ j ≤ n := by
  unfold e_lab at e
  split at e
  · rename_i h1
    have h2 := tE_le (tp := tp) h
    have h3 := (tok_W h (isWd_t.mp h1).1).2
    split at e
    · rename_i h4
      have h5 := (tok_V h2.2 h4).2
      have h6 := tE_le (tp := tp) h2.2
      split at e
      · rename_i h7
        injection e with e
        injection e with e1 e2
        subst e1
        subst e2
        exact ⟨h7.1, h7.2, by omega, h6.2⟩
      · exact absurd e (by simp)
    · exact absurd e (by simp)
  · exact absurd e (by simp)
set_option maxHeartbeats 1000000 in
theorem x_labelled (hB : CB tp n σ) (h7 : σ.2.1 35 7 = nI i) (hi : i ≤ n) {w lo hh : Nat} (hw : w < 18) (hl : lo < 1000) (hh' : hh < 1000) : RX (e_lab tp n w lo hh i) (m_X9_labelled 35 (some w) (nI lo) (nI hh) σ) σ DLr (fun x σ' => σ'.2.1 35 11 = nI x.1 ∧ σ'.2.1 35 7 = nI x.2) := by
  obtain ⟨σ1, a1, hK1, F1, hB1⟩ := x_adv hB h7 hi
  have F1' : Fr DLr L0 σ σ1 := Fr_mono F1 (fun a k h => DVL h) fun _ h => h
  have e1 := x_isWord hB1 hi hK1 hw
  have hj := (tE_le (tp := tp) hi).2
  unfold m_X9_labelled e_lab
  rcases h1 : isWd tp n i w with _ | _
  · rw [h1] at e1
    have e3 := fun f => x_fail (f := f) hK1.2.1
    simp (disch := omega) only [jb_some, jli, jif, jd_q, jd_K0, jpi_s, jpi_l, jpi_p, jpl_s, jpl_i, jpl_p, if_true, if_false, if_pos, if_neg, not_true_eq_false, not_false_eq_true, ite_true, ite_false, Nat.not_lt_zero, eq_self, Nat.le_refl, Nat.lt_irrefl, Bool.false_eq_true, or0, jo_pi, jo_pl, jia_pi, jia_pl, jo_cpy, jia_cpy, cpy_r, m_X11_grant, m_X11_refuse, m_X13_good, m_X13_refused, reduceCtorEq, nI_add, nI_leI, nI_ltI, nI_eq, pk_mul, abs_nI, max_nI, min_nI, nI_m1, nI_m2, nI_le1, m1_lt, m2_lt, or_nI, an_nI, has_nI, bit_nI, bc_nI, bits_nI, lx0, lx1, lx2, lx3, lx4, lx5, lx6, lx7, lx8, lx9, lx10, lx11, lx16, lx20, lx40, lx60, lx90, lx99, lx100, lx200, lx900, lx999, lx9999, n_01, a1, e1, e3]
    exact RX_f F1' (by unfold DLr; omega) (by unfold DLr; omega)
  · rw [h1] at e1
    obtain ⟨σ2, a2, hK2, F2, hB2⟩ := x_adv hB1 hK1.2.2.2 hj
    have F2' : Fr DLr L0 σ σ2 := Fr_tr F1' (Fr_mono F2 (fun a k h => DVL h) fun _ h => h)
    have k8 := hK2.1
    have k4 := tK_le (tp := tp) (n := n) (i := tE tp n i)
    by_cases h2 : tK tp n (tE tp n i) = 2
    · have e4 := x_wholeValue hB2 hj hK2 h2
      obtain ⟨hk, -⟩ := tok_V hj h2
      have hv : tV tp n (tE tp n i) < 1000 := nv_lt hk
      have k7 := hK2.2.2.2
      have k9 := hK2.2.1
      rw [h2] at k8
      generalize tV tp n (tE tp n i) = v at *
      have e11 : (jd_pi σ2 35 11 (nI v)).2.1 35 11 = nI v := pi_eq _ _ _ _
      have e9 : (jd_pi σ2 35 11 (nI v)).2.1 35 9 = nI (tS tp n (tE tp n i)) := (pi_ne _ _ (by omega)).trans k9
      have e7 : (jd_pi σ2 35 11 (nI v)).2.1 35 7 = nI (tE tp n (tE tp n i)) := (pi_ne _ _ (by omega)).trans k7
      have F3 : Fr DLr L0 σ (jd_pi σ2 35 11 (nI v)) := Fr_pi F2' (by unfold DLr; omega)
      have e3 := fun f => x_fail (f := f) e9
      by_cases h3 : v < lo
      · have h3' : ¬ (lo ≤ v ∧ v ≤ hh) := by omega
        simp (disch := omega) only [jb_some, jli, jif, jd_q, jd_K0, jpi_s, jpi_l, jpi_p, jpl_s, jpl_i, jpl_p, if_true, if_false, if_pos, if_neg, not_true_eq_false, not_false_eq_true, ite_true, ite_false, Nat.not_lt_zero, eq_self, Nat.le_refl, Nat.lt_irrefl, Bool.false_eq_true, or0, jo_pi, jo_pl, jia_pi, jia_pl, jo_cpy, jia_cpy, cpy_r, m_X11_grant, m_X11_refuse, m_X13_good, m_X13_refused, reduceCtorEq, nI_add, nI_leI, nI_ltI, nI_eq, pk_mul, abs_nI, max_nI, min_nI, nI_m1, nI_m2, nI_le1, m1_lt, m2_lt, or_nI, an_nI, has_nI, bit_nI, bc_nI, bits_nI, lx0, lx1, lx2, lx3, lx4, lx5, lx6, lx7, lx8, lx9, lx10, lx11, lx16, lx20, lx40, lx60, lx90, lx99, lx100, lx200, lx900, lx999, lx9999, n_01, a1, e1, a2, k8, h2, e4, e11, h3, h3', e3]
        exact RX_f F3 (by unfold DLr; omega) (by unfold DLr; omega)
      · by_cases h4 : v ≤ hh
        · have h3' : lo ≤ v ∧ v ≤ hh := by omega
          simp (disch := omega) only [jb_some, jli, jif, jd_q, jd_K0, jpi_s, jpi_l, jpi_p, jpl_s, jpl_i, jpl_p, if_true, if_false, if_pos, if_neg, not_true_eq_false, not_false_eq_true, ite_true, ite_false, Nat.not_lt_zero, eq_self, Nat.le_refl, Nat.lt_irrefl, Bool.false_eq_true, or0, jo_pi, jo_pl, jia_pi, jia_pl, jo_cpy, jia_cpy, cpy_r, m_X11_grant, m_X11_refuse, m_X13_good, m_X13_refused, reduceCtorEq, nI_add, nI_leI, nI_ltI, nI_eq, pk_mul, abs_nI, max_nI, min_nI, nI_m1, nI_m2, nI_le1, m1_lt, m2_lt, or_nI, an_nI, has_nI, bit_nI, bc_nI, bits_nI, lx0, lx1, lx2, lx3, lx4, lx5, lx6, lx7, lx8, lx9, lx10, lx11, lx16, lx20, lx40, lx60, lx90, lx99, lx100, lx200, lx900, lx999, lx9999, n_01, a1, e1, a2, k8, h2, e4, e11, h3, h4, h3', e3, and_self]
          exact ⟨_, rfl, F3, FrK_pi (FrK_tr (FrK_fr F1 (by unfold DV; omega) (by unfold DV; omega)) (FrK_fr F2 (by unfold DV; omega) (by unfold DV; omega))) (by omega), e11, e7⟩
        · have h3' : ¬ (lo ≤ v ∧ v ≤ hh) := by omega
          simp (disch := omega) only [jb_some, jli, jif, jd_q, jd_K0, jpi_s, jpi_l, jpi_p, jpl_s, jpl_i, jpl_p, if_true, if_false, if_pos, if_neg, not_true_eq_false, not_false_eq_true, ite_true, ite_false, Nat.not_lt_zero, eq_self, Nat.le_refl, Nat.lt_irrefl, Bool.false_eq_true, or0, jo_pi, jo_pl, jia_pi, jia_pl, jo_cpy, jia_cpy, cpy_r, m_X11_grant, m_X11_refuse, m_X13_good, m_X13_refused, reduceCtorEq, nI_add, nI_leI, nI_ltI, nI_eq, pk_mul, abs_nI, max_nI, min_nI, nI_m1, nI_m2, nI_le1, m1_lt, m2_lt, or_nI, an_nI, has_nI, bit_nI, bc_nI, bits_nI, lx0, lx1, lx2, lx3, lx4, lx5, lx6, lx7, lx8, lx9, lx10, lx11, lx16, lx20, lx40, lx60, lx90, lx99, lx100, lx200, lx900, lx999, lx9999, n_01, a1, e1, a2, k8, h2, e4, e11, h3, h4, h3', e3, and_false]
          exact RX_f F3 (by unfold DLr; omega) (by unfold DLr; omega)
    · have e3 := fun f => x_fail (f := f) hK2.2.1
      simp (disch := omega) only [jb_some, jli, jif, jd_q, jd_K0, jpi_s, jpi_l, jpi_p, jpl_s, jpl_i, jpl_p, if_true, if_false, if_pos, if_neg, not_true_eq_false, not_false_eq_true, ite_true, ite_false, Nat.not_lt_zero, eq_self, Nat.le_refl, Nat.lt_irrefl, Bool.false_eq_true, or0, jo_pi, jo_pl, jia_pi, jia_pl, jo_cpy, jia_cpy, cpy_r, m_X11_grant, m_X11_refuse, m_X13_good, m_X13_refused, reduceCtorEq, nI_add, nI_leI, nI_ltI, nI_eq, pk_mul, abs_nI, max_nI, min_nI, nI_m1, nI_m2, nI_le1, m1_lt, m2_lt, or_nI, an_nI, has_nI, bit_nI, bc_nI, bits_nI, lx0, lx1, lx2, lx3, lx4, lx5, lx6, lx7, lx8, lx9, lx10, lx11, lx16, lx20, lx40, lx60, lx90, lx99, lx100, lx200, lx900, lx999, lx9999, n_01, a1, e1, a2, k8, h2, e3]
      exact RX_f F2' (by unfold DLr; omega) (by unfold DLr; omega)
end
