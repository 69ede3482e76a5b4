/-! P (26): the reference's acts -/
theorem lx135 : (135 : Int32) = nI 135 := rfl
def cpo (σ : jd_Hp) (a d : Nat) (f : Nat → Int32) (n : Nat) : jd_Hp := (σ.1, fun b k => if b = a ∧ d ≤ k ∧ k < d + n then f (k - d) else σ.2.1 b k, σ.2.2.1, σ.2.2.2)
theorem cpo_0 (σ : jd_Hp) (a d : Nat) (f : Nat → Int32) : cpo σ a d f 0 = σ := by
  have : (fun b k => if b = a ∧ d ≤ k ∧ k < d + 0 then f (k - d) else σ.2.1 b k) = σ.2.1 := by
    funext b k
    rw [if_neg (by omega)]
  unfold cpo
  rw [this]
theorem cpo_s (σ : jd_Hp) (a d : Nat) (f : Nat → Int32) (n : Nat) : jd_pi (cpo σ a d f n) a (d + n) (f n) = cpo σ a d f (n + 1) := by
  unfold cpo jd_pi jd_u
  have : (fun b j => if b = a then (if j = d + n then f n else if b = a ∧ d ≤ j ∧ j < d + n then f (j - d) else σ.2.1 b j) else if b = a ∧ d ≤ j ∧ j < d + n then f (j - d) else σ.2.1 b j) = (fun b k => if b = a ∧ d ≤ k ∧ k < d + (n + 1) then f (k - d) else σ.2.1 b k) := by
    funext b k
    by_cases h1 : b = a
    · rw [if_pos h1]
      by_cases h2 : k = d + n
      · rw [if_pos h2, if_pos ⟨h1, by omega, by omega⟩, h2, Nat.add_sub_cancel_left]
      · rw [if_neg h2]
        by_cases h3 : d ≤ k ∧ k < d + n
        · rw [if_pos ⟨h1, h3⟩, if_pos ⟨h1, by omega, by omega⟩]
        · rw [if_neg (by omega), if_neg (by omega)]
    · rw [if_neg h1, if_neg (by simp [h1]), if_neg (by simp [h1])]
  show (σ.1, (fun b j => if b = a then (if j = d + n then f n else if b = a ∧ d ≤ j ∧ j < d + n then f (j - d) else σ.2.1 b j) else if b = a ∧ d ≤ j ∧ j < d + n then f (j - d) else σ.2.1 b j), σ.2.2.1, σ.2.2.2) = _
  rw [this]
theorem cpo_i (σ : jd_Hp) (a d : Nat) (f : Nat → Int32) (n b k : Nat) : (cpo σ a d f n).2.1 b k = if b = a ∧ d ≤ k ∧ k < d + n then f (k - d) else σ.2.1 b k := rfl
theorem cpo_r (σ : jd_Hp) (a d : Nat) (f : Nat → Int32) (n : Nat) : (cpo σ a d f n).2.2.2 = σ.2.2.2 := rfl
theorem jo_cpo {α : Type} {σ : jd_Hp} {a d n : Nat} {f : Nat → Int32} {x : Nat × Nat} {o : Option Nat} {A : Nat → Option (α × jd_Hp)} : jd_o (cpo σ a d f n) x o A = jd_o σ x o A := id rfl
theorem jia_cpo {α : Type} {σ : jd_Hp} {a d n : Nat} {f : Nat → Int32} {x : Nat} {o : Option Nat} {i : Int32} {A : Nat → Nat → Option (α × jd_Hp)} : jd_ia (cpo σ a d f n) x o i A = jd_ia σ x o i A := id rfl
theorem cpo_fr (σ : jd_Hp) (a d : Nat) (f : Nat → Int32) (n : Nat) : Fr (fun b _ => b = a) L0 σ (cpo σ a d f n) := ⟨rfl, rfl, fun b k h => by rw [cpo_i, if_neg (fun c => h c.1)], fun _ _ _ => rfl⟩
theorem cpy_fr (σ : jd_Hp) (a : Nat) (f : Nat → Int32) (n : Nat) : Fr (fun b _ => b = a) L0 σ (cpy σ a f n) := ⟨rfl, rfl, fun b k h => by rw [cpy_i, if_neg (fun c => h c.1)], fun _ _ _ => rfl⟩
theorem ScM_of {n a o : Nat} {N : Nw} {σ σ' : jd_Hp} (h : ScM n N a o σ) (hn : n ≤ 6) (e : ∀ k, o ≤ k → k < o + 9 → σ'.2.1 a k = σ.2.1 a k) : ScM n N a o σ' := ⟨fun p hp => (e _ (by omega) (by omega)).trans (h.1 p hp), (e _ (by omega) (by omega)).trans h.2.1, (e _ (by omega) (by omega)).trans h.2.2.1, (e _ (by omega) (by omega)).trans h.2.2.2⟩
/-- a scene at another place -/
theorem ScM_mv {n a o a' o' : Nat} {N : Nw} {σ σ' : jd_Hp} (h : ScM n N a o σ) (hn : n ≤ 6) (e : ∀ k, k < 9 → σ'.2.1 a' (o' + k) = σ.2.1 a (o + k)) : ScM n N a' o' σ' := ⟨fun p hp => (e _ (by omega)).trans (h.1 p hp), (e _ (by omega)).trans h.2.1, (e _ (by omega)).trans h.2.2.1, (e _ (by omega)).trans h.2.2.2⟩
def DR (a k : Nat) : Prop := a = 122 ∨ a = 118 ∧ k = 19
def DN (a k : Nat) : Prop := a = 118 ∧ (k = 0 ∨ k = 1 ∨ k = 2 ∨ k = 19 ∨ k = 20) ∨ 120 ≤ a ∧ a ≤ 123
section
variable {B : Bch} {N N' : Nw} {σ σ' σ1 : jd_Hp} {n na ni na' ni' tl fl tr : Nat} {H I H' I' : Nat → Nw} {tp : Nat → Nat} {wh : Int32} {o : BO} {b : Nat}
theorem MV_sc (h : MV B N σ) : ScM (B 8 3) N 120 0 σ := ⟨fun p hp => by rw [Nat.zero_add]; exact h.1 p hp, h.2.1, h.2.2.1, h.2.2.2⟩
theorem sc_MV (h : ScM (B 8 3) N 120 0 σ) : MV B N σ := ⟨fun p hp => by have := h.1 p hp; rwa [Nat.zero_add] at this, h.2.1, h.2.2.1, h.2.2.2⟩
theorem PM_of (h : PM n na H ni I σ) (hn : n ≤ 6) (e1 : σ'.2.1 118 19 = σ.2.1 118 19) (e2 : σ'.2.1 118 20 = σ.2.1 118 20) (e : ∀ a k, a = 122 ∨ a = 123 → σ'.2.1 a k = σ.2.1 a k) : PM n na H ni I σ' := ⟨e1.trans h.1, e2.trans h.2.1, fun k hk => ScM_of (h.2.2.1 k hk) hn fun _ _ _ => e _ _ (Or.inl rfl), fun i hi => ScM_of (h.2.2.2 i hi) hn fun _ _ _ => e _ _ (Or.inr rfl)⟩
set_option maxHeartbeats 1000000 in
theorem y_remembers (hW : Wd σ) (hP : PM n na H ni I σ) (hN : ScM n N 120 0 σ) (hn : n ≤ 6) (ha : na ≤ 16) (hi : ni ≤ 3) : ∃ σ', m_X13_remembers 118 σ = some ((), σ') ∧ PM n (min (na + 1) 16) (hc N H) ni I σ' ∧ Fr DR L0 σ σ' := by
  obtain ⟨m, hm⟩ : ∃ m, m = min na 15 := ⟨_, rfl⟩
  have one : ∃ σ1, (jd_b (α := Unit) (
jd_if (¬ (σ.2.1 118 19) = 16) (
some ((), σ)) (
jd_b (jd_lp (S := Int32) (T := Unit) (fun s10 σ10 =>
jd_if (135 ≤ s10) (
some ((Sum.inr ()), σ10)) (
jd_o σ10 (13, 29) (some 118) fun a12 =>
jd_ia σ10 20 (σ10.2.2.2 a12 17) (s10 + 9) fun a13 j13 =>
jd_ia σ10 20 (σ10.2.2.2 a12 17) s10 fun a14 j14 =>
jd_li (jd_pi σ10 a14 j14 (σ10.2.1 a13 j13)) fun τ15 =>
some (Sum.inl (s10 + 1), τ15))) jd_fu 0 σ) fun t11 σ11 =>
jd_o σ11 (13, 29) (some 118) fun a16 =>
jd_li (jd_pi σ11 a16 19 ((σ11.2.1 a16 19) - 1)) fun τ17 =>
some ((), τ17))) fun _ σ9 => some ((), σ9)) = some ((), σ1) ∧ Fr DR L0 σ σ1 ∧ σ1.2.1 118 19 = nI m ∧ ∀ k, k < m → ScM n (H k) 122 (9 * (m - 1 - k)) σ1 := by
    by_cases h : na = 16
    · refine ⟨jd_pi (cpy σ 122 (fun k => σ.2.1 122 (k + 9)) 135) 118 19 (nI 15), ?_, Fr_pi (Fr_mono (cpy_fr _ _ _ _) (fun a k h => Or.inl h) fun _ h => h) (Or.inr ⟨rfl, rfl⟩), ?_, fun k hk => ?_⟩
      · have e19 : ∀ i, (cpy σ 122 (fun k => σ.2.1 122 (k + 9)) i).2.1 118 19 = nI 16 := fun i => by
          rw [cpy_i, if_neg (by omega), hP.1, h]
        rw [hP.1, h, jif, if_neg (by simp only [Classical.not_not]; rfl)]
        rw [jlp_h 135 (fun i => nI i) (fun i => cpy σ 122 (fun k => σ.2.1 122 (k + 9)) i) () (cpy σ 122 (fun k => σ.2.1 122 (k + 9)) 135) (jfu (by omega)) ?_ ?_ ?_ ?_]
        · rw [jb_some, jo_cpy, jo_118 hW, jli, e19, jb_some]
          rfl
        · rfl
        · exact (cpy_0 _ _ _).symm
        · intro i hi
          have h6 : ¬ 135 ≤ i := by omega
          simp (disch := omega) only [jb_some, jli, jif, jd_q, jd_K0, jpi_s, jpi_l, jpi_p, jpl_s, jpl_i, jpl_p, if_true, if_false, if_pos, if_neg, not_true_eq_false, not_false_eq_true, ite_true, ite_false, Nat.not_lt_zero, eq_self, Nat.le_refl, Nat.lt_irrefl, Bool.false_eq_true, or0, jo_pi, jo_pl, jia_pi, jia_pl, jo_cpy, jia_cpy, cpy_r, m_X11_grant, m_X11_refuse, m_X13_good, m_X13_refused, reduceCtorEq, nI_add, nI_leI, nI_ltI, nI_eq, pk_mul, abs_nI, max_nI, min_nI, nI_m1, nI_m2, nI_le1, m1_lt, m2_lt, and_nI, or_nI, an_nI, has_nI, bit_nI, bc_nI, bits_nI, lx0, lx1, lx2, lx3, lx4, lx5, lx6, lx7, lx8, lx9, lx10, lx11, lx16, lx20, lx40, lx60, lx90, lx99, lx100, lx200, lx900, lx999, lx9999, jo_118 hW, ja_119 hW, ja_120 hW, ja_121 hW, ja_122 hW, ja_123 hW, ja_124 hW, ja_125 hW, ja_126 hW, ja_127 hW, ja_128 hW, ja_129 hW, wr_118_5 hW, wr_118_15 hW, wr_118_16 hW, wr_118_17 hW, wr_118_18 hW, wr_118_21 hW, wr_118_22 hW, wr_118_23 hW, wr_118_25 hW, wr_118_26 hW, wr_118_27 hW, h6, lx135, jo_cpy, jia_cpy, cpy_r]
          rw [← cpy_s, cpy_i, if_neg (by omega)]
        · simp (disch := omega) only [jb_some, jli, jif, jd_q, jd_K0, jpi_s, jpi_l, jpi_p, jpl_s, jpl_i, jpl_p, if_true, if_false, if_pos, if_neg, not_true_eq_false, not_false_eq_true, ite_true, ite_false, Nat.not_lt_zero, eq_self, Nat.le_refl, Nat.lt_irrefl, Bool.false_eq_true, or0, jo_pi, jo_pl, jia_pi, jia_pl, jo_cpy, jia_cpy, cpy_r, m_X11_grant, m_X11_refuse, m_X13_good, m_X13_refused, reduceCtorEq, nI_add, nI_leI, nI_ltI, nI_eq, pk_mul, abs_nI, max_nI, min_nI, nI_m1, nI_m2, nI_le1, m1_lt, m2_lt, and_nI, or_nI, an_nI, has_nI, bit_nI, bc_nI, bits_nI, lx0, lx1, lx2, lx3, lx4, lx5, lx6, lx7, lx8, lx9, lx10, lx11, lx16, lx20, lx40, lx60, lx90, lx99, lx100, lx200, lx900, lx999, lx9999, jo_118 hW, ja_119 hW, ja_120 hW, ja_121 hW, ja_122 hW, ja_123 hW, ja_124 hW, ja_125 hW, ja_126 hW, ja_127 hW, ja_128 hW, ja_129 hW, wr_118_5 hW, wr_118_15 hW, wr_118_16 hW, wr_118_17 hW, wr_118_18 hW, wr_118_21 hW, wr_118_22 hW, wr_118_23 hW, wr_118_25 hW, wr_118_26 hW, wr_118_27 hW, lx135]
      · rw [pi_eq, hm, h]
        rfl
      · refine ScM_mv (hP.2.2.1 k (by omega)) hn fun j hj => ?_
        rw [pi_ne _ _ (by omega), cpy_i, if_pos ⟨rfl, by omega⟩]
        exact congrArg (σ.2.1 122) (by omega)
    · refine ⟨σ, ?_, Fr_refl σ, ?_, fun k hk => ?_⟩
      · rw [hP.1, jif, if_pos (by rw [lx16, nI_eq (by omega) (by omega)]; exact h)]
        rfl
      · rw [hP.1, hm]
        congr 1
        omega
      · have : m = na := by omega
        rw [this] at hk ⊢
        exact hP.2.2.1 k hk
  obtain ⟨σ1, e1, F1, h19, hH⟩ := one
  have hW1 := Fr_Wd F1 hW
  have g1 : ∀ k, σ1.2.1 120 k = σ.2.1 120 k := fun k => F1.2.2.1 120 k (by unfold DR; omega)
  have e2 : ∀ {β : Type} (K : Unit → jd_Hp → Option (β × jd_Hp)), jd_b (jd_b (α := Unit) (
jd_if (¬ (σ.2.1 118 19) = 16) (
some ((), σ)) (
jd_b (jd_lp (S := Int32) (T := Unit) (fun s10 σ10 =>
jd_if (135 ≤ s10) (
some ((Sum.inr ()), σ10)) (
jd_o σ10 (13, 29) (some 118) fun a12 =>
jd_ia σ10 20 (σ10.2.2.2 a12 17) (s10 + 9) fun a13 j13 =>
jd_ia σ10 20 (σ10.2.2.2 a12 17) s10 fun a14 j14 =>
jd_li (jd_pi σ10 a14 j14 (σ10.2.1 a13 j13)) fun τ15 =>
some (Sum.inl (s10 + 1), τ15))) jd_fu 0 σ) fun t11 σ11 =>
jd_o σ11 (13, 29) (some 118) fun a16 =>
jd_li (jd_pi σ11 a16 19 ((σ11.2.1 a16 19) - 1)) fun τ17 =>
some ((), τ17))) fun _ σ9 => some ((), σ9)) K = K () σ1 := fun K => by rw [e1, jb_some]
  have e3 : ∀ {β : Type} (c : Option (Unit × jd_Hp)) (K : Unit → jd_Hp → Option (β × jd_Hp)), jd_b (jd_b c fun _ σ9 => some ((), σ9)) K = jd_b c K := fun c K => by
    rcases c with _ | ⟨_, s⟩ <;> rfl
  have e19 : ∀ i, (cpo σ1 122 (9 * m) (σ1.2.1 120) i).2.1 118 19 = nI m := fun i => by
    rw [cpo_i, if_neg (by omega), h19]
  have F2 : Fr DR L0 σ (cpo σ1 122 (9 * m) (σ1.2.1 120) 9) := Fr_tr F1 (Fr_mono (cpo_fr _ _ _ _ _) (fun a k h => Or.inl h) fun _ h => h)
  refine ⟨jd_pi (cpo σ1 122 (9 * m) (σ1.2.1 120) 9) 118 19 (nI (m + 1)), ?_, ⟨?_, ?_, fun k hk => ?_, fun i hi' => ?_⟩, Fr_pi F2 (Or.inr ⟨rfl, rfl⟩)⟩
  · unfold m_X13_remembers
    rw [← e3, e2]
    rw [jlp_h 9 (fun i => nI i) (fun i => cpo σ1 122 (9 * m) (σ1.2.1 120) i) () (cpo σ1 122 (9 * m) (σ1.2.1 120) 9) (jfu (by omega)) ?_ ?_ ?_ ?_]
    · rw [jb_some, jo_cpo, jo_118 hW1, jli, e19, lx1, nI_add]
    · rfl
    · exact (cpo_0 _ _ _ _).symm
    · intro i hi
      have h6 : ¬ 9 ≤ i := by omega
      simp (disch := omega) only [jb_some, jli, jif, jd_q, jd_K0, jpi_s, jpi_l, jpi_p, jpl_s, jpl_i, jpl_p, if_true, if_false, if_pos, if_neg, not_true_eq_false, not_false_eq_true, ite_true, ite_false, Nat.not_lt_zero, eq_self, Nat.le_refl, Nat.lt_irrefl, Bool.false_eq_true, or0, jo_pi, jo_pl, jia_pi, jia_pl, jo_cpy, jia_cpy, cpy_r, m_X11_grant, m_X11_refuse, m_X13_good, m_X13_refused, reduceCtorEq, nI_add, nI_leI, nI_ltI, nI_eq, pk_mul, abs_nI, max_nI, min_nI, nI_m1, nI_m2, nI_le1, m1_lt, m2_lt, and_nI, or_nI, an_nI, has_nI, bit_nI, bc_nI, bits_nI, lx0, lx1, lx2, lx3, lx4, lx5, lx6, lx7, lx8, lx9, lx10, lx11, lx16, lx20, lx40, lx60, lx90, lx99, lx100, lx200, lx900, lx999, lx9999, h6, jo_cpo, jia_cpo, cpo_r, e19, jo_118 hW1, ja_120 hW1, ja_122 hW1, wr_118_15 hW1, wr_118_17 hW1]
      rw [← cpo_s, cpo_i, if_neg (by omega)]
    · simp (disch := omega) only [jb_some, jli, jif, jd_q, jd_K0, jpi_s, jpi_l, jpi_p, jpl_s, jpl_i, jpl_p, if_true, if_false, if_pos, if_neg, not_true_eq_false, not_false_eq_true, ite_true, ite_false, Nat.not_lt_zero, eq_self, Nat.le_refl, Nat.lt_irrefl, Bool.false_eq_true, or0, jo_pi, jo_pl, jia_pi, jia_pl, jo_cpy, jia_cpy, cpy_r, m_X11_grant, m_X11_refuse, m_X13_good, m_X13_refused, reduceCtorEq, nI_add, nI_leI, nI_ltI, nI_eq, pk_mul, abs_nI, max_nI, min_nI, nI_m1, nI_m2, nI_le1, m1_lt, m2_lt, and_nI, or_nI, an_nI, has_nI, bit_nI, bc_nI, bits_nI, lx0, lx1, lx2, lx3, lx4, lx5, lx6, lx7, lx8, lx9, lx10, lx11, lx16, lx20, lx40, lx60, lx90, lx99, lx100, lx200, lx900, lx999, lx9999]
  · rw [pi_eq]
    congr 1
    omega
  · rw [pi_ne _ _ (by omega), cpo_i, if_neg (by omega), F1.2.2.1 118 20 (by unfold DR; omega)]
    exact hP.2.1
  · have hmm : min (na + 1) 16 = m + 1 := by omega
    rw [hmm] at hk ⊢
    rcases k with _ | k
    · refine ScM_mv hN hn fun j hj => ?_
      rw [pi_ne _ _ (by omega), cpo_i, if_pos ⟨rfl, by omega, by omega⟩, ← g1]
      exact congrArg (σ1.2.1 120) (by omega)
    · refine ScM_mv (hH k (by omega)) hn fun j hj => ?_
      rw [pi_ne _ _ (by omega), cpo_i, if_neg (by omega)]
      exact congrArg (σ1.2.1 122) (by omega)
  · refine ScM_mv (hP.2.2.2 i hi') hn fun j hj => ?_
    rw [pi_ne _ _ (by omega), cpo_i, if_neg (by omega), F1.2.2.1 123 _ (by unfold DR; omega)]
theorem MR_act (h : MR (some (B, N), (na, H), (ni, I), (tl, tp), fl, wh, tr) σ) (f : Fr DN L0 σ σ') (hV : MV B N' σ') (hn : nOk B N') (hP : PM (B 8 3) na' H' ni' I' σ') (h1 : σ'.2.1 118 1 = nI 0) (h2 : σ'.2.1 118 2 = - nI 1) : MR (some (B, N'), (na', H'), (ni', I'), (tl, tp), fl, wh, 0) σ' ∧ GM σ σ' := by
  obtain ⟨b, ⟨hW, hS, hC, hV0, hb, hn0⟩, hP0, hTM, f1, f2, f3⟩ := h
  have g : ∀ a k, ¬ DN a k → σ'.2.1 a k = σ.2.1 a k := f.2.2.1
  refine ⟨⟨b, ⟨Fr_Wd f hW, by rw [f.2.1]; exact hS, MT_of hC f.1 f.2.1 fun a k ha => g a k ?_, hV, hb, hn⟩, hP, ⟨(g _ _ (by unfold DN; omega)).trans hTM.1, fun k hk => (g _ _ (by unfold DN; omega)).trans (hTM.2 k hk)⟩, (g _ _ (by unfold DN; omega)).trans f1, h1, h2⟩, GM_fr f (fun a k h => by unfold DN at h; omega) fun a h => absurd h id⟩
  have := hC.1
  unfold DN
  omega
theorem nB_le {σ : jd_Hp} {o : BO} {b : Nat} (h : RMc o b σ) : nB o ≤ 6 := by
  rcases o with _ | ⟨B, N⟩
  · exact Nat.zero_le _
  · exact h.2.2.2.2.1.2.1
theorem MR_fr {z : Zt} (h : MR z σ) {D : Nat → Nat → Prop} {t : Nat} (f : Fr D L0 σ σ1) (hd : ∀ a k, D a k → DM a k) (ht : σ1.2.1 118 1 = nI t) (hw : σ1.2.1 118 2 = - nI 1) (h4 : ¬ t = 4) : MR (sTr z t) σ1 ∧ GM σ σ1 := by
  obtain ⟨o, ⟨na, H⟩, ⟨ni, I⟩, ⟨tl, tp⟩, fl, wh, tr⟩ := z
  obtain ⟨b, hR, hP, hTM, f1, f2, f3⟩ := h
  have F : Fr DM L0 σ σ1 := Fr_mono f hd fun _ h => h
  have g : ∀ a k, ¬ DM a k → σ1.2.1 a k = σ.2.1 a k := F.2.2.1
  exact ⟨⟨b, RMc_fr hR F, PM_of hP (nB_le hR) (g _ _ (by unfold DM; omega)) (g _ _ (by unfold DM; omega)) fun a k h => g a k (by unfold DM; omega), ⟨(g _ _ (by unfold DM; omega)).trans hTM.1, fun k hk => (g _ _ (by unfold DM; omega)).trans (hTM.2 k hk)⟩, (g _ _ (by unfold DM; omega)).trans f1, ht, by rw [hw, if_neg h4]⟩, GM_fr F (fun a k h => by unfold DM at h; omega) fun a h => absurd h id⟩
theorem ZS_q {α : Type} {z : Zt} {c : Option (α × jd_Hp)} {r : α × Nat} (h : MR z σ) (q : OM c r σ) (h4 : ¬ r.2 = 4) : ZS c (r.1, sTr z r.2) σ := by
  obtain ⟨σ', e, f, ht, hw⟩ := q
  obtain ⟨h1, h2⟩ := MR_fr h f (fun _ _ h => h) ht hw h4
  exact ⟨σ', e, h1, h2⟩
theorem ZS_tr {α : Type} {z : Zt} {t : Nat} (h : MR z σ) (v : α) (h4 : ¬ t = 4) : ZS (some (v, jd_pi (jd_pi σ 118 1 (nI t)) 118 2 (- nI 1))) (v, sTr z t) σ := ZS_q h (r := (v, t)) (OM_of (Fr_refl _)) h4
theorem MR_0 {z : Zt} (h : MR z σ) : MR z (jd_pi σ 118 0 0) := by
  obtain ⟨o, ⟨na, H⟩, ⟨ni, I⟩, ⟨tl, tp⟩, fl, wh, tr⟩ := z
  obtain ⟨b, hR, hP, hTM, f1, f2, f3⟩ := h
  have F : Fr DM L0 σ (jd_pi σ 118 0 0) := Fr_pi (Fr_refl σ) (Or.inl ⟨rfl, by omega⟩)
  exact ⟨b, RMc_fr hR F, PM_of hP (nB_le hR) (pi_ne _ _ (by omega)) (pi_ne _ _ (by omega)) fun a k h => pi_ne _ _ (by omega), ⟨(pi_ne _ _ (by omega)).trans hTM.1, fun k hk => (pi_ne _ _ (by omega)).trans (hTM.2 k hk)⟩, (pi_ne _ _ (by omega)).trans f1, (pi_ne _ _ (by omega)).trans f2, (pi_ne _ _ (by omega)).trans f3⟩
theorem ZS_0 {α : Type} {c : Option (α × jd_Hp)} {r : α × Zt} (h : ZS c r (jd_pi σ 118 0 0)) : ZS c r σ := by
  obtain ⟨σ', e, hr, ⟨t, g1, g2, g3⟩, g4⟩ := h
  refine ⟨σ', e, hr, ⟨t, g1, g2, g3⟩, fun a k ha => ?_⟩
  obtain ⟨q1, q2, q3⟩ := g4 a k ha
  exact ⟨q1.trans (pi_ne _ _ (by omega)), q2, q3⟩
/-- an act's end -/
theorem gd_fr {D : Nat → Nat → Prop} (f : Fr D L0 σ σ1) (hd : ∀ a k, D a k → DN a k) : Fr DN L0 σ (jd_pi (jd_pi σ1 118 1 (nI 0)) 118 2 (- nI 1)) := Fr_pi (Fr_pi (Fr_mono f hd fun _ h => h) (Or.inl ⟨rfl, by omega⟩)) (Or.inl ⟨rfl, by omega⟩)
theorem gd_1 : (jd_pi (jd_pi σ1 118 1 (nI 0)) 118 2 (- nI 1)).2.1 118 1 = nI 0 := by
  rw [pi_ne _ _ (by omega), pi_eq]
theorem gd_ne {a k : Nat} (h : ¬ (a = 118 ∧ (k = 1 ∨ k = 2))) : (jd_pi (jd_pi σ1 118 1 (nI 0)) 118 2 (- nI 1)).2.1 a k = σ1.2.1 a k := by
  rw [pi_ne _ _ (by omega), pi_ne _ _ (by omega)]
theorem MR_gd (h : MR (some (B, N), (na, H), (ni, I), (tl, tp), fl, wh, tr) σ) {D : Nat → Nat → Prop} (f : Fr D L0 σ σ1) (hd : ∀ a k, D a k → DN a k) (hV : MV B N' σ1) (hn : nOk B N') (hP : PM (B 8 3) na' H' ni' I' σ1) (v : Int32) : ZS (some (v, jd_pi (jd_pi σ1 118 1 (nI 0)) 118 2 (- nI 1))) (v, (some (B, N'), (na', H'), (ni', I'), (tl, tp), fl, wh, 0)) σ := by
  have hb2 : B 8 3 ≤ 6 := by
    obtain ⟨b, hR, -⟩ := h
    exact nB_le hR
  obtain ⟨h1, h2⟩ := MR_act h (gd_fr f hd) (MV_of hV fun k => gd_ne (by omega)) hn (PM_of hP hb2 (gd_ne (by omega)) (gd_ne (by omega)) fun a k h => gd_ne (by omega)) gd_1 (pi_eq _ _ _ _)
  exact ⟨_, rfl, h1, h2⟩
theorem PM_wk (h : PM n na H ni I σ) (hn : n ≤ 6) : PM n na H ni I (wk σ) := PM_of h hn (by show (cpy σ 121 _ 9).2.1 118 19 = _; rw [cpy_i, if_neg (by omega)]) (by show (cpy σ 121 _ 9).2.1 118 20 = _; rw [cpy_i, if_neg (by omega)]) fun a k h => by
  show (cpy σ 121 _ 9).2.1 a k = _
  rw [cpy_i, if_neg (by omega)]
end
