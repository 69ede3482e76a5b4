/-! P (36): the class's beach -/
theorem e_b_inr {α β : Type} {x : Fl ⊕ α} {f : α → Fl ⊕ β} {r : β} (h : e_b x f = .inr r) : ∃ a, x = .inr a ∧ f a = .inr r := by
  rcases x with e | a
  · exact absurd h (by simp [e_b])
  · exact ⟨a, rfl, h⟩
section
variable {tp : Nat → Nat} {n i j T : Nat} {σ σ' σ1 : jd_Hp} {B B' : Bch}
theorem e_beach_ok (h : i ≤ n) (e : e_beach tp n B i = .inr (B', j)) : i < j ∧ ¬ B' 8 0 = 0 := by
  obtain ⟨x, ex, e⟩ := e_b_inr e
  obtain ⟨y, ey, e⟩ := e_b_inr e
  obtain ⟨u, eu, e⟩ := e_b_inr e
  obtain ⟨x1, x2, x3, x4⟩ := e_lab_ok h ex
  obtain ⟨y1, y2, y3, y4⟩ := e_lab_ok x4 ey
  obtain ⟨u1, u2, u3, u4⟩ := e_lab_ok y4 eu
  injection e with e
  injection e with e1 e2
  subst e1
  subst e2
  refine ⟨by omega, ?_⟩
  rw [nBea_8, if_pos rfl]
  omega
theorem e_person_ok (h : i ≤ n) (h0 : ¬ B 8 0 = 0) (e : e_person tp n B i = .inr (B', j)) : i < j ∧ ¬ B' 8 0 = 0 := by
  obtain ⟨x, ex, e⟩ := e_b_inr e
  obtain ⟨x1, x2, x3, x4, x5, x6⟩ := e_new_ok h ex
  rcases hk : kdO tp n x.2 with _ | kd
  · rw [hk] at e
    exact absurd e (by simp)
  · rw [hk] at e
    obtain ⟨y, ey, e⟩ := e_b_inr e
    obtain ⟨u, eu, e⟩ := e_b_inr e
    obtain ⟨v, ev, e⟩ := e_b_inr e
    have hj := tE_le (tp := tp) x6
    have hs := tS_le (tp := tp) x6
    obtain ⟨y1, y2, y3, y4⟩ := e_lab_ok hj.2 ey
    obtain ⟨u1, u2, u3, u4⟩ := e_lab_ok y4 eu
    obtain ⟨v1, v2, v3, v4⟩ := e_lab_ok u4 ev
    injection e with e
    injection e with e1 e2
    subst e1
    subst e2
    refine ⟨by omega, ?_⟩
    rw [nPer_8, if_neg (by decide), if_neg (by decide)]
    exact h0
theorem e_post_ok (h : i ≤ n) (h0 : ¬ B 8 0 = 0) (e : e_post tp n B i = .inr (B', j)) : i < j ∧ ¬ B' 8 0 = 0 := by
  obtain ⟨x, ex, e⟩ := e_b_inr e
  obtain ⟨x1, x2, x3, x4, x5, x6⟩ := e_new_ok h ex
  obtain ⟨y, ey, e⟩ := e_b_inr e
  obtain ⟨u, eu, e⟩ := e_b_inr e
  obtain ⟨y1, y2, y3, y4⟩ := e_lab_ok x6 ey
  obtain ⟨u1, u2, u3, u4⟩ := e_lab_ok y4 eu
  injection e with e
  injection e with e1 e2
  subst e1
  subst e2
  refine ⟨by omega, ?_⟩
  rw [nPos_8, if_neg (by decide), if_neg (by decide)]
  exact h0
theorem e_manned_ok (h : i ≤ n) (h0 : ¬ B 8 0 = 0) (e : e_manned tp n B i = .inr (B', j)) : i < j ∧ ¬ B' 8 0 = 0 := by
  obtain ⟨x, ex, e⟩ := e_b_inr e
  obtain ⟨x1, x2, x3⟩ := e_told_ok h ex
  split at e
  · exact absurd e (by simp)
  · injection e with e
    injection e with e1 e2
    subst e1
    subst e2
    refine ⟨x2, ?_⟩
    rw [nMan_8, if_neg (by decide)]
    exact h0
theorem e_knows_ok (h : i ≤ n) (h0 : ¬ B 8 0 = 0) (e : e_knows tp n B i = .inr (B', j)) : i < j ∧ ¬ B' 8 0 = 0 := by
  obtain ⟨x, ex, e⟩ := e_b_inr e
  obtain ⟨x1, x2, x3⟩ := e_told_ok h ex
  obtain ⟨y, ey, e⟩ := e_b_inr e
  obtain ⟨y1, y2, y3⟩ := e_told_ok x3 ey
  split at e
  · exact absurd e (by simp)
  · split at e
    · exact absurd e (by simp)
    · injection e with e
      injection e with e1 e2
      subst e1
      subst e2
      refine ⟨by omega, ?_⟩
      rw [nKno_8, if_neg (by decide)]
      exact h0
theorem e_sign_ok {s : Nat} (h : i ≤ n) (h0 : ¬ B 8 0 = 0) (e : e_sign tp n B i s = .inr (B', j)) : i < j ∧ ¬ B' 8 0 = 0 := by
  obtain ⟨x, ex, e⟩ := e_b_inr e
  obtain ⟨x1, x2, x3⟩ := e_told_ok h ex
  split at e
  · injection e with e
    injection e with e1 e2
    subst e1
    subst e2
    refine ⟨x2, ?_⟩
    rw [nSig_8, if_neg (by decide)]
    exact h0
  · exact absurd e (by simp)
theorem e_line_ok (h : i ≤ n) (e : e_line tp n B i = .inr (B', j)) : i < j ∧ ¬ B' 8 0 = 0 := by
  have h1 := tS_le (tp := tp) h
  have h2 := tE_le (tp := tp) h
  have k : ∀ {B' : Bch} {j : Nat}, (tE tp n i < j ∧ ¬ B' 8 0 = 0) → i < j ∧ ¬ B' 8 0 = 0 := fun q => ⟨by omega, q.2⟩
  unfold e_line at e
  split at e
  · split at e
    · split at e
      · exact k (e_beach_ok h2.2 e)
      · exact absurd e (by simp)
    · split at e
      · exact absurd e (by simp)
      · rename_i h0
        split at e
        · split at e
          · exact k (e_person_ok h2.2 h0 e)
          · exact absurd e (by simp)
        · split at e
          · split at e
            · exact k (e_post_ok h2.2 h0 e)
            · exact absurd e (by simp)
          · split at e
            · exact k (e_manned_ok h2.2 h0 e)
            · split at e
              · split at e
                · exact k (e_knows_ok h2.2 h0 e)
                · exact absurd e (by simp)
              · split at e
                · exact k (e_sign_ok h2.2 h0 e)
                · exact k (e_sign_ok h2.2 h0 e)
  · exact absurd e (by simp)
theorem CR_dv (h : CR tp n B T i σ) (hT : T = 47 ∨ T = 109) (f : Fr DV L0 σ σ1) (h7 : σ1.2.1 35 7 = nI j) (hj : j ≤ n) : CR tp n B T j σ1 := by
  obtain ⟨hB, hi, -, h5, h13, hN, hC, hO⟩ := h
  have g : ∀ a k, ¬ DV a k → σ1.2.1 a k = σ.2.1 a k := f.2.2.1
  exact ⟨CB_fr hB f (fun k => by unfold DV; omega) (by unfold DV; omega), hj, h7, (g _ _ (by unfold DV; omega)).trans h5, (g _ _ (by unfold DV; omega)).trans h13, NmX_of hN fun a k h1 h2 => g a k (by unfold DV; omega), ⟨fun h0 j hj => (g _ _ (by unfold DV; omega)).trans (hC.1 h0 j hj), fun j h1 h2 => (g _ _ (by unfold DV; omega)).trans (hC.2.1 j h1 h2), fun k p hk hp => (g _ _ (by unfold DV; omega)).trans (hC.2.2.1 k p hk hp), fun k p h1 h2 hp => (g _ _ (by unfold DV; omega)).trans (hC.2.2.2.1 k p h1 h2 hp), fun k q hk hq => (g _ _ (by unfold DV; omega)).trans (hC.2.2.2.2 k q hk hq)⟩, hO⟩
def xrB (T : Nat) : Int32 → jd_Hp → Option ((Int32 ⊕ ((Unit) ⊕ Int32)) × jd_Hp) := fun s10 σ10 =>
jd_o σ10 (9, 16) (some 35) fun a12 =>
jd_if ((σ10.2.1 a12 6) < s10) (
some ((Sum.inr (Sum.inl ())), σ10)) (
jd_b (m_X9_readLine a12 (some T) σ10) fun r13 σ13 =>
jd_if (¬ r13 = 0) (
jd_b (m_X9_advance a12 σ13) fun r14 σ14 =>
jd_if (¬ (σ14.2.1 a12 8) = 0) (
jd_if ((σ14.2.1 a12 8) = 3) (
some (Sum.inl (s10 + 1), σ14)) (
jd_b (m_X9_fail a12 1 σ14) fun r15 σ15 =>
some (Sum.inr (Sum.inr (r15 &&& 1)), σ15))) (
jd_o σ14 (10, 16) (some T) fun a16 =>
jd_if (0 < (σ14.2.1 a16 11)) (
some (Sum.inr (Sum.inr 1), σ14)) (
jd_b (m_X9_fail a12 6 σ14) fun r17 σ17 =>
jd_if (r17 = 0) (
some (Sum.inr (Sum.inr 0), σ17)) (
some (Sum.inr (Sum.inr 1), σ17))))) (
some (Sum.inr (Sum.inr 0), σ13)))
def xrQ (tp : Nat → Nat) (n T : Nat) (x : Fl ⊕ Bch) (t : (Unit) ⊕ Int32) (σ σ' : jd_Hp) : Prop := match x with
  | .inl f => t = Sum.inr (nI 0) ∧ σ'.2.1 35 14 = nI f.1 ∧ σ'.2.1 35 15 = nI f.2
  | .inr B' => t = Sum.inr (nI 1) ∧ FrK σ σ' ∧ (∃ j, CR tp n B' T j σ') ∧ ¬ B' 8 0 = 0 ∧ 0 < B' 8 3
theorem xrQ_k {x : Fl ⊕ Bch} {t : (Unit) ⊕ Int32} (k : FrK σ σ1) (h : xrQ tp n T x t σ1 σ') : xrQ tp n T x t σ σ' := by
  rcases x with f | B'
  · exact h
  · exact ⟨h.1, FrK_tr k h.2.1, h.2.2⟩
set_option maxHeartbeats 2000000 in
theorem x_lines (hT : T = 47 ∨ T = 109) : ∀ (f line : Nat) (B : Bch) (i : Nat) (σ : jd_Hp) (g : Nat), CR tp n B T i σ → n < i + f → line ≤ i → f < g → ∃ t σ', jd_lp (xrB T) g (nI line) σ = some (t, σ') ∧ Fr (DT T) L0 σ σ' ∧ xrQ tp n T (e_all tp n f B i) t σ σ'
  | 0, line, B, i, σ, g, h, hf, _, _ => by
    have := h.2.1
    omega
  | f + 1, line, B, i, σ, g, h, hf, hl, hg => by
    obtain ⟨g', rfl⟩ : ∃ g', g = g' + 1 := ⟨g - 1, by omega⟩
    have hi := h.2.1
    have hn : n ≤ 900 := h.1.2.2.2.1
    have hW := h.1.1
    have hL := x_readLine h hT
    have e0 : xrB T (nI line) σ = (
jd_b (m_X9_readLine 35 (some T) σ) fun r13 σ13 =>
jd_if (¬ r13 = 0) (
jd_b (m_X9_advance 35 σ13) fun r14 σ14 =>
jd_if (¬ (σ14.2.1 35 8) = 0) (
jd_if ((σ14.2.1 35 8) = 3) (
some (Sum.inl (nI line + 1), σ14)) (
jd_b (m_X9_fail 35 1 σ14) fun r15 σ15 =>
some (Sum.inr (Sum.inr (r15 &&& 1)), σ15))) (
jd_o σ14 (10, 16) (some T) fun a16 =>
jd_if (0 < (σ14.2.1 a16 11)) (
some (Sum.inr (Sum.inr 1), σ14)) (
jd_b (m_X9_fail 35 6 σ14) fun r17 σ17 =>
jd_if (r17 = 0) (
some (Sum.inr (Sum.inr 0), σ17)) (
some (Sum.inr (Sum.inr 1), σ17))))) (
some (Sum.inr (Sum.inr 0), σ13))) := by
      unfold xrB
      rw [jo_35 hW, h.1.2.1, jif_f (by rw [nI_ltI (by omega) (by omega)]; omega)]
    show ∃ t σ', jd_b (xrB T (nI line) σ) _ = some (t, σ') ∧ _
    rw [e0]
    show ∃ t σ', _ ∧ _ ∧ xrQ tp n T (match e_line tp n B i with
    | .inl x => .inl x
    | .inr x => if tK tp n x.2 = 0 then (if 0 < x.1 8 3 then .inr x.1 else .inl (6, tS tp n x.2)) else if tK tp n x.2 = 3 then e_all tp n f x.1 (tE tp n x.2) else .inl (1, tS tp n x.2)) t σ σ'
    rcases he : e_line tp n B i with fl | ⟨B', j⟩
    · rw [he] at hL
      obtain ⟨σ', h1, h2, h3⟩ := hL
      refine ⟨Sum.inr (nI 0), σ', ?_, h2, rfl, h3⟩
      rw [h1]
      rfl
    · rw [he] at hL
      obtain ⟨σ2, h1, h2, h3, hC⟩ := hL
      have hC : CR tp n B' T j σ2 := hC
      obtain ⟨l1, l2⟩ := e_line_ok hi he
      obtain ⟨σ3, a3, hK, F3, hB3⟩ := x_adv hC.1 hC.2.2.1 hC.2.1
      have hj := hC.2.1
      have hE := tE_le (tp := tp) hj
      have G3 : Fr (DT T) L0 σ σ3 := Fr_tr h2 (Fr_mono F3 (fun a k h => DLT (DVL h)) fun _ h => h)
      have K3 : FrK σ σ3 := FrK_tr h3 (FrK_fr F3 (by unfold DV; omega) (by unfold DV; omega))
      have hC3 := CR_dv hC hT F3 hK.2.2.2 hE.2
      have hO := hC.2.2.2.2.2.2.2
      have k8 := hK.1
      have k4 := tK_le (tp := tp) (n := n) (i := j)
      rw [h1, jb_some, jif_t (by decide), a3, jb_some, k8]
      have ff : ∀ f, m_X9_fail 35 (nI f) σ3 = some (nI 0, jd_pi (jd_pi σ3 35 14 (nI f)) 35 15 (nI (tS tp n j))) := fun f => x_fail hK.2.1
      have G4 : ∀ f, Fr (DT T) L0 σ (jd_pi (jd_pi σ3 35 14 (nI f)) 35 15 (nI (tS tp n j))) := fun f => Fr_pi (Fr_pi G3 (by unfold DT; omega)) (by unfold DT; omega)
      have w14 : ∀ f, (jd_pi (jd_pi σ3 35 14 (nI f)) 35 15 (nI (tS tp n j))).2.1 35 14 = nI f := fun f => by
        rw [pi_ne _ _ (by omega), pi_eq]
      by_cases hk0 : tK tp n j = 0
      · have e11 : σ3.2.1 T 11 = nI (B' 8 3) := hC3.2.2.2.2.2.2.1.2.1 3 (by decide) (by decide)
        have b3 := hO.1
        simp only [hk0, if_true]
        rw [jif_f (by simp only [Classical.not_not]; rfl), joT hB3.1 hT, e11]
        by_cases h83 : 0 < B' 8 3
        · rw [jif_t (by rw [lx0, nI_ltI (by omega) (by omega)]; exact h83), if_pos h83]
          exact ⟨_, _, rfl, G3, rfl, K3, ⟨_, hC3⟩, l2, h83⟩
        · rw [jif_f (by rw [lx0, nI_ltI (by omega) (by omega)]; exact h83), if_neg h83]
          refine ⟨Sum.inr (nI 0), _, ?_, G4 6, rfl, w14 6, pi_eq _ _ _ _⟩
          rw [show (6 : Int32) = nI 6 from rfl, ff 6]
          rfl
      · rw [jif_t (by rw [lx0, nI_eq (by omega) (by omega)]; exact hk0)]
        simp only [hk0, if_false]
        by_cases hk3 : tK tp n j = 3
        · have hs := tok_S hj hk3
          rw [jif_t (by rw [hk3]; rfl)]
          simp only [hk3, if_true]
          obtain ⟨t, σ', q1, q2, q3⟩ := x_lines hT f (line + 1) B' (tE tp n j) σ3 g' hC3 (by omega) (by omega) (by omega)
          refine ⟨t, σ', ?_, Fr_tr G3 q2, xrQ_k K3 q3⟩
          rw [← q1, lx1, nI_add]
          rfl
        · rw [jif_f (by rw [lx3, nI_eq (by omega) (by omega)]; exact hk3)]
          simp only [hk3, if_false]
          refine ⟨Sum.inr (nI 0), _, ?_, G4 1, rfl, w14 1, pi_eq _ _ _ _⟩
          rw [show (1 : Int32) = nI 1 from rfl, ff 1]
          rfl
theorem jln_of {α : Type} {σ : jd_Hp} {kd a m : Nat} {A : Nat → Option (α × jd_Hp)} (h : σ.1[a]? = some (kd, m)) : jd_ln σ kd (some a) A = A m := by
  show (match σ.1[a]? with
    | some (k, n) => if k = kd then A n else none
    | none => none) = A m
  rw [h]
  exact if_pos rfl
set_option maxHeartbeats 1000000 in
theorem x_clear (hW : Wd σ) (hT : T = 47 ∨ T = 109) : ∃ σ', m_X10_clear T σ = some ((), σ') ∧ Fr (fun a k => a = T ∧ 11 ≤ k ∨ a = T + 5 ∨ a = T + 6) L0 σ σ' ∧ (∀ k, 11 ≤ k → k < 16 → σ'.2.1 T k = nI 0) ∧ ∀ p, p < 6 → σ'.2.1 (T + 5) p = nI 0 ∧ σ'.2.1 (T + 6) p = nI 0 := by
  unfold m_X10_clear
  have one := jlp_inv (body := fun (s1 : Int32) σ1 =>
jd_if (6 ≤ s1) (
some ((Sum.inr ()), σ1)) (
jd_o σ1 (10, 16) (some T) fun a3 =>
jd_ia σ1 20 (σ1.2.2.2 a3 4) s1 fun a4 j4 =>
jd_li (jd_pi σ1 a4 j4 0) fun τ5 =>
jd_ia τ5 20 (τ5.2.2.2 a3 5) s1 fun a6 j6 =>
jd_li (jd_pi τ5 a6 j6 0) fun τ7 =>
some (Sum.inl (s1 + 1), τ7))) 6 (fun i s σ' => s = nI i ∧ Fr (fun a k => a = T ∧ 11 ≤ k ∨ a = T + 5 ∨ a = T + 6) L0 σ σ' ∧ ∀ p, p < i → σ'.2.1 (T + 5) p = nI 0 ∧ σ'.2.1 (T + 6) p = nI 0)
    (fun _ σ' => Fr (fun a k => a = T ∧ 11 ≤ k ∨ a = T + 5 ∨ a = T + 6) L0 σ σ' ∧ ∀ p, p < 6 → σ'.2.1 (T + 5) p = nI 0 ∧ σ'.2.1 (T + 6) p = nI 0) ?_ ?_ jd_fu (jfu (by omega)) 0 σ ⟨rfl, Fr_refl σ, fun p hp => absurd hp (Nat.not_lt_zero p)⟩
  · obtain ⟨t, σ1, h1, hF1, hp⟩ := one
    have hW1 := Fr_Wd hF1 hW
    rw [h1, jb_some, joT hW1 hT, jli, jli, jli, jli, jli]
    have F : Fr (fun a k => a = T ∧ 11 ≤ k ∨ a = T + 5 ∨ a = T + 6) L0 σ (jd_pi (jd_pi (jd_pi (jd_pi (jd_pi σ1 T 11 0) T 12 0) T 13 0) T 14 0) T 15 0) := Fr_pi (Fr_pi (Fr_pi (Fr_pi (Fr_pi hF1 (Or.inl ⟨rfl, by decide⟩)) (Or.inl ⟨rfl, by decide⟩)) (Or.inl ⟨rfl, by decide⟩)) (Or.inl ⟨rfl, by decide⟩)) (Or.inl ⟨rfl, by decide⟩)
    refine ⟨_, rfl, F, fun k h11 h16 => ?_, fun p hp6 => ?_⟩
    · rcases (show k = 11 ∨ k = 12 ∨ k = 13 ∨ k = 14 ∨ k = 15 by omega) with rfl | rfl | rfl | rfl | rfl
      · rw [pi_ne _ _ (by omega), pi_ne _ _ (by omega), pi_ne _ _ (by omega), pi_ne _ _ (by omega), pi_eq]
        rfl
      · rw [pi_ne _ _ (by omega), pi_ne _ _ (by omega), pi_ne _ _ (by omega), pi_eq]
        rfl
      · rw [pi_ne _ _ (by omega), pi_ne _ _ (by omega), pi_eq]
        rfl
      · rw [pi_ne _ _ (by omega), pi_eq]
        rfl
      · rw [pi_eq]
        rfl
    · rw [pi_ne _ _ (by omega), pi_ne _ _ (by omega), pi_ne _ _ (by omega), pi_ne _ _ (by omega), pi_ne _ _ (by omega), pi_ne _ _ (by omega), pi_ne _ _ (by omega), pi_ne _ _ (by omega), pi_ne _ _ (by omega), pi_ne _ _ (by omega)]
      exact hp p hp6
  · rintro i s σ' hi ⟨rfl, hF, hp⟩
    have hW' := Fr_Wd hF hW
    have h6 : ¬ 6 ≤ i := by omega
    refine ⟨nI (i + 1), jd_pi (jd_pi σ' (T + 5) i (nI 0)) (T + 6) i (nI 0), ?_, rfl, Fr_pi (Fr_pi hF (Or.inr (Or.inl rfl))) (Or.inr (Or.inr rfl)), fun p hp2 => ?_⟩
    · simp (disch := omega) only [jb_some, jli, jif, jd_q, jd_K0, jpi_s, jpi_l, jpi_p, jpl_s, jpl_i, jpl_p, if_true, if_false, if_pos, if_neg, not_true_eq_false, not_false_eq_true, ite_true, ite_false, Nat.not_lt_zero, eq_self, Nat.le_refl, Nat.lt_irrefl, Bool.false_eq_true, or0, jo_pi, jo_pl, jia_pi, jia_pl, jo_cpy, jia_cpy, cpy_r, m_X11_grant, m_X11_refuse, m_X13_good, m_X13_refused, reduceCtorEq, nI_add, nI_leI, nI_ltI, nI_eq, pk_mul, abs_nI, max_nI, min_nI, nI_m1, nI_m2, nI_le1, m1_lt, m2_lt, and_nI, or_nI, an_nI, has_nI, bit_nI, bc_nI, bits_nI, lx0, lx1, lx2, lx3, lx4, lx5, lx6, lx7, lx8, lx9, lx10, lx11, lx16, lx20, lx40, lx60, lx90, lx99, lx100, lx200, lx900, lx999, lx9999, h6, joT hW' hT, wrT4 hW' hT, wrT5 hW' hT, jaT5 hW' hT, jaT6 hW' hT]
    · by_cases hpi : p = i
      · rw [hpi, pi_ne _ _ (by omega), pi_eq, pi_eq]
        exact ⟨rfl, rfl⟩
      · rw [pi_ne _ _ (by omega), pi_ne _ _ (by omega), pi_ne _ _ (by omega), pi_ne _ _ (by omega)]
        exact hp p (by omega)
  · rintro s σ' ⟨rfl, hF, hp⟩
    refine ⟨(), σ', ?_, hF, hp⟩
    simp (disch := omega) only [jb_some, jli, jif, jd_q, jd_K0, jpi_s, jpi_l, jpi_p, jpl_s, jpl_i, jpl_p, if_true, if_false, if_pos, if_neg, not_true_eq_false, not_false_eq_true, ite_true, ite_false, Nat.not_lt_zero, eq_self, Nat.le_refl, Nat.lt_irrefl, Bool.false_eq_true, or0, jo_pi, jo_pl, jia_pi, jia_pl, jo_cpy, jia_cpy, cpy_r, m_X11_grant, m_X11_refuse, m_X13_good, m_X13_refused, reduceCtorEq, nI_add, nI_leI, nI_ltI, nI_eq, pk_mul, abs_nI, max_nI, min_nI, nI_m1, nI_m2, nI_le1, m1_lt, m2_lt, and_nI, or_nI, an_nI, has_nI, bit_nI, bc_nI, bits_nI, lx0, lx1, lx2, lx3, lx4, lx5, lx6, lx7, lx8, lx9, lx10, lx11, lx16, lx20, lx40, lx60, lx90, lx99, lx100, lx200, lx900, lx999, lx9999]
set_option maxHeartbeats 1000000 in
theorem x_read {tl : Nat} (hW : Wd σ) (hX : TX tl tp σ) (ht : ∀ k, tp k < 256) (hl : tl ≤ 900) (hn : n ≤ tl) (hT : T = 47 ∨ T = 109) : ∃ r σ', m_X9_read 35 (nI n) (some T) σ = some (r, σ') ∧ Fr (fun a k => a = 35 ∨ 36 ≤ a ∧ a ≤ 39 ∨ T ≤ a ∧ a ≤ T + 8) L0 σ σ' ∧ (match e_all tp n (n + 1) B0 0 with
    | .inl f => r = nI 0 ∧ σ'.2.1 35 14 = nI f.1 ∧ σ'.2.1 35 15 = nI f.2
    | .inr B' => r = nI 1 ∧ σ'.2.1 35 14 = nI 0 ∧ σ'.2.1 35 15 = - nI 1 ∧ (∃ j, CR tp n B' T j σ') ∧ ¬ B' 8 0 = 0 ∧ 0 < B' 8 3) := by
  unfold m_X9_read
  rw [wr_35_0 hW, jln_of (wd hW 34 rfl), jli, jli, jli, jli, jli, jli]
  have em : jd_min (nI n) (Int32.ofNat 900) = nI n := by
    show jd_min (nI n) (nI 900) = nI n
    rw [min_nI (by omega) (by decide), Nat.min_eq_left (by omega)]
  rw [em]
  have F7 : Fr (fun a k => a = 35 ∨ 36 ≤ a ∧ a ≤ 39 ∨ T ≤ a ∧ a ≤ T + 8) L0 σ (jd_pi (jd_pi (jd_pi (jd_pi (jd_pi (jd_pi σ 35 6 (nI n)) 35 7 0) 35 5 0) 35 13 0) 35 14 0) 35 15 (-1)) := Fr_pi (Fr_pi (Fr_pi (Fr_pi (Fr_pi (Fr_pi (Fr_refl σ) (Or.inl rfl)) (Or.inl rfl)) (Or.inl rfl)) (Or.inl rfl)) (Or.inl rfl)) (Or.inl rfl)
  have v6 : (jd_pi (jd_pi (jd_pi (jd_pi (jd_pi (jd_pi σ 35 6 (nI n)) 35 7 0) 35 5 0) 35 13 0) 35 14 0) 35 15 (-1)).2.1 35 6 = nI n := by
    rw [pi_ne _ _ (by omega), pi_ne _ _ (by omega), pi_ne _ _ (by omega), pi_ne _ _ (by omega), pi_ne _ _ (by omega), pi_eq]
  have v7 : (jd_pi (jd_pi (jd_pi (jd_pi (jd_pi (jd_pi σ 35 6 (nI n)) 35 7 0) 35 5 0) 35 13 0) 35 14 0) 35 15 (-1)).2.1 35 7 = nI 0 := by
    rw [pi_ne _ _ (by omega), pi_ne _ _ (by omega), pi_ne _ _ (by omega), pi_ne _ _ (by omega), pi_eq]
    rfl
  have v5 : (jd_pi (jd_pi (jd_pi (jd_pi (jd_pi (jd_pi σ 35 6 (nI n)) 35 7 0) 35 5 0) 35 13 0) 35 14 0) 35 15 (-1)).2.1 35 5 = nI 0 := by
    rw [pi_ne _ _ (by omega), pi_ne _ _ (by omega), pi_ne _ _ (by omega), pi_eq]
    rfl
  have v13 : (jd_pi (jd_pi (jd_pi (jd_pi (jd_pi (jd_pi σ 35 6 (nI n)) 35 7 0) 35 5 0) 35 13 0) 35 14 0) 35 15 (-1)).2.1 35 13 = nI 0 := by
    rw [pi_ne _ _ (by omega), pi_ne _ _ (by omega), pi_eq]
    rfl
  have v14 : (jd_pi (jd_pi (jd_pi (jd_pi (jd_pi (jd_pi σ 35 6 (nI n)) 35 7 0) 35 5 0) 35 13 0) 35 14 0) 35 15 (-1)).2.1 35 14 = nI 0 := by
    rw [pi_ne _ _ (by omega), pi_eq]
    rfl
  have v15 : (jd_pi (jd_pi (jd_pi (jd_pi (jd_pi (jd_pi σ 35 6 (nI n)) 35 7 0) 35 5 0) 35 13 0) 35 14 0) 35 15 (-1)).2.1 35 15 = - nI 1 := by
    rw [pi_eq]
    rfl
  have hY : ∀ k, k < n → (jd_pi (jd_pi (jd_pi (jd_pi (jd_pi (jd_pi σ 35 6 (nI n)) 35 7 0) 35 5 0) 35 13 0) 35 14 0) 35 15 (-1)).2.1 34 k = bI (tp k) := fun k hk => by
    rw [pi_ne _ _ (by omega), pi_ne _ _ (by omega), pi_ne _ _ (by omega), pi_ne _ _ (by omega), pi_ne _ _ (by omega), pi_ne _ _ (by omega)]
    exact hX.2 k (by omega)
  generalize jd_pi (jd_pi (jd_pi (jd_pi (jd_pi (jd_pi σ 35 6 (nI n)) 35 7 0) 35 5 0) 35 13 0) 35 14 0) 35 15 (-1) = τ at *
  have hW7 := Fr_Wd F7 hW
  obtain ⟨σ9, e9, F9, c1, c2⟩ := x_clear hW7 hT
  have g9 : ∀ a k, a < 41 → σ9.2.1 a k = τ.2.1 a k := fun a k h => F9.2.2.1 a k (by omega)
  rw [joT hW7 hT, e9, jb_some]
  have G9 : Fr (fun a k => a = 35 ∨ 36 ≤ a ∧ a ≤ 39 ∨ T ≤ a ∧ a ≤ T + 8) L0 σ σ9 := Fr_tr F7 (Fr_mono F9 (fun a k h => by omega) fun _ h => h)
  have hC : CR tp n B0 T 0 σ9 := ⟨⟨Fr_Wd G9 hW, (g9 _ _ (by omega)).trans v6, fun k hk => (g9 _ _ (by omega)).trans (hY k hk), by omega, ht⟩, Nat.zero_le _, (g9 _ _ (by omega)).trans v7, (g9 _ _ (by omega)).trans v5, (g9 _ _ (by omega)).trans v13, ⟨fun _ => 0, fun _ => 0, fun k hk => absurd hk (Nat.not_lt_zero k)⟩, ⟨fun h => absurd rfl h, fun i h1 h2 => c1 _ (by omega) (by omega), fun k p _ hp => absurd hp (Nat.not_lt_zero p), fun k p h1 h2 hp => by
    rcases (show k = 4 ∨ k = 5 by omega) with rfl | rfl
    · exact (c2 p hp).1
    · exact (c2 p hp).2, fun k q _ hq => absurd hq (Nat.not_lt_zero q)⟩, rOk_0⟩
  obtain ⟨t, σ', e1, F1, q⟩ := x_lines hT (n + 1) 0 B0 0 σ9 jd_fu hC (by omega) (Nat.le_refl _) (jfu (by omega))
  have G1 : Fr (fun a k => a = 35 ∨ 36 ≤ a ∧ a ≤ 39 ∨ T ≤ a ∧ a ≤ T + 8) L0 σ σ' := Fr_tr G9 (Fr_mono F1 (fun a k h => by unfold DT at h; omega) fun _ h => h)
  have e2 : ∀ K : ((Unit) ⊕ Int32) → jd_Hp → Option (Int32 × jd_Hp), jd_b (jd_lp (xrB T) jd_fu 0 σ9) K = K t σ' := fun K => by
    rw [show (0 : Int32) = nI 0 from rfl, e1, jb_some]
  rcases he : e_all tp n (n + 1) B0 0 with f | B'
  · rw [he] at q
    obtain ⟨rfl, q2, q3⟩ := q
    refine ⟨nI 0, σ', ?_, G1, rfl, q2, q3⟩
    exact e2 _
  · rw [he] at q
    obtain ⟨rfl, q2, q3⟩ := q
    refine ⟨nI 1, σ', ?_, G1, rfl, (q2.1.trans (g9 _ _ (by omega))).trans v14, (q2.2.trans (g9 _ _ (by omega))).trans v15, q3⟩
    exact e2 _
end
