/-! P (41): the reference writes what it reads -/
section
variable {tp : Nat → Nat} {n i r : Nat} {σ σ' σ1 : jd_Hp} {B : Bch} {α : Type} {A : Nat → Option (α × jd_Hp)} {A2 : Nat → Nat → Option (α × jd_Hp)} {j : Nat}
theorem mq_r9 (h : MQr B r σ) : σ.2.2.2 r 9 = some (r + 1) := mq_r h (i := 0) (by decide)
theorem mq_r10 (h : MQr B r σ) : σ.2.2.2 r 10 = some (r + 2) := mq_r h (i := 1) (by decide)
theorem mq_r11 (h : MQr B r σ) : σ.2.2.2 r 11 = some (r + 3) := mq_r h (i := 2) (by decide)
theorem mq_r12 (h : MQr B r σ) : σ.2.2.2 r 12 = some (r + 4) := mq_r h (i := 3) (by decide)
theorem mq_r13 (h : MQr B r σ) : σ.2.2.2 r 13 = some (r + 5) := mq_r h (i := 4) (by decide)
theorem mq_r14 (h : MQr B r σ) : σ.2.2.2 r 14 = some (r + 6) := mq_r h (i := 5) (by decide)
theorem mq_r15 (h : MQr B r σ) : σ.2.2.2 r 15 = some (r + 7) := mq_r h (i := 6) (by decide)
theorem mq_r16 (h : MQr B r σ) : σ.2.2.2 r 16 = some (r + 8) := mq_r h (i := 7) (by decide)
theorem mq_r17 (h : MQr B r σ) : σ.2.2.2 r 17 = some (r + 9) := mq_r h (i := 8) (by decide)
theorem mq_r18 (h : MQr B r σ) : σ.2.2.2 r 18 = some (r + 10) := mq_r h (i := 9) (by decide)
theorem mq_r19 (h : MQr B r σ) : σ.2.2.2 r 19 = some (r + 11) := mq_r h (i := 10) (by decide)
theorem mq_j1' (h : MQr B r σ) (hj : j < 6) : jd_ia σ 20 (some (r + 1)) (nI j) A2 = A2 (r + 1) j := mq_j6 h (i := 0) (by decide) hj
theorem mq_j2' (h : MQr B r σ) (hj : j < 6) : jd_ia σ 20 (some (r + 2)) (nI j) A2 = A2 (r + 2) j := mq_j6 h (i := 1) (by decide) hj
theorem mq_j3' (h : MQr B r σ) (hj : j < 6) : jd_ia σ 20 (some (r + 3)) (nI j) A2 = A2 (r + 3) j := mq_j6 h (i := 2) (by decide) hj
theorem mq_j4' (h : MQr B r σ) (hj : j < 6) : jd_ia σ 20 (some (r + 4)) (nI j) A2 = A2 (r + 4) j := mq_j6 h (i := 3) (by decide) hj
theorem mq_j5' (h : MQr B r σ) (hj : j < 6) : jd_ia σ 20 (some (r + 5)) (nI j) A2 = A2 (r + 5) j := mq_j6 h (i := 4) (by decide) hj
theorem mq_j6' (h : MQr B r σ) (hj : j < 6) : jd_ia σ 20 (some (r + 6)) (nI j) A2 = A2 (r + 6) j := mq_j6 h (i := 5) (by decide) hj
theorem mq_j7' (h : MQr B r σ) (hj : j < 5) : jd_ia σ 20 (some (r + 7)) (nI j) A2 = A2 (r + 7) j := mq_j5 h (i := 0) (by decide) hj
theorem mq_j8' (h : MQr B r σ) (hj : j < 5) : jd_ia σ 20 (some (r + 8)) (nI j) A2 = A2 (r + 8) j := mq_j5 h (i := 1) (by decide) hj
theorem mq_j10' (h : MQr B r σ) (hj : j < 11) : jd_ia σ 20 (some (r + 10)) (nI j) A2 = A2 (r + 10) j := mq_jn h (i := 0) (by decide) hj
theorem mq_j11' (h : MQr B r σ) (hj : j < 11) : jd_ia σ 20 (some (r + 11)) (nI j) A2 = A2 (r + 11) j := mq_jn h (i := 1) (by decide) hj
theorem MQr_s (h : MQr B r σ) {i v : Nat} (hi : i < 9) : MQr (upB B 8 i v) r (jd_pi σ r i (nI v)) := by
  obtain ⟨h0, h1, h2, h3, h4, h5, h6, h7, h8, h9, h10, h11, h12, h13⟩ := h
  refine ⟨h0, h1, h2, h3, h4, h5, h6, h7, fun i' hi' => ?_, fun k p hk hp => ?_, fun k q hk hq => ?_, fun k hk => ?_, fun k hk => ?_, fun k hk => ?_⟩
  · by_cases e : i' = i
    · rw [e, pi_eq, upB_e]
    · rw [pi_ne _ _ (by omega), upB_n _ _ (by omega)]
      exact h8 i' hi'
  · rw [pi_ne _ _ (by omega), upB_n _ _ (by omega)]
    exact h9 k p hk hp
  · rw [pi_ne _ _ (by omega), upB_n _ _ (by omega)]
    exact h10 k q hk hq
  · rw [jpi_l, upB_n _ _ (by omega)]
    exact h11 k hk
  · rw [pi_ne _ _ (by omega), upB_n _ _ (by omega)]
    exact h12 k hk
  · rw [pi_ne _ _ (by omega), upB_n _ _ (by omega)]
    exact h13 k hk
theorem MQr_a (h : MQr B r σ) {k p v : Nat} (hk : k < 6) (hp : p < 6) : MQr (upB B k p v) r (jd_pi σ (r + (k + 1)) p (nI v)) := by
  obtain ⟨h0, h1, h2, h3, h4, h5, h6, h7, h8, h9, h10, h11, h12, h13⟩ := h
  refine ⟨h0, h1, h2, h3, h4, h5, h6, h7, fun i' hi' => ?_, fun k' p' hk' hp' => ?_, fun k' q hk' hq => ?_, fun k' hk' => ?_, fun k' hk' => ?_, fun k' hk' => ?_⟩
  · rw [pi_ne _ _ (by omega), upB_n _ _ (by omega)]
    exact h8 i' hi'
  · by_cases e : k' = k ∧ p' = p
    · obtain ⟨rfl, rfl⟩ := e
      rw [pi_eq, upB_e]
    · rw [pi_ne _ _ (by omega), upB_n _ _ (by omega)]
      exact h9 k' p' hk' hp'
  · rw [pi_ne _ _ (by omega), upB_n _ _ (by omega)]
    exact h10 k' q hk' hq
  · rw [jpi_l, upB_n _ _ (by omega)]
    exact h11 k' hk'
  · rw [pi_ne _ _ (by omega), upB_n _ _ (by omega)]
    exact h12 k' hk'
  · rw [pi_ne _ _ (by omega), upB_n _ _ (by omega)]
    exact h13 k' hk'
theorem MQr_b (h : MQr B r σ) {k q v : Nat} (hk : k < 2) (hq : q < 5) : MQr (upB B (k + 6) q v) r (jd_pi σ (r + (k + 7)) q (nI v)) := by
  obtain ⟨h0, h1, h2, h3, h4, h5, h6, h7, h8, h9, h10, h11, h12, h13⟩ := h
  refine ⟨h0, h1, h2, h3, h4, h5, h6, h7, fun i' hi' => ?_, fun k' p' hk' hp' => ?_, fun k' q' hk' hq' => ?_, fun k' hk' => ?_, fun k' hk' => ?_, fun k' hk' => ?_⟩
  · rw [pi_ne _ _ (by omega), upB_n _ _ (by omega)]
    exact h8 i' hi'
  · rw [pi_ne _ _ (by omega), upB_n _ _ (by omega)]
    exact h9 k' p' hk' hp'
  · by_cases e : k' = k ∧ q' = q
    · obtain ⟨rfl, rfl⟩ := e
      rw [pi_eq, upB_e]
    · rw [pi_ne _ _ (by omega), upB_n _ _ (by omega)]
      exact h10 k' q' hk' hq'
  · rw [jpi_l, upB_n _ _ (by omega)]
    exact h11 k' hk'
  · rw [pi_ne _ _ (by omega), upB_n _ _ (by omega)]
    exact h12 k' hk'
  · rw [pi_ne _ _ (by omega), upB_n _ _ (by omega)]
    exact h13 k' hk'
theorem MQr_l (h : MQr B r σ) {k v : Nat} : MQr (upB B 9 k v) r (jd_pl σ (r + 9) k (lN v)) := by
  obtain ⟨h0, h1, h2, h3, h4, h5, h6, h7, h8, h9, h10, h11, h12, h13⟩ := h
  refine ⟨h0, h1, h2, h3, h4, h5, h6, h7, fun i' hi' => ?_, fun k' p' hk' hp' => ?_, fun k' q' hk' hq' => ?_, fun k' hk' => ?_, fun k' hk' => ?_, fun k' hk' => ?_⟩
  · rw [jpl_i, upB_n _ _ (by omega)]
    exact h8 i' hi'
  · rw [jpl_i, upB_n _ _ (by omega)]
    exact h9 k' p' hk' hp'
  · rw [jpl_i, upB_n _ _ (by omega)]
    exact h10 k' q' hk' hq'
  · by_cases e : k' = k
    · rw [e, pl_eq, upB_e]
    · rw [pl_ne _ _ (by omega), upB_n _ _ (by omega)]
      exact h11 k' hk'
  · rw [jpl_i, upB_n _ _ (by omega)]
    exact h12 k' hk'
  · rw [jpl_i, upB_n _ _ (by omega)]
    exact h13 k' hk'
theorem MQr_10 (h : MQr B r σ) {k v : Nat} : MQr (upB B 10 k v) r (jd_pi σ (r + 10) k (nI v)) := by
  obtain ⟨h0, h1, h2, h3, h4, h5, h6, h7, h8, h9, h10, h11, h12, h13⟩ := h
  refine ⟨h0, h1, h2, h3, h4, h5, h6, h7, fun i' hi' => ?_, fun k' p' hk' hp' => ?_, fun k' q' hk' hq' => ?_, fun k' hk' => ?_, fun k' hk' => ?_, fun k' hk' => ?_⟩
  · rw [pi_ne _ _ (by omega), upB_n _ _ (by omega)]
    exact h8 i' hi'
  · rw [pi_ne _ _ (by omega), upB_n _ _ (by omega)]
    exact h9 k' p' hk' hp'
  · rw [pi_ne _ _ (by omega), upB_n _ _ (by omega)]
    exact h10 k' q' hk' hq'
  · rw [jpi_l, upB_n _ _ (by omega)]
    exact h11 k' hk'
  · by_cases e : k' = k
    · rw [e, pi_eq, upB_e]
    · rw [pi_ne _ _ (by omega), upB_n _ _ (by omega)]
      exact h12 k' hk'
  · rw [pi_ne _ _ (by omega), upB_n _ _ (by omega)]
    exact h13 k' hk'
theorem MQr_11 (h : MQr B r σ) {k v : Nat} : MQr (upB B 11 k v) r (jd_pi σ (r + 11) k (nI v)) := by
  obtain ⟨h0, h1, h2, h3, h4, h5, h6, h7, h8, h9, h10, h11, h12, h13⟩ := h
  refine ⟨h0, h1, h2, h3, h4, h5, h6, h7, fun i' hi' => ?_, fun k' p' hk' hp' => ?_, fun k' q' hk' hq' => ?_, fun k' hk' => ?_, fun k' hk' => ?_, fun k' hk' => ?_⟩
  · rw [pi_ne _ _ (by omega), upB_n _ _ (by omega)]
    exact h8 i' hi'
  · rw [pi_ne _ _ (by omega), upB_n _ _ (by omega)]
    exact h9 k' p' hk' hp'
  · rw [pi_ne _ _ (by omega), upB_n _ _ (by omega)]
    exact h10 k' q' hk' hq'
  · rw [jpi_l, upB_n _ _ (by omega)]
    exact h11 k' hk'
  · rw [pi_ne _ _ (by omega), upB_n _ _ (by omega)]
    exact h12 k' hk'
  · by_cases e : k' = k
    · rw [e, pi_eq, upB_e]
    · rw [pi_ne _ _ (by omega), upB_n _ _ (by omega)]
      exact h13 k' hk'
def DYr (r a k : Nat) : Prop := DY a k ∨ r ≤ a ∧ a ≤ r + 11
def LYr (r a : Nat) : Prop := LY a ∨ r ≤ a ∧ a ≤ r + 11
def DRr (r a _k : Nat) : Prop := r ≤ a ∧ a ≤ r + 11
def LRr (r a : Nat) : Prop := r ≤ a ∧ a ≤ r + 11
theorem y_names (hQ : MQr B r σ) (hm : B 8 8 < 11) {w so q : Nat} : ∃ σ', m_X13_names 118 (lN w) (nI so) (nI q) σ = some ((), σ') ∧ MQr (addN B w so q) r σ' ∧ Fr (DRr r) (LRr r) σ σ' := by
  have h1 := hQ.2.1
  have e8 : σ.2.1 r 8 = nI (B 8 8) := mq_s hQ (by decide)
  have q1 := MQr_l hQ (k := B 8 8) (v := w)
  have q2 := MQr_10 q1 (k := B 8 8) (v := so)
  have q3 := MQr_11 q2 (k := B 8 8) (v := q)
  have q4 := MQr_s q3 (i := 8) (v := B 8 8 + 1) (by decide)
  have s1 : (jd_pl σ (r + 9) (B 8 8) (lN w)).2.1 r 8 = nI (B 8 8) := e8
  have s2 : (jd_pi (jd_pl σ (r + 9) (B 8 8) (lN w)) (r + 10) (B 8 8) (nI so)).2.1 r 8 = nI (B 8 8) := (pi_ne _ _ (by omega)).trans s1
  have s3 : (jd_pi (jd_pi (jd_pl σ (r + 9) (B 8 8) (lN w)) (r + 10) (B 8 8) (nI so)) (r + 11) (B 8 8) (nI q)).2.1 r 8 = nI (B 8 8) := (pi_ne _ _ (by omega)).trans s2
  refine ⟨jd_pi (jd_pi (jd_pi (jd_pl σ (r + 9) (B 8 8) (lN w)) (r + 10) (B 8 8) (nI so)) (r + 11) (B 8 8) (nI q)) r 8 (nI (B 8 8 + 1)), ?_, q4, Fr_pi (Fr_pi (Fr_pi (Fr_pl (Fr_refl σ) (by unfold LRr; omega)) (by unfold DRr; omega)) (by unfold DRr; omega)) (by unfold DRr; omega)⟩
  unfold m_X13_names
  rw [hQ.1, mq_o hQ, mq_r17 hQ, e8, mq_jl hQ hm, jli, q1.1, mq_o q1, mq_r18 q1, s1, mq_j10' q1 hm, jli, q2.1, mq_o q2, mq_r19 q2, s2, mq_j11' q2 hm, jli, q3.1, mq_o q3, s3, jli, lx1, nI_add]
/-! a new NAME, a told one, a LINE's first WORD -/
theorem y_readFresh (hB : MB tp n σ) (hK : MK tp n i σ) (hi : i ≤ n) (hQ : MQr B r σ) (hm : B 8 8 ≤ 11) (h9 : ∀ k, B 9 k < 2 ^ 40) : RZ (e_new tp n B i) (m_X13_readFresh 118 σ) σ (fun x v σ' => v = lN x.1 ∧ MK tp n x.2 σ') := by
  have e1 := y_isName hi hK
  unfold e_new
  rcases h1 : isNm tp n i with _ | _
  · rw [h1] at e1
    have ef := y_flaw hK (f := 1)
    have o5 := fl_OV (σ := σ) (f := 1) (s := tS tp n i)
    have F5 := fl_fr (σ := σ) (f := 1) (s := tS tp n i)
    have e2 : m_X13_readFresh 118 σ = m_X13_readFresh 118 (jd_pi (jd_pi (jd_pi σ 118 12 (nI 1)) 118 13 (nI (tS tp n i))) 118 9 (nI 5)) := by
      unfold m_X13_readFresh
      rw [e1, jb_some, jif_f (by decide), show (1 : Int32) = nI 1 from rfl, ef, jb_some, jb_some, ov_isName o5.1, jb_some, jif_f (by decide), ov_flaw o5.1, jb_some, jb_some]
    rw [e2, if_f rfl]
    generalize jd_pi (jd_pi (jd_pi σ 118 12 (nI 1)) 118 13 (nI (tS tp n i))) 118 9 (nI 5) = τ at *
    rw [ov_readFresh (Fr_Wd F5 hB.1) o5.1 (MQr_fr hQ F5 (fun a k h => by unfold DY at h; omega) fun a h => by unfold LY at h; omega) hm]
    exact ⟨_, τ, rfl, F5, o5⟩
  · obtain ⟨h2, h3⟩ := isNm_t h1
    have hw : tW tp n i < 2 ^ 40 := wv_lt (tok_W hi h2).1
    have e14 := hK.2.2.2.1 h2
    have ed := y_find hQ hm h9 hw
    rw [h1] at e1
    unfold m_X13_readFresh
    rw [if_t rfl, e1, if_t rfl, jb_some, jif_t (by decide), jb_some, jo_118 hB.1, hQ.1, mq_o hQ, e14, ed, jb_some]
    rcases h4 : fnd B (tW tp n i) with _ | k
    · obtain ⟨σ2, a2, hK2, F2, c2, hB2⟩ := y_go hB hK hi
      show RZ (.inr (tW tp n i, tE tp n i)) (jd_b (jd_if (- nI 1 = (-1)) _ _) _) σ _
      rw [jif_t (show - nI 1 = (-1 : Int32) from rfl), jb_some, jo_118 hB.1, jli, e14, a2, jb_some]
      exact ⟨_, σ2, rfl, F2, c2, rfl, hK2⟩
    · have hk := (fnd_lt h4).1
      have ef := y_flaw hK (f := 3)
      have o5 := fl_OV (σ := σ) (f := 3) (s := tS tp n i)
      have F5 := fl_fr (σ := σ) (f := 3) (s := tS tp n i)
      show RZ (.inl (3, tS tp n i)) (jd_b (jd_if (nI k = (-1)) _ _) _) σ _
      rw [jif_f (by show ¬ nI k = - nI 1; rw [nI_m1 (by omega)]; exact id), show (3 : Int32) = nI 3 from rfl, ef, jb_some, jb_some, jo_118 (Fr_Wd F5 hB.1), jli, ov_goesOn o5.1, jb_some]
      exact ⟨_, _, rfl, F5, o5⟩
theorem y_knownOne (hB : MB tp n σ) (hK : MK tp n i σ) (hi : i ≤ n) (hQ : MQr B r σ) (hm : B 8 8 ≤ 11) (h9 : ∀ k, B 9 k < 2 ^ 40) (h10 : ∀ k, B 10 k ≤ 1) {so : Nat} (hso : so ≤ 1) : RZ (e_told tp n B so i) (m_X13_knownOne 118 (nI so) σ) σ (fun x v σ' => v = nI x.1 ∧ σ' = σ ∧ x.2 = tE tp n i) := by
  have e1 := y_isName hi hK
  have ff : ∀ (f : Nat) (v : Int32), RZ (.inl (f, tS tp n i)) (jd_o (jd_pi (jd_pi (jd_pi σ 118 12 (nI f)) 118 13 (nI (tS tp n i))) 118 9 (nI 5)) (13, 29) (some 118) fun a17 =>
jd_if (¬ ((jd_pi (jd_pi (jd_pi σ 118 12 (nI f)) 118 13 (nI (tS tp n i))) 118 9 (nI 5)).2.1 a17 9) = 5) (
jd_o (jd_pi (jd_pi (jd_pi σ 118 12 (nI f)) 118 13 (nI (tS tp n i))) 118 9 (nI 5)) (12, 20) ((jd_pi (jd_pi (jd_pi σ 118 12 (nI f)) 118 13 (nI (tS tp n i))) 118 9 (nI 5)).2.2.2 a17 4) fun a18 =>
jd_ia (jd_pi (jd_pi (jd_pi σ 118 12 (nI f)) 118 13 (nI (tS tp n i))) 118 9 (nI 5)) 20 ((jd_pi (jd_pi (jd_pi σ 118 12 (nI f)) 118 13 (nI (tS tp n i))) 118 9 (nI 5)).2.2.2 a18 19) v fun a19 j19 =>
some (((jd_pi (jd_pi (jd_pi σ 118 12 (nI f)) 118 13 (nI (tS tp n i))) 118 9 (nI 5)).2.1 a19 j19), (jd_pi (jd_pi (jd_pi σ 118 12 (nI f)) 118 13 (nI (tS tp n i))) 118 9 (nI 5)))) (
some ((0 : Int32), (jd_pi (jd_pi (jd_pi σ 118 12 (nI f)) 118 13 (nI (tS tp n i))) 118 9 (nI 5))))) σ (fun (x : Nat × Nat) v σ' => v = nI x.1 ∧ σ' = σ ∧ x.2 = tE tp n i) := fun f v => by
    have o5 := fl_OV (σ := σ) (f := f) (s := tS tp n i)
    have F5 := fl_fr (σ := σ) (f := f) (s := tS tp n i)
    generalize jd_pi (jd_pi (jd_pi σ 118 12 (nI f)) 118 13 (nI (tS tp n i))) 118 9 (nI 5) = τ at *
    rw [jo_118 (Fr_Wd F5 hB.1), o5.1, jif_f (by simp only [Classical.not_not]; rfl)]
    exact ⟨_, τ, rfl, F5, o5⟩
  unfold e_told
  rcases h1 : isNm tp n i with _ | _
  · rw [h1] at e1
    have ef := y_flaw hK (f := 1)
    have o5 := fl_OV (σ := σ) (f := 1) (s := tS tp n i)
    have F5 := fl_fr (σ := σ) (f := 1) (s := tS tp n i)
    have e2 : m_X13_knownOne 118 (nI so) σ = m_X13_knownOne 118 (nI so) (jd_pi (jd_pi (jd_pi σ 118 12 (nI 1)) 118 13 (nI (tS tp n i))) 118 9 (nI 5)) := by
      unfold m_X13_knownOne
      rw [e1, jb_some, jif_f (by decide), show (1 : Int32) = nI 1 from rfl, ef, jb_some, jb_some, ov_isName o5.1, jb_some, jif_f (by decide), ov_flaw o5.1, jb_some, jb_some]
    rw [e2, if_f rfl]
    generalize jd_pi (jd_pi (jd_pi σ 118 12 (nI 1)) 118 13 (nI (tS tp n i))) 118 9 (nI 5) = τ at *
    rw [ov_knownOne (Fr_Wd F5 hB.1) o5.1 (MQr_fr hQ F5 (fun a k h => by unfold DY at h; omega) fun a h => by unfold LY at h; omega) hm]
    exact ⟨_, τ, rfl, F5, o5⟩
  · obtain ⟨h2, h3⟩ := isNm_t h1
    have hw : tW tp n i < 2 ^ 40 := wv_lt (tok_W hi h2).1
    have e14 := hK.2.2.2.1 h2
    have ed := y_find hQ hm h9 hw
    rw [h1] at e1
    unfold m_X13_knownOne
    rw [if_t rfl, e1, if_t rfl, jb_some, jif_t (by decide), jb_some, jo_118 hB.1, hQ.1, mq_o hQ, e14, ed, jb_some]
    rcases h4 : fnd B (tW tp n i) with _ | k
    · show RZ (.inl (2, tS tp n i)) (jd_b (jd_if (- nI 1 = (-1)) _ _) _) σ _
      rw [jif_t (show - nI 1 = (-1 : Int32) from rfl), show (2 : Int32) = nI 2 from rfl, y_flaw hK, jb_some, jb_some]
      exact ff 2 _
    · have hk := (fnd_lt h4).1
      have b10 := h10 k
      have c10 := mq_10 hQ (j := k) (by omega)
      have c11 := mq_11 hQ (j := k) (by omega)
      rw [show (Option.elim (some k) (- nI 1) nI) = nI k from rfl]
      show RZ (if B 10 k = so then .inr (B 11 k, tE tp n i) else .inl (2, tS tp n i)) (jd_b (jd_if (nI k = (-1)) _ _) _) σ _
      rw [jif_f (by show ¬ nI k = - nI 1; rw [nI_m1 (by omega)]; exact id), hQ.1, mq_o hQ, mq_r18 hQ, mq_j10' hQ (by omega), c10]
      by_cases h5 : B 10 k = so
      · rw [if_pos h5, jif_t (by rw [h5]), jb_some, jo_118 hB.1, jif_t (show ¬ σ.2.1 118 9 = 5 from MK_9 hK), hQ.1, mq_o hQ, mq_r19 hQ]
        show RZ _ (jd_ia σ 20 (some (r + 11)) (nI k) _) σ _
        rw [mq_j11' hQ (by omega), c11]
        exact ⟨_, σ, rfl, Fr_refl σ, rfl, rfl, rfl, rfl⟩
      · rw [if_neg h5, jif_f (by rw [nI_eq (by omega) (by omega)]; exact h5), show (2 : Int32) = nI 2 from rfl, y_flaw hK, jb_some, jb_some]
        exact ff 2 _
theorem y_lineBegins (hB : MB tp n σ) (hK : MK tp n i σ) (hi : i ≤ n) (hQ : MQr B r σ) (h60 : B 8 0 ≤ 60) {a b : Nat} (ha : a < 100) (hb : b < 100) : RZ (if a = b then (.inl (5, tS tp n i) : Fl ⊕ Nat) else if B 8 0 = 0 then .inl (6, tS tp n i) else .inr (tE tp n i)) (m_X13_lineBegins 118 (nI a) (nI b) σ) σ (fun j _ σ' => MK tp n j σ') := by
  have e0 : σ.2.1 r 0 = nI (B 8 0) := mq_s hQ (by decide)
  unfold m_X13_lineBegins
  by_cases h1 : a = b
  · have o5 := fl_OV (σ := σ) (f := 5) (s := tS tp n i)
    have F5 := fl_fr (σ := σ) (f := 5) (s := tS tp n i)
    rw [if_pos h1, jif_f (by rw [h1]; exact fun h => h rfl), show (5 : Int32) = nI 5 from rfl, y_flaw hK, jb_some, jb_some]
    generalize jd_pi (jd_pi (jd_pi σ 118 12 (nI 5)) 118 13 (nI (tS tp n i))) 118 9 (nI 5) = τ at *
    have hQ' := MQr_fr hQ F5 (fun a k h => by unfold DY at h; omega) fun a h => by unfold LY at h; omega
    rw [jo_118 (Fr_Wd F5 hB.1), hQ'.1, mq_o hQ']
    by_cases h2 : τ.2.1 r 0 = 0
    · rw [jif_f (fun h => h h2), ov_flaw o5.1, jb_some, ov_goesOn o5.1, jb_some]
      exact ⟨_, τ, rfl, F5, o5⟩
    · rw [jif_t h2, ov_goesOn o5.1, jb_some]
      exact ⟨_, τ, rfl, F5, o5⟩
  · rw [if_neg h1, jif_t (by rw [nI_eq (by omega) (by omega)]; exact h1), jb_some, jo_118 hB.1, hQ.1, mq_o hQ, e0]
    by_cases h2 : B 8 0 = 0
    · have o5 := fl_OV (σ := σ) (f := 6) (s := tS tp n i)
      have F5 := fl_fr (σ := σ) (f := 6) (s := tS tp n i)
      rw [if_pos h2, jif_f (by rw [h2]; exact fun h => h rfl), show (6 : Int32) = nI 6 from rfl, y_flaw hK, jb_some, ov_goesOn o5.1, jb_some]
      exact ⟨_, _, rfl, F5, o5⟩
    · obtain ⟨σ2, a2, hK2, F2, c2, hB2⟩ := y_go hB hK hi
      rw [if_neg h2, jif_t (by rw [lx0, nI_eq (by omega) (by omega)]; exact h2), a2, jb_some]
      exact ⟨_, σ2, rfl, F2, c2, hK2⟩
end
