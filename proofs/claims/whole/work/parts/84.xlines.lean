/-! P (34): the class's LINES -/
def CTr (B : Bch) (T : Nat) (σ : jd_Hp) : Prop := (¬ B 8 0 = 0 → ∀ i, i < 3 → σ.2.1 T (8 + i) = nI (B 8 i)) ∧ (∀ i, 3 ≤ i → i < 8 → σ.2.1 T (8 + i) = nI (B 8 i)) ∧ (∀ k p, k < 4 → p < B 8 3 → σ.2.1 (T + (k + 1)) p = nI (B k p)) ∧ (∀ k p, 4 ≤ k → k < 6 → p < 6 → σ.2.1 (T + (k + 1)) p = nI (B k p)) ∧ ∀ k q, k < 2 → q < B 8 4 → σ.2.1 (T + (k + 7)) q = nI (B (k + 6) q)
def CR (tp : Nat → Nat) (n : Nat) (B : Bch) (T i : Nat) (σ : jd_Hp) : Prop := CB tp n σ ∧ i ≤ n ∧ σ.2.1 35 7 = nI i ∧ σ.2.1 35 5 = nI (B 8 8) ∧ σ.2.1 35 13 = nI (if B 8 0 = 0 then 0 else 1) ∧ NmX tp n B σ ∧ CTr B T σ ∧ rOk B
def DT (T a k : Nat) : Prop := a = 35 ∧ ¬ k = 6 ∨ 36 ≤ a ∧ a ≤ 39 ∨ T ≤ a ∧ a ≤ T + 8
section
variable {tp : Nat → Nat} {n i T : Nat} {σ σ' σ1 : jd_Hp} {D D' : Nat → Nat → Prop} {B B' : Bch} {α β : Type}
theorem RX_m {x : Fl ⊕ α} {c : Option (Int32 × jd_Hp)} {Q : α → jd_Hp → Prop} (h : RX x c σ D Q) (hd : ∀ a k, D a k → D' a k) : RX x c σ D' Q := by
  rcases x with f | a
  · obtain ⟨σ', h1, h2, h3⟩ := h
    exact ⟨σ', h1, Fr_mono h2 hd fun _ h => h, h3⟩
  · obtain ⟨σ', h1, h2, h3⟩ := h
    exact ⟨σ', h1, Fr_mono h2 hd fun _ h => h, h3⟩
theorem RX_tr {x : Fl ⊕ α} {c : Option (Int32 × jd_Hp)} {Q : α → jd_Hp → Prop} (f : Fr D L0 σ σ1) (k : FrK σ σ1) (h : RX x c σ1 D Q) : RX x c σ D Q := by
  rcases x with e | a
  · obtain ⟨σ', h1, h2, h3⟩ := h
    exact ⟨σ', h1, Fr_tr f h2, h3⟩
  · obtain ⟨σ', h1, h2, h3, h4⟩ := h
    exact ⟨σ', h1, Fr_tr f h2, FrK_tr k h3, h4⟩
theorem RX_b {x : Fl ⊕ α} {g : α → Fl ⊕ β} {c : Option (Int32 × jd_Hp)} {K : jd_Hp → Option (Int32 × jd_Hp)} {Q : α → jd_Hp → Prop} {Q' : β → jd_Hp → Prop} (h : RX x c σ D' Q) (hd : ∀ a k, D' a k → D a k) (k : ∀ a σ1, x = .inr a → Fr D' L0 σ σ1 → Q a σ1 → RX (g a) (K σ1) σ1 D Q') : RX (e_b x g) (jd_b c fun r σ1 => jd_if (¬ r = 0) (K σ1) (some (0, σ1))) σ D Q' := by
  rcases x with e | a
  · obtain ⟨σ', h1, h2, h3⟩ := h
    refine ⟨σ', ?_, Fr_mono h2 hd fun _ h => h, h3⟩
    rw [h1]
    rfl
  · obtain ⟨σ', h1, h2, h3, h4⟩ := h
    have e : (jd_b c fun r σ1 => jd_if (¬ r = 0) (K σ1) (some (0, σ1))) = K σ' := by
      rw [h1]
      rfl
    rw [e]
    exact RX_tr (Fr_mono h2 hd fun _ h => h) h3 (k a σ' rfl h2 h4)
theorem DLT {a k : Nat} (h : DLr a k) : DT T a k := by
  unfold DLr at h
  unfold DT
  omega
theorem DWT {a k : Nat} (h : DW a k) : DT T a k := by
  unfold DW DLr at h
  unfold DT
  omega
/-- what stays over all of a text -/
theorem CB_T (h : CB tp n σ) (hT : T = 47 ∨ T = 109) (f : Fr (DT T) L0 σ σ') : CB tp n σ' := CB_fr h f (fun k => by unfold DT; omega) (by unfold DT; omega)
theorem NmX_of (h : NmX tp n B σ) (e : ∀ a k, 36 ≤ a → a ≤ 39 → σ'.2.1 a k = σ.2.1 a k) : NmX tp n B σ' := NmX_fr (D := fun a k => ¬ (36 ≤ a ∧ a ≤ 39)) (L := fun _ => True) (σ' := (σ.1, σ'.2.1, σ'.2.2.1, σ.2.2.2)) h ⟨rfl, rfl, fun a k h => e a k (by omega) (by omega), fun a k h => absurd trivial h⟩ (fun a k h1 h2 h3 => h3 ⟨h1, h2⟩)
theorem NmX_c (h : NmX tp n B σ) (e8 : B' 8 8 = B 8 8) (e9 : ∀ k, k < B 8 8 → B' 9 k = B 9 k) (e10 : ∀ k, k < B 8 8 → B' 10 k = B 10 k) (e11 : ∀ k, k < B 8 8 → B' 11 k = B 11 k) : NmX tp n B' σ := by
  obtain ⟨ps, pl, h⟩ := h
  refine ⟨ps, pl, fun k hk => ?_⟩
  rw [e8] at hk
  rw [e9 k hk, e10 k hk, e11 k hk]
  exact h k hk
set_option maxHeartbeats 2000000 in
theorem x_readBeach (h : CR tp n B T i σ) (hT : T = 47 ∨ T = 109) (h0 : B 8 0 = 0) : RX (e_beach tp n B i) (m_X9_readBeach 35 (some T) σ) σ (DT T) (fun x σ' => CR tp n x.1 T x.2 σ') := by
  obtain ⟨hB, hi, h7, h5, h13, hN, hC, hO⟩ := h
  have F1 : Fr (DT T) L0 σ (jd_pi σ 35 13 1) := Fr_pi (Fr_refl σ) (Or.inl ⟨rfl, by decide⟩)
  unfold m_X9_readBeach e_beach
  rw [jli]
  refine RX_tr F1 (FrK_pi (FrK_refl _) (by omega)) (RX_b (x_labelled (w := 7) (lo := 1) (hh := 60) (CB_T hB hT F1) ((pi_ne _ _ (by omega)).trans h7) hi (by decide) (by decide) (by decide)) (fun a k h => DLT h) fun x σ2 ex F2 q2 => ?_)
  obtain ⟨x1, x2, x3, x4⟩ := e_lab_ok hi ex
  have G2 : Fr (DT T) L0 σ σ2 := Fr_tr F1 (Fr_mono F2 (fun a k h => DLT h) fun _ h => h)
  have hB2 := CB_T hB hT G2
  rw [joT hB2.1 hT, q2.1, jli]
  have F4 : Fr (DT T) L0 σ2 (jd_pi σ2 T 8 (nI x.1)) := Fr_pi (Fr_refl σ2) (by unfold DT; omega)
  refine RX_tr F4 (FrK_pi (FrK_refl _) (by omega)) (RX_b (x_labelled (w := 8) (lo := 0) (hh := 9) (CB_T hB2 hT F4) ((pi_ne _ _ (by omega)).trans q2.2) x4 (by decide) (by decide) (by decide)) (fun a k h => DLT h) fun y σ5 ey F5 q5 => ?_)
  obtain ⟨y1, y2, y3, y4⟩ := e_lab_ok x4 ey
  have G5 : Fr (DT T) L0 σ σ5 := Fr_tr (Fr_tr G2 F4) (Fr_mono F5 (fun a k h => DLT h) fun _ h => h)
  have hB5 := CB_T hB hT G5
  rw [q5.1, jli]
  have F6 : Fr (DT T) L0 σ5 (jd_pi σ5 T 9 (nI y.1)) := Fr_pi (Fr_refl σ5) (by unfold DT; omega)
  refine RX_tr F6 (FrK_pi (FrK_refl _) (by omega)) (RX_b (x_labelled (w := 9) (lo := 0) (hh := 100) (CB_T hB5 hT F6) ((pi_ne _ _ (by omega)).trans q5.2) y4 (by decide) (by decide) (by decide)) (fun a k h => DLT h) fun u σ7 eu F7 q7 => ?_)
  obtain ⟨u1, u2, u3, u4⟩ := e_lab_ok y4 eu
  have G7 : Fr (DT T) L0 σ σ7 := Fr_tr (Fr_tr G5 F6) (Fr_mono F7 (fun a k h => DLT h) fun _ h => h)
  rw [q7.1, jli]
  have F8 : Fr (DT T) L0 σ7 (jd_pi σ7 T 10 (nI u.1)) := Fr_pi (Fr_refl σ7) (by unfold DT; omega)
  have g : ∀ a k, ¬ DLr a k → ¬ (a = T ∧ (k = 8 ∨ k = 9 ∨ k = 10)) → ¬ (a = 35 ∧ k = 13) → (jd_pi σ7 T 10 (nI u.1)).2.1 a k = σ.2.1 a k := fun a k h1 h2 h3 => by
    rw [pi_ne _ _ (by omega), F7.2.2.1 a k h1, pi_ne _ _ (by omega), F5.2.2.1 a k h1, pi_ne _ _ (by omega), F2.2.2.1 a k h1, pi_ne _ _ (by omega)]
  have w8 : (jd_pi σ7 T 10 (nI u.1)).2.1 T 8 = nI x.1 := by
    rw [pi_ne _ _ (by omega), F7.2.2.1 T 8 (by unfold DLr; omega), pi_ne _ _ (by omega), F5.2.2.1 T 8 (by unfold DLr; omega), pi_eq]
  have w9 : (jd_pi σ7 T 10 (nI u.1)).2.1 T 9 = nI y.1 := by
    rw [pi_ne _ _ (by omega), F7.2.2.1 T 9 (by unfold DLr; omega), pi_eq]
  have w10 : (jd_pi σ7 T 10 (nI u.1)).2.1 T 10 = nI u.1 := pi_eq _ _ _ _
  have w13 : (jd_pi σ7 T 10 (nI u.1)).2.1 35 13 = nI 1 := by
    rw [pi_ne _ _ (by omega), F7.2.2.1 35 13 (by unfold DLr; omega), pi_ne _ _ (by omega), F5.2.2.1 35 13 (by unfold DLr; omega), pi_ne _ _ (by omega), F2.2.2.1 35 13 (by unfold DLr; omega), pi_eq]
    rfl
  have G8 := Fr_tr G7 F8
  obtain ⟨c1, c2, c3, c4, c5⟩ := hC
  have n0 := nBea_8 B x.1 y.1 u.1
  have nn := fun k hk => nBea_n B x.1 y.1 u.1 (k := k) hk
  have fin : CR tp n (nBea B x.1 y.1 u.1) T u.2 (jd_pi σ7 T 10 (nI u.1)) := by
    refine ⟨CB_T hB hT G8, u4, (pi_ne _ _ (by omega)).trans q7.2, ?_, ?_, ?_, ⟨fun _ j hj => ?_, fun j h1 h2 => ?_, fun k p hk hp => ?_, fun k p h1 h2 hp => ?_, fun k q hk hq => ?_⟩, rOk_Bea hO x2 y2 u2⟩
    · rw [g _ _ (by unfold DLr; omega) (by omega) (by omega), n0]
      exact h5
    · rw [w13, n0, if_pos rfl, if_neg (by omega)]
    · exact NmX_c (NmX_of hN fun a k h1 h2 => g a k (by unfold DLr; omega) (by omega) (by omega)) (n0 8) (fun k _ => nn 9 (by decide) k) (fun k _ => nn 10 (by decide) k) (fun k _ => nn 11 (by decide) k)
    · rcases (show j = 0 ∨ j = 1 ∨ j = 2 by omega) with rfl | rfl | rfl
      · rw [w8, n0]
        rfl
      · rw [w9, n0]
        rfl
      · rw [w10, n0]
        rfl
    · rw [g _ _ (by unfold DLr; omega) (by omega) (by omega), n0, if_neg (by omega), if_neg (by omega), if_neg (by omega)]
      exact c2 j h1 h2
    · rw [g _ _ (by unfold DLr; omega) (by omega) (by omega), nn k (by omega)]
      rw [n0] at hp
      exact c3 k p hk hp
    · rw [g _ _ (by unfold DLr; omega) (by omega) (by omega), nn k (by omega)]
      exact c4 k p h1 h2 hp
    · rw [g _ _ (by unfold DLr; omega) (by omega) (by omega), nn (k + 6) (by omega)]
      rw [n0] at hq
      exact c5 k q hk hq
  exact ⟨_, rfl, F8, FrK_pi (FrK_refl _) (by omega), fin⟩
theorem nPer_a (B : Bch) (w kd pl th by' k : Nat) : nPer B w kd pl th by' 9 k = addN B w 0 (B 8 3) 9 k ∧ nPer B w kd pl th by' 10 k = addN B w 0 (B 8 3) 10 k ∧ nPer B w kd pl th by' 11 k = addN B w 0 (B 8 3) 11 k := by
  unfold nPer upP
  refine ⟨?_, ?_, ?_⟩
  · rw [upB_n _ _ (by omega), upB_n _ _ (by omega), upB_n _ _ (by omega), upB_n _ _ (by omega), upB_n _ _ (by omega)]
  · rw [upB_n _ _ (by omega), upB_n _ _ (by omega), upB_n _ _ (by omega), upB_n _ _ (by omega), upB_n _ _ (by omega)]
  · rw [upB_n _ _ (by omega), upB_n _ _ (by omega), upB_n _ _ (by omega), upB_n _ _ (by omega), upB_n _ _ (by omega)]
theorem nPos_a (B : Bch) (w pl off k : Nat) : nPos B w pl off 9 k = addN B w 1 (B 8 4) 9 k ∧ nPos B w pl off 10 k = addN B w 1 (B 8 4) 10 k ∧ nPos B w pl off 11 k = addN B w 1 (B 8 4) 11 k := by
  unfold nPos upQ
  refine ⟨?_, ?_, ?_⟩
  · rw [upB_n _ _ (by omega), upB_n _ _ (by omega), upB_n _ _ (by omega)]
  · rw [upB_n _ _ (by omega), upB_n _ _ (by omega), upB_n _ _ (by omega)]
  · rw [upB_n _ _ (by omega), upB_n _ _ (by omega), upB_n _ _ (by omega)]
theorem kdO_le {kd : Nat} (h : kdO tp n i = some kd) : kd ≤ 3 ∧ tK tp n i = 1 := by
  unfold kdO at h
  split at h
  · rename_i h1
    injection h with h
    exact ⟨by omega, (isWd_t.mp h1).1⟩
  · split at h
    · rename_i h1
      injection h with h
      exact ⟨by omega, (isWd_t.mp h1).1⟩
    · split at h
      · rename_i h1
        injection h with h
        exact ⟨by omega, (isWd_t.mp h1).1⟩
      · split at h
        · rename_i h1
          injection h with h
          exact ⟨by omega, (isWd_t.mp h1).1⟩
        · exact absurd h (by simp)
set_option maxHeartbeats 4000000 in
theorem x_readPerson (h : CR tp n B T i σ) (hT : T = 47 ∨ T = 109) (h0 : ¬ B 8 0 = 0) {s0 : Nat} (h9 : σ.2.1 35 9 = nI s0) : RX (if B 8 3 < 6 then e_person tp n B i else .inl (5, s0)) (m_X9_readPerson 35 (some T) σ) σ (DT T) (fun x σ' => CR tp n x.1 T x.2 σ') := by
  obtain ⟨hB, hi, h7, h5, h13, hN, hC, hO⟩ := h
  obtain ⟨c1, c2, c3, c4, c5⟩ := hC
  obtain ⟨r1, r2, -, -, -, -, -, r8, -⟩ := id hO
  have e11 : σ.2.1 T 11 = nI (B 8 3) := c2 3 (by decide) (by decide)
  unfold m_X9_readPerson
  rw [joT hB.1 hT, e11, jli, jif]
  by_cases h6 : B 8 3 < 6
  · rw [if_pos h6, if_pos (by rw [lx6, nI_ltI (by omega) (by omega)]; exact h6)]
    unfold e_person
    refine RX_b (x_newName (so := 0) (q := B 8 3) hB h7 hi hN h5 (by omega) (by decide) rfl) (fun a k h => DWT h) fun x σ3 ex F3 q3 => ?_
    obtain ⟨x1, x2, x3, x4, x5, x6⟩ := e_new_ok hi ex
    have G3 : Fr (DT T) L0 σ σ3 := Fr_mono F3 (fun a k h => DWT h) fun _ h => h
    have hB3 := CB_T hB hT G3
    obtain ⟨σ4, a4, hK4, F4, hB4⟩ := x_adv hB3 q3.1 x6
    have F4' : Fr DLr L0 σ3 σ4 := Fr_mono F4 (fun a k h => DVL h) fun _ h => h
    have e5 := x_kindTold hB4 x6 hK4
    rw [a4, jb_some, e5, jb_some]
    have hj := (tE_le (tp := tp) x6).2
    rcases hkd : kdO tp n x.2 with _ | kd
    · have e3 := x_fail (f := 1) hK4.2.1
      rw [jif, if_neg (by simp only [Classical.not_not]; rfl)]
      show RX (.inl (1, tS tp n x.2)) (jd_b (m_X9_fail 35 (nI 1) σ4) _) σ3 (DT T) _
      rw [e3, jb_some]
      exact RX_f (Fr_mono F4' (fun a k h => DLT h) fun _ h => h) (by unfold DT; omega) (by unfold DT; omega)
    · obtain ⟨k3, -⟩ := kdO_le hkd
      rw [jif, if_pos (by show ¬ nI kd = - nI 1; rw [nI_m1 (by omega)]; exact id), wrT0 hB4.1 hT, jaT1 hB4.1 hT h6, jli]
      show RX (e_b (e_lab tp n 14 0 99 (tE tp n x.2)) _) _ σ3 (DT T) _
      have F7 : Fr (DT T) L0 σ4 (jd_pi σ4 (T + 1) (B 8 3) (nI kd)) := Fr_pi (Fr_refl σ4) (by unfold DT; omega)
      have G4 : Fr (DT T) L0 σ σ4 := Fr_tr G3 (Fr_mono F4' (fun a k h => DLT h) fun _ h => h)
      refine RX_tr (Fr_tr (Fr_mono F4' (fun a k h => DLT h) fun _ h => h) F7) (FrK_pi (FrK_fr F4 (by unfold DV; omega) (by unfold DV; omega)) (by omega)) (RX_b (x_labelled (w := 14) (lo := 0) (hh := 99) (CB_T hB4 hT F7) ((pi_ne _ _ (by omega)).trans hK4.2.2.2) hj (by decide) (by decide) (by decide)) (fun a k h => DLT h) fun y σ8 ey F8 q8 => ?_)
      obtain ⟨y1, y2, y3, y4⟩ := e_lab_ok hj ey
      have G8 : Fr (DT T) L0 σ σ8 := Fr_tr (Fr_tr G4 F7) (Fr_mono F8 (fun a k h => DLT h) fun _ h => h)
      have hB8 := CB_T hB hT G8
      rw [wrT1 hB8.1 hT, jaT2 hB8.1 hT h6, q8.1, jli]
      have F10 : Fr (DT T) L0 σ8 (jd_pi σ8 (T + 2) (B 8 3) (nI y.1)) := Fr_pi (Fr_refl σ8) (by unfold DT; omega)
      refine RX_tr F10 (FrK_pi (FrK_refl _) (by omega)) (RX_b (x_labelled (w := 15) (lo := 0) (hh := 99) (CB_T hB8 hT F10) ((pi_ne _ _ (by omega)).trans q8.2) y4 (by decide) (by decide) (by decide)) (fun a k h => DLT h) fun u σ11 eu F11 q11 => ?_)
      obtain ⟨u1, u2, u3, u4⟩ := e_lab_ok y4 eu
      have G11 : Fr (DT T) L0 σ σ11 := Fr_tr (Fr_tr G8 F10) (Fr_mono F11 (fun a k h => DLT h) fun _ h => h)
      have hB11 := CB_T hB hT G11
      rw [wrT2 hB11.1 hT, jaT3 hB11.1 hT h6, q11.1, jli]
      have F13 : Fr (DT T) L0 σ11 (jd_pi σ11 (T + 3) (B 8 3) (nI u.1)) := Fr_pi (Fr_refl σ11) (by unfold DT; omega)
      refine RX_tr F13 (FrK_pi (FrK_refl _) (by omega)) (RX_b (x_labelled (w := 16) (lo := 0) (hh := 100) (CB_T hB11 hT F13) ((pi_ne _ _ (by omega)).trans q11.2) u4 (by decide) (by decide) (by decide)) (fun a k h => DLT h) fun v σ14 ev F14 q14 => ?_)
      obtain ⟨v1, v2, v3, v4⟩ := e_lab_ok u4 ev
      have G14 : Fr (DT T) L0 σ σ14 := Fr_tr (Fr_tr G11 F13) (Fr_mono F14 (fun a k h => DLT h) fun _ h => h)
      have hB14 := CB_T hB hT G14
      rw [wrT3 hB14.1 hT, jaT4 hB14.1 hT h6, q14.1, jli, jli]
      have g3 : ∀ a k, ¬ DLr a k → ¬ (T + 1 ≤ a ∧ a ≤ T + 4 ∧ k = B 8 3) → (jd_pi σ14 (T + 4) (B 8 3) (nI v.1)).2.1 a k = σ3.2.1 a k := fun a k h1 h2 => by
        rw [pi_ne _ _ (by omega), F14.2.2.1 a k h1, pi_ne _ _ (by omega), F11.2.2.1 a k h1, pi_ne _ _ (by omega), F8.2.2.1 a k h1, pi_ne _ _ (by omega), F4'.2.2.1 a k h1]
      have w1 : (jd_pi σ14 (T + 4) (B 8 3) (nI v.1)).2.1 (T + 1) (B 8 3) = nI kd := by
        rw [pi_ne _ _ (by omega), F14.2.2.1 _ _ (by unfold DLr; omega), pi_ne _ _ (by omega), F11.2.2.1 _ _ (by unfold DLr; omega), pi_ne _ _ (by omega), F8.2.2.1 _ _ (by unfold DLr; omega), pi_eq]
      have w2 : (jd_pi σ14 (T + 4) (B 8 3) (nI v.1)).2.1 (T + 2) (B 8 3) = nI y.1 := by
        rw [pi_ne _ _ (by omega), F14.2.2.1 _ _ (by unfold DLr; omega), pi_ne _ _ (by omega), F11.2.2.1 _ _ (by unfold DLr; omega), pi_eq]
      have w3 : (jd_pi σ14 (T + 4) (B 8 3) (nI v.1)).2.1 (T + 3) (B 8 3) = nI u.1 := by
        rw [pi_ne _ _ (by omega), F14.2.2.1 _ _ (by unfold DLr; omega), pi_eq]
      have w4 : (jd_pi σ14 (T + 4) (B 8 3) (nI v.1)).2.1 (T + 4) (B 8 3) = nI v.1 := pi_eq _ _ _ _
      have g : ∀ a k, ¬ DW a k → ¬ (T + 1 ≤ a ∧ a ≤ T + 4 ∧ k = B 8 3) → (jd_pi σ14 (T + 4) (B 8 3) (nI v.1)).2.1 a k = σ.2.1 a k := fun a k h1 h2 => by
        rw [g3 a k (fun c => h1 (Or.inl c)) h2, F3.2.2.1 a k h1]
      have K16 : FrK σ14 (jd_pi σ14 (T + 4) (B 8 3) (nI v.1)) := FrK_pi (FrK_refl _) (by omega)
      have F16 : Fr (DT T) L0 σ14 (jd_pi σ14 (T + 4) (B 8 3) (nI v.1)) := Fr_pi (Fr_refl σ14) (by unfold DT; omega)
      have k7 : (jd_pi σ14 (T + 4) (B 8 3) (nI v.1)).2.1 35 7 = nI v.2 := (pi_ne _ _ (by omega)).trans q14.2
      generalize jd_pi σ14 (T + 4) (B 8 3) (nI v.1) = τ at *
      have e3 : τ.2.1 T 11 = nI (B 8 3) := (g T 11 (by unfold DW DLr; omega) (by omega)).trans e11
      rw [e3, lx1, nI_add]
      have F17 : Fr (DT T) L0 τ (jd_pi τ T 11 (nI (B 8 3 + 1))) := Fr_pi (Fr_refl τ) (by unfold DT; omega)
      have G17 := Fr_tr (Fr_tr G14 F16) F17
      have n8 := nPer_8 B x.1 kd y.1 u.1 v.1
      have na := nPer_a B x.1 kd y.1 u.1 v.1
      have fin : CR tp n (nPer B x.1 kd y.1 u.1 v.1) T v.2 (jd_pi τ T 11 (nI (B 8 3 + 1))) := by
        refine ⟨CB_T hB hT G17, v4, (pi_ne _ _ (by omega)).trans k7, ?_, ?_, ?_, ⟨fun hh j hj => ?_, fun j h1 h2 => ?_, fun k p hk hp => ?_, fun k p h1 h2 hp => ?_, fun k q hk hq => ?_⟩, rOk_Per hO h6 k3 y2 u2 v2⟩
        · rw [pi_ne _ _ (by omega), g3 _ _ (by unfold DLr; omega) (by omega), q3.2.1, n8]
          rfl
        · rw [pi_ne _ _ (by omega), g _ _ (by unfold DW DLr; omega) (by omega), h13, n8]
          rfl
        · exact NmX_c (NmX_of q3.2.2 fun a k h1 h2 => (pi_ne _ _ (by omega)).trans (g3 a k (by unfold DLr; omega) (by omega))) ((n8 8).trans (addN_8 _ _ _ _).symm) (fun k _ => (na k).1) (fun k _ => (na k).2.1) (fun k _ => (na k).2.2)
        · rw [pi_ne _ _ (by omega), g _ _ (by unfold DW DLr; omega) (by omega), n8, if_neg (by omega), if_neg (by omega)]
          exact c1 h0 j hj
        · rw [n8]
          by_cases hj : j = 3
          · subst hj
            rw [if_pos rfl]
            exact pi_eq _ _ _ _
          · rw [if_neg hj, if_neg (by omega), pi_ne _ _ (by omega), g _ _ (by unfold DW DLr; omega) (by omega)]
            exact c2 j h1 h2
        · rw [n8, if_pos rfl] at hp
          rw [pi_ne _ _ (by omega)]
          by_cases hpp : p = B 8 3
          · subst hpp
            rcases (show k = 0 ∨ k = 1 ∨ k = 2 ∨ k = 3 by omega) with rfl | rfl | rfl | rfl
            · rw [nPer_0, if_pos rfl]
              exact w1
            · rw [nPer_1, if_pos rfl]
              exact w2
            · rw [nPer_2, if_pos rfl]
              exact w3
            · rw [nPer_3, if_pos rfl]
              exact w4
          · rw [g _ _ (by unfold DW DLr; omega) (by omega)]
            have := c3 k p hk (by omega)
            rcases (show k = 0 ∨ k = 1 ∨ k = 2 ∨ k = 3 by omega) with rfl | rfl | rfl | rfl
            · rw [nPer_0, if_neg hpp]
              exact this
            · rw [nPer_1, if_neg hpp]
              exact this
            · rw [nPer_2, if_neg hpp]
              exact this
            · rw [nPer_3, if_neg hpp]
              exact this
        · rw [pi_ne _ _ (by omega), g _ _ (by unfold DW DLr; omega) (by omega)]
          rcases (show k = 4 ∨ k = 5 by omega) with rfl | rfl
          · rw [nPer_4]
            exact c4 4 p h1 h2 hp
          · rw [nPer_5]
            exact c4 5 p h1 h2 hp
        · rw [n8, if_neg (by decide), if_neg (by decide)] at hq
          rw [pi_ne _ _ (by omega), g _ _ (by unfold DW DLr; omega) (by omega)]
          rcases (show k = 0 ∨ k = 1 by omega) with rfl | rfl
          · rw [nPer_6]
            exact c5 0 q hk hq
          · rw [nPer_7]
            exact c5 1 q hk hq
      exact ⟨_, rfl, Fr_tr F16 F17, FrK_pi K16 (by omega), fin⟩
  · have e3 := x_fail (f := 5) h9
    rw [if_neg h6, if_neg (by rw [lx6, nI_ltI (by omega) (by omega)]; exact h6)]
    show RX (.inl (5, s0)) (jd_b (m_X9_fail 35 (nI 5) σ) _) σ (DT T) _
    rw [e3, jb_some]
    exact RX_f (Fr_refl σ) (by unfold DT; omega) (by unfold DT; omega)
set_option maxHeartbeats 4000000 in
theorem x_readPost (h : CR tp n B T i σ) (hT : T = 47 ∨ T = 109) (h0 : ¬ B 8 0 = 0) {s0 : Nat} (h9 : σ.2.1 35 9 = nI s0) : RX (if B 8 4 < 5 then e_post tp n B i else .inl (5, s0)) (m_X9_readPost 35 (some T) σ) σ (DT T) (fun x σ' => CR tp n x.1 T x.2 σ') := by
  obtain ⟨hB, hi, h7, h5, h13, hN, hC, hO⟩ := h
  obtain ⟨c1, c2, c3, c4, c5⟩ := hC
  obtain ⟨r1, r2, -, -, -, -, -, r8, -⟩ := id hO
  have e12 : σ.2.1 T 12 = nI (B 8 4) := c2 4 (by decide) (by decide)
  unfold m_X9_readPost
  rw [joT hB.1 hT, e12, jli, jif]
  by_cases h6 : B 8 4 < 5
  · rw [if_pos h6, if_pos (by rw [lx5, nI_ltI (by omega) (by omega)]; exact h6)]
    unfold e_post
    refine RX_b (x_newName (so := 1) (q := B 8 4) hB h7 hi hN h5 (by omega) (by decide) rfl) (fun a k h => DWT h) fun x σ3 ex F3 q3 => ?_
    obtain ⟨x1, x2, x3, x4, x5, x6⟩ := e_new_ok hi ex
    have G3 : Fr (DT T) L0 σ σ3 := Fr_mono F3 (fun a k h => DWT h) fun _ h => h
    have hB3 := CB_T hB hT G3
    refine RX_b (x_labelled (w := 14) (lo := 0) (hh := 99) hB3 q3.1 x6 (by decide) (by decide) (by decide)) (fun a k h => DLT h) fun y σ8 ey F8 q8 => ?_
    obtain ⟨y1, y2, y3, y4⟩ := e_lab_ok x6 ey
    have G8 : Fr (DT T) L0 σ σ8 := Fr_tr G3 (Fr_mono F8 (fun a k h => DLT h) fun _ h => h)
    have hB8 := CB_T hB hT G8
    rw [wrT6 hB8.1 hT, jaT7 hB8.1 hT h6, q8.1, jli]
    have F10 : Fr (DT T) L0 σ8 (jd_pi σ8 (T + 7) (B 8 4) (nI y.1)) := Fr_pi (Fr_refl σ8) (by unfold DT; omega)
    refine RX_tr F10 (FrK_pi (FrK_refl _) (by omega)) (RX_b (x_labelled (w := 17) (lo := 1) (hh := 40) (CB_T hB8 hT F10) ((pi_ne _ _ (by omega)).trans q8.2) y4 (by decide) (by decide) (by decide)) (fun a k h => DLT h) fun u σ11 eu F11 q11 => ?_)
    obtain ⟨u1, u2, u3, u4⟩ := e_lab_ok y4 eu
    have G11 : Fr (DT T) L0 σ σ11 := Fr_tr (Fr_tr G8 F10) (Fr_mono F11 (fun a k h => DLT h) fun _ h => h)
    have hB11 := CB_T hB hT G11
    rw [wrT7 hB11.1 hT, jaT8 hB11.1 hT h6, q11.1, jli, jli]
    have g3 : ∀ a k, ¬ DLr a k → ¬ (T + 7 ≤ a ∧ a ≤ T + 8 ∧ k = B 8 4) → (jd_pi σ11 (T + 8) (B 8 4) (nI u.1)).2.1 a k = σ3.2.1 a k := fun a k h1 h2 => by
      rw [pi_ne _ _ (by omega), F11.2.2.1 a k h1, pi_ne _ _ (by omega), F8.2.2.1 a k h1]
    have w1 : (jd_pi σ11 (T + 8) (B 8 4) (nI u.1)).2.1 (T + 7) (B 8 4) = nI y.1 := by
      rw [pi_ne _ _ (by omega), F11.2.2.1 _ _ (by unfold DLr; omega), pi_eq]
    have w2 : (jd_pi σ11 (T + 8) (B 8 4) (nI u.1)).2.1 (T + 8) (B 8 4) = nI u.1 := pi_eq _ _ _ _
    have g : ∀ a k, ¬ DW a k → ¬ (T + 7 ≤ a ∧ a ≤ T + 8 ∧ k = B 8 4) → (jd_pi σ11 (T + 8) (B 8 4) (nI u.1)).2.1 a k = σ.2.1 a k := fun a k h1 h2 => by
      rw [g3 a k (fun c => h1 (Or.inl c)) h2, F3.2.2.1 a k h1]
    have K16 : FrK σ11 (jd_pi σ11 (T + 8) (B 8 4) (nI u.1)) := FrK_pi (FrK_refl _) (by omega)
    have F16 : Fr (DT T) L0 σ11 (jd_pi σ11 (T + 8) (B 8 4) (nI u.1)) := Fr_pi (Fr_refl σ11) (by unfold DT; omega)
    have k7 : (jd_pi σ11 (T + 8) (B 8 4) (nI u.1)).2.1 35 7 = nI u.2 := (pi_ne _ _ (by omega)).trans q11.2
    generalize jd_pi σ11 (T + 8) (B 8 4) (nI u.1) = τ at *
    have e3 : τ.2.1 T 12 = nI (B 8 4) := (g T 12 (by unfold DW DLr; omega) (by omega)).trans e12
    rw [e3, lx1, nI_add]
    have F17 : Fr (DT T) L0 τ (jd_pi τ T 12 (nI (B 8 4 + 1))) := Fr_pi (Fr_refl τ) (by unfold DT; omega)
    have G17 := Fr_tr (Fr_tr G11 F16) F17
    have n8 := nPos_8 B x.1 y.1 u.1
    have na := nPos_a B x.1 y.1 u.1
    have nl := fun k hk => nPos_lo B x.1 y.1 u.1 (k := k) hk
    have fin : CR tp n (nPos B x.1 y.1 u.1) T u.2 (jd_pi τ T 12 (nI (B 8 4 + 1))) := by
      refine ⟨CB_T hB hT G17, u4, (pi_ne _ _ (by omega)).trans k7, ?_, ?_, ?_, ⟨fun hh j hj => ?_, fun j h1 h2 => ?_, fun k p hk hp => ?_, fun k p h1 h2 hp => ?_, fun k q hk hq => ?_⟩, rOk_Pos hO h6 y2 u2⟩
      · rw [pi_ne _ _ (by omega), g3 _ _ (by unfold DLr; omega) (by omega), q3.2.1, n8]
        rfl
      · rw [pi_ne _ _ (by omega), g _ _ (by unfold DW DLr; omega) (by omega), h13, n8]
        rfl
      · exact NmX_c (NmX_of q3.2.2 fun a k h1 h2 => (pi_ne _ _ (by omega)).trans (g3 a k (by unfold DLr; omega) (by omega))) ((n8 8).trans (addN_8 _ _ _ _).symm) (fun k _ => (na k).1) (fun k _ => (na k).2.1) (fun k _ => (na k).2.2)
      · rw [pi_ne _ _ (by omega), g _ _ (by unfold DW DLr; omega) (by omega), n8, if_neg (by omega), if_neg (by omega)]
        exact c1 h0 j hj
      · rw [n8]
        by_cases hj : j = 4
        · subst hj
          rw [if_pos rfl]
          exact pi_eq _ _ _ _
        · rw [if_neg hj, if_neg (by omega), pi_ne _ _ (by omega), g _ _ (by unfold DW DLr; omega) (by omega)]
          exact c2 j h1 h2
      · rw [n8, if_neg (by decide), if_neg (by decide)] at hp
        rw [pi_ne _ _ (by omega), g _ _ (by unfold DW DLr; omega) (by omega), nl k (by omega)]
        exact c3 k p hk hp
      · rw [pi_ne _ _ (by omega), g _ _ (by unfold DW DLr; omega) (by omega), nl k (by omega)]
        exact c4 k p h1 h2 hp
      · rw [n8, if_pos rfl] at hq
        rw [pi_ne _ _ (by omega)]
        by_cases hqq : q = B 8 4
        · subst hqq
          rcases (show k = 0 ∨ k = 1 by omega) with rfl | rfl
          · rw [nPos_6, if_pos rfl]
            exact w1
          · rw [nPos_7, if_pos rfl]
            exact w2
        · rw [g _ _ (by unfold DW DLr; omega) (by omega)]
          have := c5 k q hk (by omega)
          rcases (show k = 0 ∨ k = 1 by omega) with rfl | rfl
          · rw [nPos_6, if_neg hqq]
            exact this
          · rw [nPos_7, if_neg hqq]
            exact this
    exact ⟨_, rfl, Fr_tr F16 F17, FrK_pi K16 (by omega), fin⟩
  · have e3 := x_fail (f := 5) h9
    rw [if_neg h6, if_neg (by rw [lx5, nI_ltI (by omega) (by omega)]; exact h6)]
    show RX (.inl (5, s0)) (jd_b (m_X9_fail 35 (nI 5) σ) _) σ (DT T) _
    rw [e3, jb_some]
    exact RX_f (Fr_refl σ) (by unfold DT; omega) (by unfold DT; omega)
end
