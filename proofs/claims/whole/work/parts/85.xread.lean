/-! P (35): the class's other LINES, the whole text -/
section
variable {tp : Nat → Nat} {n i T : Nat} {σ σ' σ1 : jd_Hp} {D D' : Nat → Nat → Prop} {B B' : Bch} {α β : Type}
theorem told_0 (hO : rOk B) {q : Nat} (h : ∃ k, k < B 8 8 ∧ B 10 k = 0 ∧ q = B 11 k) : q < B 8 3 := by
  obtain ⟨k, h1, h2, rfl⟩ := h
  exact ((hO.2.2.2.2.2.2.2.2.2.2 k).2 h1).1 h2
theorem told_1 (hO : rOk B) {q : Nat} (h : ∃ k, k < B 8 8 ∧ B 10 k = 1 ∧ q = B 11 k) : q < B 8 4 := by
  obtain ⟨k, h1, h2, rfl⟩ := h
  exact ((hO.2.2.2.2.2.2.2.2.2.2 k).2 h1).2 h2
set_option maxHeartbeats 2000000 in
theorem x_readManned (h : CR tp n B T i σ) (hT : T = 47 ∨ T = 109) (h0 : ¬ B 8 0 = 0) : RX (e_manned tp n B i) (m_X9_readManned 35 (some T) σ) σ (DT T) (fun x σ' => CR tp n x.1 T x.2 σ') := by
  obtain ⟨hB, hi, h7, h5, h13, hN, ⟨c1, c2, c3, c4, c5⟩, hO⟩ := h
  obtain ⟨r1, r2, -, -, -, r6, -, r8, -, -, r11⟩ := id hO
  unfold m_X9_readManned e_manned
  refine RX_b (x_toldName (so := 1) hB h7 hi hN h5 (by omega) (by decide) fun k => (r11 k).1) (fun a k h => DLT h) fun x σ1 ex F1 q1 => ?_
  obtain ⟨x1, x2, x3⟩ := e_told_ok hi ex
  have x4 := told_1 hO x1
  have G1 : Fr (DT T) L0 σ σ1 := Fr_mono F1 (fun a k h => DLT h) fun _ h => h
  have hB1 := CB_T hB hT G1
  have g : ∀ a k, ¬ DLr a k → σ1.2.1 a k = σ.2.1 a k := F1.2.2.1
  have e13 : σ1.2.1 T 13 = nI (B 8 5) := (g _ _ (by unfold DLr; omega)).trans (c2 5 (by decide) (by decide))
  have b5 : B 8 5 < 64 := Nat.lt_of_lt_of_le r6 (pow6 (by omega))
  rw [joT hB1.1 hT, e13, q1.2.1, has_nI b5 (by omega), jb_some]
  by_cases h1 : (B 8 5).testBit x.1 = true
  · have e3 := x_fail (f := 3) q1.2.2
    rw [if_pos h1, if_pos h1, jif, if_neg (by decide)]
    show RX (.inl (3, tS tp n i)) (jd_b (m_X9_fail 35 (nI 3) σ1) _) σ1 (DT T) _
    rw [e3, jb_some]
    exact RX_f (Fr_refl σ1) (by unfold DT; omega) (by unfold DT; omega)
  · have e4 := fin_lift (B 8 5) b5 x.1 (by omega)
    rw [if_neg h1, if_neg h1, jif, if_pos rfl, jli, e13, q1.2.1, lx1, e4]
    have F2 : Fr (DT T) L0 σ1 (jd_pi σ1 T 13 (nI (B 8 5 ||| 2 ^ x.1))) := Fr_pi (Fr_refl σ1) (by unfold DT; omega)
    have n8 := nMan_8 B x.1
    have nn := fun k hk => nMan_n B x.1 (k := k) hk
    have fin : CR tp n (nMan B x.1) T x.2 (jd_pi σ1 T 13 (nI (B 8 5 ||| 2 ^ x.1))) := by
      refine ⟨CB_T hB hT (Fr_tr G1 F2), x3, (pi_ne _ _ (by omega)).trans q1.1, ?_, ?_, ?_, ⟨fun _ j hj => ?_, fun j h1 h2 => ?_, fun k p hk hp => ?_, fun k p h1 h2 hp => ?_, fun k q hk hq => ?_⟩, rOk_Man hO x4⟩
      · rw [pi_ne _ _ (by omega), g _ _ (by unfold DLr; omega), n8]
        exact h5
      · rw [pi_ne _ _ (by omega), g _ _ (by unfold DLr; omega), n8]
        exact h13
      · exact NmX_c (NmX_of hN fun a k h1 h2 => (pi_ne _ _ (by omega)).trans (g a k (by unfold DLr; omega))) (n8 8) (fun k _ => nn 9 (by decide) k) (fun k _ => nn 10 (by decide) k) (fun k _ => nn 11 (by decide) k)
      · rw [pi_ne _ _ (by omega), g _ _ (by unfold DLr; omega), n8, if_neg (by omega)]
        exact c1 h0 j hj
      · rw [n8]
        by_cases hj : j = 5
        · subst hj
          rw [if_pos rfl]
          exact pi_eq _ _ _ _
        · rw [if_neg hj, pi_ne _ _ (by omega), g _ _ (by unfold DLr; omega)]
          exact c2 j h1 h2
      · rw [n8] at hp
        rw [pi_ne _ _ (by omega), g _ _ (by unfold DLr; omega), nn k (by omega)]
        exact c3 k p hk hp
      · rw [pi_ne _ _ (by omega), g _ _ (by unfold DLr; omega), nn k (by omega)]
        exact c4 k p h1 h2 hp
      · rw [n8] at hq
        rw [pi_ne _ _ (by omega), g _ _ (by unfold DLr; omega), nn (k + 6) (by omega)]
        exact c5 k q hk hq
    exact ⟨_, rfl, F2, FrK_pi (FrK_refl _) (by omega), fin⟩
set_option maxHeartbeats 2000000 in
theorem x_readSign (h : CR tp n B T i σ) (hT : T = 47 ∨ T = 109) (h0 : ¬ B 8 0 = 0) {s : Nat} (hs : 1 ≤ s) (hs2 : s ≤ 2) : RX (e_sign tp n B i s) (m_X9_readSign 35 (some T) (nI s) σ) σ (DT T) (fun x σ' => CR tp n x.1 T x.2 σ') := by
  obtain ⟨hB, hi, h7, h5, h13, hN, ⟨c1, c2, c3, c4, c5⟩, hO⟩ := h
  obtain ⟨r1, r2, -, -, -, r6, -, r8, r9, r10, r11⟩ := id hO
  unfold m_X9_readSign e_sign
  refine RX_b (x_toldName (so := 0) hB h7 hi hN h5 (by omega) (by decide) fun k => (r11 k).1) (fun a k h => DLT h) fun x σ1 ex F1 q1 => ?_
  obtain ⟨x1, x2, x3⟩ := e_told_ok hi ex
  have x4 := told_0 hO x1
  have G1 : Fr (DT T) L0 σ σ1 := Fr_mono F1 (fun a k h => DLT h) fun _ h => h
  have hB1 := CB_T hB hT G1
  have g : ∀ a k, ¬ DLr a k → σ1.2.1 a k = σ.2.1 a k := F1.2.2.1
  have e6 : σ1.2.1 (T + 6) x.1 = nI (B 5 x.1) := (g _ _ (by unfold DLr; omega)).trans (c4 5 x.1 (by decide) (by decide) (by omega))
  have b5 := (r10 x.1).2.2.2.2.2.1
  rw [joT hB1.1 hT, wrT5 hB1.1 hT, q1.2.1, jaT6 hB1.1 hT (by omega), e6, jif]
  by_cases h1 : B 5 x.1 = 0
  · rw [if_pos h1, if_pos (by rw [h1]; rfl), jaT6 hB1.1 hT (by omega), jli, jli]
    have e15 : (jd_pi σ1 (T + 6) x.1 (nI s)).2.1 T 15 = nI (B 8 7) := (pi_ne _ _ (by omega)).trans ((g _ _ (by unfold DLr; omega)).trans (c2 7 (by decide) (by decide)))
    rw [e15, lx1, nI_add]
    have F2 : Fr (DT T) L0 σ1 (jd_pi (jd_pi σ1 (T + 6) x.1 (nI s)) T 15 (nI (B 8 7 + 1))) := Fr_pi (Fr_pi (Fr_refl σ1) (by unfold DT; omega)) (by unfold DT; omega)
    have n8 := nSig_8 B x.1 s
    have nn := fun k hk hk2 => nSig_n B x.1 s (k := k) hk hk2
    have g2 : ∀ a k, ¬ DLr a k → ¬ (a = T + 6 ∧ k = x.1) → ¬ (a = T ∧ k = 15) → (jd_pi (jd_pi σ1 (T + 6) x.1 (nI s)) T 15 (nI (B 8 7 + 1))).2.1 a k = σ.2.1 a k := fun a k h1 h2 h3 => by
      rw [pi_ne _ _ h3, pi_ne _ _ h2, g a k h1]
    have w1 : (jd_pi (jd_pi σ1 (T + 6) x.1 (nI s)) T 15 (nI (B 8 7 + 1))).2.1 (T + 6) x.1 = nI s := by
      rw [pi_ne _ _ (by omega), pi_eq]
    have fin : CR tp n (nSig B x.1 s) T x.2 (jd_pi (jd_pi σ1 (T + 6) x.1 (nI s)) T 15 (nI (B 8 7 + 1))) := by
      refine ⟨CB_T hB hT (Fr_tr G1 F2), x3, ?_, ?_, ?_, ?_, ⟨fun _ j hj => ?_, fun j h1 h2 => ?_, fun k p hk hp => ?_, fun k p h1 h2 hp => ?_, fun k q hk hq => ?_⟩, rOk_Sig hO x4 h1 hs hs2⟩
      · rw [pi_ne _ _ (by omega), pi_ne _ _ (by omega)]
        exact q1.1
      · rw [g2 _ _ (by unfold DLr; omega) (by omega) (by omega), n8]
        exact h5
      · rw [g2 _ _ (by unfold DLr; omega) (by omega) (by omega), n8]
        exact h13
      · exact NmX_c (NmX_of hN fun a k h1 h2 => g2 a k (by unfold DLr; omega) (by omega) (by omega)) (n8 8) (fun k _ => nn 9 (by decide) (by decide) k) (fun k _ => nn 10 (by decide) (by decide) k) (fun k _ => nn 11 (by decide) (by decide) k)
      · rw [g2 _ _ (by unfold DLr; omega) (by omega) (by omega), n8, if_neg (by omega)]
        exact c1 h0 j hj
      · rw [n8]
        by_cases hj : j = 7
        · subst hj
          rw [if_pos rfl]
          exact pi_eq _ _ _ _
        · rw [if_neg hj, g2 _ _ (by unfold DLr; omega) (by omega) (by omega)]
          exact c2 j h1 h2
      · rw [n8] at hp
        rw [g2 _ _ (by unfold DLr; omega) (by omega) (by omega), nn k (by omega) (by omega)]
        exact c3 k p hk hp
      · rcases (show k = 4 ∨ k = 5 by omega) with rfl | rfl
        · rw [g2 _ _ (by unfold DLr; omega) (by omega) (by omega), nn 4 (by omega) (by omega)]
          exact c4 4 p h1 h2 hp
        · rw [nSig_5]
          by_cases hp2 : p = x.1
          · rw [hp2, if_pos rfl]
            exact w1
          · rw [if_neg hp2, g2 _ _ (by unfold DLr; omega) (by omega) (by omega)]
            exact c4 5 p h1 h2 hp
      · rw [n8] at hq
        rw [g2 _ _ (by unfold DLr; omega) (by omega) (by omega), nn (k + 6) (by omega) (by omega)]
        exact c5 k q hk hq
    exact ⟨_, rfl, F2, FrK_pi (FrK_pi (FrK_refl _) (by omega)) (by omega), fin⟩
  · have e3 := x_fail (f := 3) q1.2.2
    rw [if_neg h1, if_neg (by rw [lx0, nI_eq (by omega) (by omega)]; exact h1)]
    show RX (.inl (3, tS tp n i)) (jd_b (m_X9_fail 35 (nI 3) σ1) _) σ1 (DT T) _
    rw [e3, jb_some]
    exact RX_f (Fr_refl σ1) (by unfold DT; omega) (by unfold DT; omega)
set_option maxHeartbeats 2000000 in
theorem x_readKnows (h : CR tp n B T i σ) (hT : T = 47 ∨ T = 109) (h0 : ¬ B 8 0 = 0) {s0 : Nat} (h9 : σ.2.1 35 9 = nI s0) : RX (if B 8 6 < 9 then e_knows tp n B i else .inl (5, s0)) (m_X9_readKnows 35 (some T) σ) σ (DT T) (fun x σ' => CR tp n x.1 T x.2 σ') := by
  obtain ⟨hB, hi, h7, h5, h13, hN, ⟨c1, c2, c3, c4, c5⟩, hO⟩ := h
  obtain ⟨r1, r2, -, -, -, r6, r7, r8, r9, r10, r11⟩ := id hO
  have e14 : σ.2.1 T 14 = nI (B 8 6) := c2 6 (by decide) (by decide)
  unfold m_X9_readKnows
  rw [joT hB.1 hT, e14, jif]
  by_cases h6 : B 8 6 < 9
  · rw [if_pos h6, if_pos (by rw [lx9, nI_ltI (by omega) (by omega)]; exact h6)]
    unfold e_knows
    refine RX_b (x_toldName (so := 0) hB h7 hi hN h5 (by omega) (by decide) fun k => (r11 k).1) (fun a k h => DLT h) fun x σ1 ex F1 q1 => ?_
    obtain ⟨x1, x2, x3⟩ := e_told_ok hi ex
    have x4 := told_0 hO x1
    have G1 : Fr (DT T) L0 σ σ1 := Fr_mono F1 (fun a k h => DLT h) fun _ h => h
    have hB1 := CB_T hB hT G1
    have hN1 := NmX_of hN fun a k h1 h2 => F1.2.2.1 a k (by unfold DLr; omega)
    rw [jli, q1.2.1]
    refine RX_b (x_toldName (so := 0) hB1 q1.1 x3 hN1 ((F1.2.2.1 _ _ (by unfold DLr; omega)).trans h5) (by omega) (by decide) fun k => (r11 k).1) (fun a k h => DLT h) fun y σ2 ey F2 q2 => ?_
    obtain ⟨y1, y2, y3⟩ := e_told_ok x3 ey
    have y4 := told_0 hO y1
    have G2 : Fr (DT T) L0 σ σ2 := Fr_tr G1 (Fr_mono F2 (fun a k h => DLT h) fun _ h => h)
    have hB2 := CB_T hB hT G2
    have g : ∀ a k, ¬ DLr a k → σ2.2.1 a k = σ.2.1 a k := fun a k h => (F2.2.2.1 a k h).trans (F1.2.2.1 a k h)
    have e5 : σ2.2.1 (T + 5) x.1 = nI (B 4 x.1) := (g _ _ (by unfold DLr; omega)).trans (c4 4 x.1 (by decide) (by decide) (by omega))
    have b4 : B 4 x.1 < 64 := Nat.lt_of_lt_of_le (r10 x.1).2.2.2.2.1 (pow6 r1)
    have e3 := x_fail (f := 3) q2.2.2
    rw [q2.2.1, jif]
    by_cases h1 : y.1 = x.1
    · rw [if_pos h1, if_pos (by rw [h1])]
      show RX (.inl (3, tS tp n x.2)) (jd_b (m_X9_fail 35 (nI 3) σ2) _) σ2 (DT T) _
      rw [e3, jb_some]
      exact RX_f (Fr_refl σ2) (by unfold DT; omega) (by unfold DT; omega)
    · rw [if_neg h1, if_neg (show ¬ nI y.1 = nI x.1 by rw [nI_eq (by omega) (by omega)]; exact h1), wrT4 hB2.1 hT, jaT5 hB2.1 hT (by omega), e5, has_nI b4 (by omega), jb_some]
      by_cases h2 : (B 4 x.1).testBit y.1 = true
      · rw [if_pos h2, if_pos h2, jif, if_neg (by decide)]
        show RX (.inl (3, tS tp n x.2)) (jd_b (m_X9_fail 35 (nI 3) σ2) _) σ2 (DT T) _
        rw [e3, jb_some]
        exact RX_f (Fr_refl σ2) (by unfold DT; omega) (by unfold DT; omega)
      · have e4 := fin_lift (B 4 x.1) b4 y.1 (by omega)
        rw [if_neg h2, if_neg h2, jif, if_pos rfl, wrT4 hB2.1 hT, jaT5 hB2.1 hT (by omega), jaT5 hB2.1 hT (by omega), e5, q2.2.1, lx1, e4, jli, jli]
        have e15 : (jd_pi σ2 (T + 5) x.1 (nI (B 4 x.1 ||| 2 ^ y.1))).2.1 T 14 = nI (B 8 6) := (pi_ne _ _ (by omega)).trans ((g _ _ (by unfold DLr; omega)).trans e14)
        rw [e15, nI_add]
        have F3 : Fr (DT T) L0 σ2 (jd_pi (jd_pi σ2 (T + 5) x.1 (nI (B 4 x.1 ||| 2 ^ y.1))) T 14 (nI (B 8 6 + 1))) := Fr_pi (Fr_pi (Fr_refl σ2) (by unfold DT; omega)) (by unfold DT; omega)
        have n8 := nKno_8 B x.1 y.1
        have nn := fun k hk hk2 => nKno_n B x.1 y.1 (k := k) hk hk2
        have g2 : ∀ a k, ¬ DLr a k → ¬ (a = T + 5 ∧ k = x.1) → ¬ (a = T ∧ k = 14) → (jd_pi (jd_pi σ2 (T + 5) x.1 (nI (B 4 x.1 ||| 2 ^ y.1))) T 14 (nI (B 8 6 + 1))).2.1 a k = σ.2.1 a k := fun a k h1 h2 h3 => by
          rw [pi_ne _ _ h3, pi_ne _ _ h2, g a k h1]
        have w1 : (jd_pi (jd_pi σ2 (T + 5) x.1 (nI (B 4 x.1 ||| 2 ^ y.1))) T 14 (nI (B 8 6 + 1))).2.1 (T + 5) x.1 = nI (B 4 x.1 ||| 2 ^ y.1) := by
          rw [pi_ne _ _ (by omega), pi_eq]
        have fin : CR tp n (nKno B x.1 y.1) T y.2 (jd_pi (jd_pi σ2 (T + 5) x.1 (nI (B 4 x.1 ||| 2 ^ y.1))) T 14 (nI (B 8 6 + 1))) := by
          refine ⟨CB_T hB hT (Fr_tr G2 F3), y3, ?_, ?_, ?_, ?_, ⟨fun _ j hj => ?_, fun j h1 h2 => ?_, fun k p hk hp => ?_, fun k p h1 h2 hp => ?_, fun k q hk hq => ?_⟩, rOk_Kno hO h6 y4⟩
          · rw [pi_ne _ _ (by omega), pi_ne _ _ (by omega)]
            exact q2.1
          · rw [g2 _ _ (by unfold DLr; omega) (by omega) (by omega), n8]
            exact h5
          · rw [g2 _ _ (by unfold DLr; omega) (by omega) (by omega), n8]
            exact h13
          · exact NmX_c (NmX_of hN fun a k h1 h2 => g2 a k (by unfold DLr; omega) (by omega) (by omega)) (n8 8) (fun k _ => nn 9 (by decide) (by decide) k) (fun k _ => nn 10 (by decide) (by decide) k) (fun k _ => nn 11 (by decide) (by decide) k)
          · rw [g2 _ _ (by unfold DLr; omega) (by omega) (by omega), n8, if_neg (by omega)]
            exact c1 h0 j hj
          · rw [n8]
            by_cases hj : j = 6
            · subst hj
              rw [if_pos rfl]
              exact pi_eq _ _ _ _
            · rw [if_neg hj, g2 _ _ (by unfold DLr; omega) (by omega) (by omega)]
              exact c2 j h1 h2
          · rw [n8] at hp
            rw [g2 _ _ (by unfold DLr; omega) (by omega) (by omega), nn k (by omega) (by omega)]
            exact c3 k p hk hp
          · rcases (show k = 4 ∨ k = 5 by omega) with rfl | rfl
            · rw [nKno_4]
              by_cases hp2 : p = x.1
              · rw [hp2, if_pos rfl]
                exact w1
              · rw [if_neg hp2, g2 _ _ (by unfold DLr; omega) (by omega) (by omega)]
                exact c4 4 p h1 h2 hp
            · rw [g2 _ _ (by unfold DLr; omega) (by omega) (by omega), nn 5 (by omega) (by omega)]
              exact c4 5 p h1 h2 hp
          · rw [n8] at hq
            rw [g2 _ _ (by unfold DLr; omega) (by omega) (by omega), nn (k + 6) (by omega) (by omega)]
            exact c5 k q hk hq
        exact ⟨_, rfl, F3, FrK_pi (FrK_pi (FrK_refl _) (by omega)) (by omega), fin⟩
  · have e3 := x_fail (f := 5) h9
    rw [if_neg h6, if_neg (by rw [lx9, nI_ltI (by omega) (by omega)]; exact h6)]
    show RX (.inl (5, s0)) (jd_b (m_X9_fail 35 (nI 5) σ) _) σ (DT T) _
    rw [e3, jb_some]
    exact RX_f (Fr_refl σ) (by unfold DT; omega) (by unfold DT; omega)
theorem RX_1 {x : Fl ⊕ α} {c : Option (Int32 × jd_Hp)} {Q : α → jd_Hp → Prop} (h : RX x c σ D Q) : RX x (jd_b c fun r σ1 => some (r &&& 1, σ1)) σ D Q := by
  rcases x with f | a
  · obtain ⟨σ', h1, h2, h3⟩ := h
    refine ⟨σ', ?_, h2, h3⟩
    rw [h1]
    rfl
  · obtain ⟨σ', h1, h2, h3⟩ := h
    refine ⟨σ', ?_, h2, h3⟩
    rw [h1]
    rfl
theorem if_t {b : Bool} {x y : α} (h : b = true) : (if b then x else y) = x := by rw [h]; rfl
theorem if_f {b : Bool} {x y : α} (h : b = false) : (if b then x else y) = y := by rw [h]; rfl
set_option maxHeartbeats 2000000 in
theorem x_readLine (h : CR tp n B T i σ) (hT : T = 47 ∨ T = 109) : RX (e_line tp n B i) (m_X9_readLine 35 (some T) σ) σ (DT T) (fun x σ' => CR tp n x.1 T x.2 σ') := by
  obtain ⟨hB, hi, h7, h5, h13, hN, hC, hO⟩ := h
  obtain ⟨σ1, a1, hK1, F1, hB1⟩ := x_adv hB h7 hi
  have G1 : Fr (DT T) L0 σ σ1 := Fr_mono F1 (fun a k h => DLT (DVL h)) fun _ h => h
  have hj := (tE_le (tp := tp) hi).2
  have g : ∀ a k, ¬ DV a k → σ1.2.1 a k = σ.2.1 a k := F1.2.2.1
  have h1 : CR tp n B T (tE tp n i) σ1 := ⟨hB1, hj, hK1.2.2.2, (g _ _ (by unfold DV; omega)).trans h5, (g _ _ (by unfold DV; omega)).trans h13, NmX_of hN fun a k h1 h2 => g a k (by unfold DV; omega), ⟨fun h0 j hj => (g _ _ (by unfold DV; omega)).trans (hC.1 h0 j hj), fun j h1 h2 => (g _ _ (by unfold DV; omega)).trans (hC.2.1 j h1 h2), fun k p hk hp => (g _ _ (by unfold DV; omega)).trans (hC.2.2.1 k p hk hp), fun k p h1 h2 hp => (g _ _ (by unfold DV; omega)).trans (hC.2.2.2.1 k p h1 h2 hp), fun k q hk hq => (g _ _ (by unfold DV; omega)).trans (hC.2.2.2.2 k q hk hq)⟩, hO⟩
  have h13' : σ1.2.1 35 13 = nI (if B 8 0 = 0 then 0 else 1) := h1.2.2.2.2.1
  have eL := x_isLineWord hB1 hi hK1
  have e := fun (w : Nat) hw => x_isWord hB1 hi hK1 (w := w) hw
  have k9 := hK1.2.1
  unfold m_X9_readLine e_line
  refine RX_tr G1 (FrK_fr F1 (by unfold DV; omega) (by unfold DV; omega)) ?_
  rw [a1, jb_some, eL, jb_some]
  have fl : ∀ (f : Nat), RX (.inl (f, tS tp n i)) (jd_b (m_X9_fail 35 (nI f) σ1) fun r σ => some (r &&& 1, σ)) σ1 (DT T) (fun (x : Bch × Nat) σ' => CR tp n x.1 T x.2 σ') := fun f => by
    rw [x_fail k9, jb_some]
    exact RX_f (Fr_refl σ1) (by unfold DT; omega) (by unfold DT; omega)
  rcases hL : isLW tp n i with _ | _
  · rw [if_f rfl, if_f rfl, jif_f (by decide)]
    exact fl 1
  · rw [if_t rfl, if_t rfl, jif_t (by decide), e 0 (by decide), jb_some]
    rcases h0 : isWd tp n i 0 with _ | _
    · rw [if_f rfl, if_f rfl, jif_t (by decide), h13']
      by_cases hb : B 8 0 = 0
      · rw [if_pos hb, if_pos hb, jif_f (by decide)]
        exact fl 6
      · rw [if_neg hb, if_neg hb, jif_t (by decide), e 1 (by decide), jb_some]
        rcases isWd tp n i 1 with _ | _
        · rw [if_f rfl, if_f rfl, jif_t (by decide), e 2 (by decide), jb_some]
          rcases isWd tp n i 2 with _ | _
          · rw [if_f rfl, if_f rfl, jif_t (by decide), e 3 (by decide), jb_some]
            rcases isWd tp n i 3 with _ | _
            · rw [if_f rfl, if_f rfl, jif_t (by decide), e 4 (by decide), jb_some]
              rcases isWd tp n i 4 with _ | _
              · rw [if_f rfl, if_f rfl, jif_t (by decide), e 5 (by decide), jb_some]
                rcases isWd tp n i 5 with _ | _
                · rw [if_f rfl, if_f rfl, jif_t (by decide)]
                  exact RX_1 (x_readSign h1 hT hb (s := 2) (by decide) (by decide))
                · rw [if_t rfl, if_t rfl, jif_f (by decide)]
                  exact RX_1 (x_readSign h1 hT hb (s := 1) (by decide) (by decide))
              · rw [if_t rfl, if_t rfl, jif_f (by decide)]
                exact RX_1 (x_readKnows h1 hT hb k9)
            · rw [if_t rfl, if_t rfl, jif_f (by decide)]
              exact RX_1 (x_readManned h1 hT hb)
          · rw [if_t rfl, if_t rfl, jif_f (by decide)]
            exact RX_1 (x_readPost h1 hT hb k9)
        · rw [if_t rfl, if_t rfl, jif_f (by decide)]
          exact RX_1 (x_readPerson h1 hT hb k9)
    · rw [if_t rfl, if_t rfl, jif_f (by decide), h13']
      by_cases hb : B 8 0 = 0
      · rw [if_pos hb, if_pos hb, jif_t (by decide)]
        exact RX_1 (x_readBeach h1 hT hb)
      · rw [if_neg hb, if_neg hb, jif_f (by decide)]
        exact fl 3
end
