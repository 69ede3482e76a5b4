/-! P (39): the reference's TOKENS -/
def MB (tp : Nat → Nat) (n : Nat) (σ : jd_Hp) : Prop := Wd σ ∧ σ.2.1 118 7 = nI n ∧ (∀ k, k < n → σ.2.1 119 k = bI (tp k)) ∧ n ≤ 900 ∧ ∀ k, tp k < 256
def mK (k : Nat) : Nat := if k = 4 then 0 else k + 1
def MK (tp : Nat → Nat) (n i : Nat) (σ : jd_Hp) : Prop := σ.2.1 118 9 = nI (mK (tK tp n i)) ∧ σ.2.1 118 10 = nI (tS tp n i) ∧ σ.2.1 118 8 = nI (tE tp n i) ∧ (tK tp n i = 1 → σ.2.2.1 118 14 = lN (tW tp n i)) ∧ (tK tp n i = 2 → σ.2.1 118 11 = nI (tV tp n i))
def DGo (a k : Nat) : Prop := a = 118 ∧ 8 ≤ k ∧ k ≤ 11
def LY (a : Nat) : Prop := a = 118
def bt (tp : Nat → Nat) (n i : Nat) : Int32 := if i < n then nI (tp i) else - nI 1
def tL (tp : Nat → Nat) (n i : Nat) : Bool := decide (i < n) && isL (tp i)
def tD (tp : Nat → Nat) (n i : Nat) : Bool := decide (i < n) && isD (tp i)
section
variable {tp : Nat → Nat} {n i : Nat} {σ σ' : jd_Hp} {D : Nat → Nat → Prop} {L : Nat → Prop}
theorem MB_fr (h : MB tp n σ) (f : Fr D L σ σ') (e : ∀ k, ¬ D 119 k) (e7 : ¬ D 118 7) : MB tp n σ' := ⟨Fr_Wd f h.1, (f.2.2.1 118 7 e7).trans h.2.1, fun k hk => (f.2.2.1 119 k (e k)).trans (h.2.2.1 k hk), h.2.2.2⟩
theorem y_byteAt (h : MB tp n σ) (hi : i ≤ n) : m_X13_byteAt 118 (nI i) σ = some (bt tp n i, σ) := by
  obtain ⟨hW, h7, hY, hn, ht⟩ := h
  unfold m_X13_byteAt bt
  rw [h7]
  by_cases h1 : i < n
  · rw [jif_f (by rw [nI_leI (by omega) (by omega)]; omega), wr_118_5 hW, jia_of (wd hW 119 rfl) (show i < 900 by omega) (by decide), hY i h1, b_255 (ht i), if_pos h1]
  · rw [jif_t (nI_le (by omega) (by omega)), if_neg h1]
    rfl
theorem y_isLetter (ht : ∀ k, tp k < 256) : m_X13_isLetter (bt tp n i) σ = some (if tL tp n i then nI 1 else nI 0, σ) := by
  unfold m_X13_isLetter bt tL
  have hu := ht i
  by_cases h1 : i < n
  · rw [if_pos h1, decide_eq_true h1, Bool.true_and]
    unfold isL
    by_cases h2 : tp i < 97
    · rw [jif_t (by rw [lx97, nI_ltI (by omega) (by omega)]; exact h2), decide_eq_false (by omega)]
      rfl
    · rw [jif_f (by rw [lx97, nI_ltI (by omega) (by omega)]; exact h2)]
      by_cases h3 : 122 < tp i
      · rw [jif_t (by rw [lx122, nI_ltI (by omega) (by omega)]; exact h3), decide_eq_false (by omega)]
        rfl
      · rw [jif_f (by rw [lx122, nI_ltI (by omega) (by omega)]; exact h3), decide_eq_true (by omega)]
        rfl
  · rw [if_neg h1, decide_eq_false h1, Bool.false_and]
    rfl
theorem y_isDigit (ht : ∀ k, tp k < 256) : m_X13_isDigit (bt tp n i) σ = some (if tD tp n i then nI 1 else nI 0, σ) := by
  unfold m_X13_isDigit bt tD
  have hu := ht i
  by_cases h1 : i < n
  · rw [if_pos h1, decide_eq_true h1, Bool.true_and]
    unfold isD
    by_cases h2 : tp i < 48
    · rw [jif_t (by rw [lx48, nI_ltI (by omega) (by omega)]; exact h2), decide_eq_false (by omega)]
      rfl
    · rw [jif_f (by rw [lx48, nI_ltI (by omega) (by omega)]; exact h2)]
      by_cases h3 : 57 < tp i
      · rw [jif_t (by rw [lx57, nI_ltI (by omega) (by omega)]; exact h3), decide_eq_false (by omega)]
        rfl
      · rw [jif_f (by rw [lx57, nI_ltI (by omega) (by omega)]; exact h3), decide_eq_true (by omega)]
        rfl
  · rw [if_neg h1, decide_eq_false h1, Bool.false_and]
    rfl
theorem tL_t (h1 : i < n) (h : isL (tp i) = true) : tL tp n i = true := by
  unfold tL
  rw [h, decide_eq_true h1]
  rfl
theorem tL_f (h : i < n → isL (tp i) = false) : tL tp n i = false := by
  unfold tL
  by_cases h1 : i < n
  · rw [h h1, Bool.and_false]
  · rw [decide_eq_false h1, Bool.false_and]
theorem tD_t (h1 : i < n) (h : isD (tp i) = true) : tD tp n i = true := by
  unfold tD
  rw [h, decide_eq_true h1]
  rfl
theorem tD_f (h : i < n → isD (tp i) = false) : tD tp n i = false := by
  unfold tD
  by_cases h1 : i < n
  · rw [h h1, Bool.and_false]
  · rw [decide_eq_false h1, Bool.false_and]
set_option maxHeartbeats 4000000 in
theorem y_goesOn (hB : MB tp n σ) (h9 : ¬ σ.2.1 118 9 = nI 5) (h8 : σ.2.1 118 8 = nI i) (hi : i ≤ n) : ∃ σ', m_X13_goesOn 118 σ = some ((), σ') ∧ MK tp n i σ' ∧ Fr DGo LY σ σ' := by
  have hn := hB.2.2.2.1
  have ht := hB.2.2.2.2
  obtain ⟨s1, s2⟩ := tS_le (tp := tp) hi
  unfold m_X13_goesOn
  rw [jif_t (show ¬ σ.2.1 118 9 = 5 from h9)]
  have one := jlp_inv (body := fun (s1 : Unit) σ1 =>
jd_o σ1 (13, 29) (some 118) fun a3 =>
jd_b (m_X13_byteAt a3 (σ1.2.1 a3 8) σ1) fun r4 σ4 =>
jd_if (¬ r4 = 32) (
some ((Sum.inr ()), σ4)) (
jd_li (jd_pi σ4 a3 8 ((σ4.2.1 a3 8) + 1)) fun τ5 =>
some (Sum.inl (), τ5))) (tS tp n i - i) (fun k _ σ' => σ'.2.1 118 8 = nI (i + k) ∧ Fr DGo LY σ σ')
    (fun (_ : Unit) σ' => σ'.2.1 118 8 = nI (tS tp n i) ∧ Fr DGo LY σ σ') ?_ ?_ jd_fu (jfu (by omega)) () σ ⟨h8, Fr_refl σ⟩
  · obtain ⟨t, σ1, e1, c8, F1⟩ := one
    have hW1 := Fr_Wd F1 hB.1
    have hB1 := MB_fr hB F1 (fun k => by unfold DGo; omega) (by unfold DGo; omega)
    rw [e1, jb_some, jo_118 hW1, c8, jli, jli]
    have F2 : Fr DGo LY σ (jd_pi (jd_pi σ1 118 10 (nI (tS tp n i))) 118 9 0) := Fr_pi (Fr_pi F1 (by unfold DGo; omega)) (by unfold DGo; omega)
    have d8 : (jd_pi (jd_pi σ1 118 10 (nI (tS tp n i))) 118 9 0).2.1 118 8 = nI (tS tp n i) := by
      rw [pi_ne _ _ (by omega), pi_ne _ _ (by omega), c8]
    have d9 : (jd_pi (jd_pi σ1 118 10 (nI (tS tp n i))) 118 9 0).2.1 118 9 = nI 0 := pi_eq _ _ _ _
    have d10 : (jd_pi (jd_pi σ1 118 10 (nI (tS tp n i))) 118 9 0).2.1 118 10 = nI (tS tp n i) := by
      rw [pi_ne _ _ (by omega), pi_eq]
    generalize jd_pi (jd_pi σ1 118 10 (nI (tS tp n i))) 118 9 0 = τ at *
    have hB2 := MB_fr hB F2 (fun k => by unfold DGo; omega) (by unfold DGo; omega)
    have hW2 := hB2.1
    rw [d8, y_byteAt hB2 s2, jb_some]
    unfold MK tW tV tK tE
    generalize hs : tS tp n i = s at *
    by_cases h1 : s < n
    · have h1' : ¬ n ≤ s := by omega
      have hu := ht s
      have hbt : bt tp n s = nI (tp s) := if_pos h1
      rw [jif_t (by rw [hbt]; show ¬ nI (tp s) = - nI 1; rw [nI_m1 (by omega)]; exact id), y_isLetter ht, jb_some]
      simp only [if_neg h1']
      rcases hL : isL (tp s) with _ | _
      · rw [tL_f (fun _ => hL)]
        rw [jif_t (by decide), y_isDigit ht, jb_some]
        rcases hD : isD (tp s) with _ | _
        · rw [tD_f (fun _ => hD), jif_t (by decide)]
          have e0 : scan (fun k => isD (tp k)) n s = s := scan_f hD
          by_cases h2 : tp s = 59
          · rw [jif_f (by rw [hbt, h2]; simp only [Classical.not_not]; rfl), jli, jli]
            rw [if_pos h2, if_pos h2]
            refine ⟨_, rfl, ⟨?_, ?_, ?_, fun h => absurd h (by decide), fun h => absurd h (by decide)⟩, Fr_pi (Fr_pi F2 (by unfold DGo; omega)) (by unfold DGo; omega)⟩
            · rw [pi_ne _ _ (by omega), pi_eq]
              rfl
            · rw [pi_ne _ _ (by omega), pi_ne _ _ (by omega)]
              exact d10
            · rw [pi_eq, pi_ne _ _ (by omega), d8, lx1, nI_add]
          · rw [jif_t (by rw [hbt, lx59, nI_eq (by omega) (by omega)]; exact h2), if_neg h2, if_neg h2, if_f rfl, if_f rfl, e0]
            rw [if_neg (by omega)]
            exact ⟨τ, rfl, ⟨d9, d10, d8, fun h => absurd h (by decide), fun h => absurd h (by decide)⟩, F2⟩
        · have h2 : ¬ tp s = 59 := by
            have := isD_iff.mp hD
            omega
          rw [tD_t h1 hD, jif_f (by decide), jli, if_neg h2, if_neg h2, if_f rfl, if_f rfl]
          have q1 : s < scan (fun k => isD (tp k)) n s := by
            rw [scan_t (c := fun k => isD (tp k)) h1 hD]
            exact scan_ge
          have q2 := scan_le (c := fun k => isD (tp k)) s2
          have q3 : ∀ k, s ≤ k → k < scan (fun k => isD (tp k)) n s → isD (tp k) = true := fun k a b => scan_in (c := fun k => isD (tp k)) a b
          have q4 : scan (fun k => isD (tp k)) n s < n → isD (tp (scan (fun k => isD (tp k)) n s)) = false := fun h => scan_out (c := fun k => isD (tp k)) s2 h
          generalize scan (fun k => isD (tp k)) n s = e at *
          have F3 : Fr DGo LY σ (jd_pi τ 118 11 0) := Fr_pi F2 (by unfold DGo; omega)
          have two := jlp_inv (body := fun (s15 : Int32) σ15 =>
jd_o σ15 (13, 29) (some 118) fun a17 =>
jd_b (m_X13_byteAt a17 (σ15.2.1 a17 8) σ15) fun r18 σ18 =>
jd_b (m_X13_isDigit r18 σ18) fun r19 σ19 =>
jd_if (r19 = 0) (
some ((Sum.inr s15), σ19)) (
jd_b (α := Unit) (
jd_if (3 ≤ s15) (
some ((), σ19)) (
jd_b (m_X13_byteAt a17 (σ19.2.1 a17 8) σ19) fun r23 σ23 =>
jd_li (jd_pi σ23 a17 11 (((10 * (σ19.2.1 a17 11)) + r23) - 48)) fun τ24 =>
some ((), τ24))) fun t22 σ22 =>
jd_o σ22 (13, 29) (some 118) fun a25 =>
jd_li (jd_pi σ22 a25 8 ((σ22.2.1 a25 8) + 1)) fun τ26 =>
some (Sum.inl (s15 + 1), τ26))) (e - s) (fun k st σ' => st = nI k ∧ σ'.2.1 118 8 = nI (s + k) ∧ σ'.2.1 118 9 = nI 0 ∧ σ'.2.1 118 10 = nI s ∧ σ'.2.1 118 11 = nI (nv tp s (min k 3)) ∧ Fr DGo LY σ σ')
            (fun (t : Int32) σ' => t = nI (e - s) ∧ σ'.2.1 118 8 = nI e ∧ σ'.2.1 118 9 = nI 0 ∧ σ'.2.1 118 10 = nI s ∧ σ'.2.1 118 11 = nI (nv tp s (min (e - s) 3)) ∧ Fr DGo LY σ σ') ?_ ?_ jd_fu (jfu (by omega)) 0 (jd_pi τ 118 11 0) ⟨rfl, (pi_ne _ _ (by omega)).trans d8, (pi_ne _ _ (by omega)).trans d9, (pi_ne _ _ (by omega)).trans d10, pi_eq _ _ _ _, F3⟩
          · obtain ⟨t, σ4, e4, rfl, k8, k9, k10, k11, F4⟩ := two
            rw [e4, jb_some]
            by_cases h3 : 3 < e - s
            · rw [jif_t (by rw [lx3, nI_ltI (by omega) (by omega)]; exact h3), if_neg (by omega)]
              exact ⟨σ4, rfl, ⟨k9, k10, k8, fun h => absurd h (by decide), fun h => absurd h (by decide)⟩, F4⟩
            · rw [jif_f (by rw [lx3, nI_ltI (by omega) (by omega)]; exact h3), jo_118 (Fr_Wd F4 hB.1), jli, if_pos ⟨q1, by omega⟩]
              refine ⟨_, rfl, ⟨pi_eq _ _ _ _, (pi_ne _ _ (by omega)).trans k10, (pi_ne _ _ (by omega)).trans k8, fun h => absurd h (by decide), fun _ => ?_⟩, Fr_pi F4 (by unfold DGo; omega)⟩
              rw [pi_ne _ _ (by omega), k11, Nat.min_eq_left (by omega)]
          · rintro k st σ' hk ⟨rfl, k8, k9, k10, k11, F⟩
            have hB' := MB_fr hB F (fun k => by unfold DGo; omega) (by unfold DGo; omega)
            have hd := q3 (s + k) (by omega) (by omega)
            have hd' := isD_iff.mp hd
            have hb : bt tp n (s + k) = nI (tp (s + k)) := if_pos (by omega)
            by_cases h3 : 3 ≤ k
            · refine ⟨nI (k + 1), jd_pi σ' 118 8 (nI (s + (k + 1))), ?_, rfl, pi_eq _ _ _ _, (pi_ne _ _ (by omega)).trans k9, (pi_ne _ _ (by omega)).trans k10, ?_, Fr_pi F (by unfold DGo; omega)⟩
              · rw [jo_118 hB'.1, k8, y_byteAt hB' (by omega), jb_some, y_isDigit ht, jb_some, tD_t (by omega) hd, jif_f (by decide), jif_t (by rw [lx3, nI_leI (by omega) (by omega)]; exact h3), jb_some, jo_118 hB'.1, k8, jli, lx1, nI_add, nI_add]
                rfl
              · rw [pi_ne _ _ (by omega), k11, Nat.min_eq_right (by omega), Nat.min_eq_right (by omega)]
            · have e5 : nI (10 * nv tp s k + tp (s + k)) - nI 48 = nI (nv tp s (k + 1)) := by
                rw [nI_sub (by omega)]
                show _ = nI (10 * nv tp s k + (tp (s + k) - 48))
                congr 1
                omega
              rw [Nat.min_eq_left (by omega)] at k11
              refine ⟨nI (k + 1), jd_pi (jd_pi σ' 118 11 (nI (nv tp s (k + 1)))) 118 8 (nI (s + (k + 1))), ?_, rfl, pi_eq _ _ _ _, ?_, ?_, ?_, Fr_pi (Fr_pi F (by unfold DGo; omega)) (by unfold DGo; omega)⟩
              · rw [jo_118 hB'.1, k8, y_byteAt hB' (by omega), jb_some, y_isDigit ht, jb_some, tD_t (by omega) hd, jif_f (by decide), jif_f (by rw [lx3, nI_leI (by omega) (by omega)]; exact h3), k8, y_byteAt hB' (by omega), jb_some, jli, hb, k11, lx10, pk_mul, nI_add, lx48, e5, jb_some, jo_pi, jo_118 hB'.1, jli, pi_ne _ _ (by omega), k8, lx1, nI_add, nI_add]
                rfl
              · rw [pi_ne _ _ (by omega), pi_ne _ _ (by omega)]
                exact k9
              · rw [pi_ne _ _ (by omega), pi_ne _ _ (by omega)]
                exact k10
              · rw [pi_ne _ _ (by omega), pi_eq, Nat.min_eq_left (by omega)]
          · rintro st σ' ⟨rfl, k8, k9, k10, k11, F⟩
            have hB' := MB_fr hB F (fun k => by unfold DGo; omega) (by unfold DGo; omega)
            have es : s + (e - s) = e := by omega
            rw [es] at k8
            refine ⟨_, σ', ?_, rfl, k8, k9, k10, k11, F⟩
            rw [jo_118 hB'.1, k8, y_byteAt hB' q2, jb_some, y_isDigit ht, jb_some, tD_f q4, jif_t (by decide)]
      · have h2 : ¬ tp s = 59 := by
          have := isL_iff.mp hL
          omega
        rw [tL_t h1 hL, jif_f (by decide), jli, if_neg h2, if_neg h2, if_t rfl, if_t rfl]
        have q1 : s < scan (fun k => isL (tp k)) n s := by
          rw [scan_t (c := fun k => isL (tp k)) h1 hL]
          exact scan_ge
        have q2 := scan_le (c := fun k => isL (tp k)) s2
        have q3 : ∀ k, s ≤ k → k < scan (fun k => isL (tp k)) n s → isL (tp k) = true := fun k a b => scan_in (c := fun k => isL (tp k)) a b
        have q4 : scan (fun k => isL (tp k)) n s < n → isL (tp (scan (fun k => isL (tp k)) n s)) = false := fun h => scan_out (c := fun k => isL (tp k)) s2 h
        generalize scan (fun k => isL (tp k)) n s = e at *
        have F3 : Fr DGo LY σ (jd_pl τ 118 14 0) := Fr_pl F2 rfl
        have two := jlp_inv (body := fun (s30 : Int32) σ30 =>
jd_o σ30 (13, 29) (some 118) fun a32 =>
jd_b (m_X13_byteAt a32 (σ30.2.1 a32 8) σ30) fun r33 σ33 =>
jd_b (m_X13_isLetter r33 σ33) fun r34 σ34 =>
jd_if (r34 = 0) (
some ((Sum.inr s30), σ34)) (
jd_b (α := Unit) (
jd_if (8 ≤ s30) (
some ((), σ34)) (
jd_b (m_X13_byteAt a32 (σ34.2.1 a32 8) σ34) fun r38 σ38 =>
jd_li (jd_pl σ38 a32 14 ((32 * (σ34.2.2.1 a32 14)) + ((r38 - 97) + 1).toInt64)) fun τ39 =>
some ((), τ39))) fun t37 σ37 =>
jd_o σ37 (13, 29) (some 118) fun a40 =>
jd_li (jd_pi σ37 a40 8 ((σ37.2.1 a40 8) + 1)) fun τ41 =>
some (Sum.inl (s30 + 1), τ41))) (e - s) (fun k st σ' => st = nI k ∧ σ'.2.1 118 8 = nI (s + k) ∧ σ'.2.1 118 9 = nI 0 ∧ σ'.2.1 118 10 = nI s ∧ σ'.2.2.1 118 14 = lN (wv tp s (min k 8)) ∧ Fr DGo LY σ σ')
          (fun (t : Int32) σ' => t = nI (e - s) ∧ σ'.2.1 118 8 = nI e ∧ σ'.2.1 118 9 = nI 0 ∧ σ'.2.1 118 10 = nI s ∧ σ'.2.2.1 118 14 = lN (wv tp s (min (e - s) 8)) ∧ Fr DGo LY σ σ') ?_ ?_ jd_fu (jfu (by omega)) 0 (jd_pl τ 118 14 0) ⟨rfl, d8, d9, d10, pl_eq _ _ _ _, F3⟩
        · obtain ⟨t, σ4, e4, rfl, k8, k9, k10, k11, F4⟩ := two
          rw [e4, jb_some]
          by_cases h3 : 8 < e - s
          · rw [jif_t (by rw [lx8, nI_ltI (by omega) (by omega)]; exact h3), if_neg (by omega)]
            exact ⟨σ4, rfl, ⟨k9, k10, k8, fun h => absurd h (by decide), fun h => absurd h (by decide)⟩, F4⟩
          · rw [jif_f (by rw [lx8, nI_ltI (by omega) (by omega)]; exact h3), jo_118 (Fr_Wd F4 hB.1), jli, if_pos (by omega)]
            refine ⟨_, rfl, ⟨pi_eq _ _ _ _, (pi_ne _ _ (by omega)).trans k10, (pi_ne _ _ (by omega)).trans k8, fun _ => ?_, fun h => absurd h (by decide)⟩, Fr_pi F4 (by unfold DGo; omega)⟩
            rw [jpi_l, k11, Nat.min_eq_left (by omega)]
        · rintro k st σ' hk ⟨rfl, k8, k9, k10, k11, F⟩
          have hB' := MB_fr hB F (fun k => by unfold DGo; omega) (by unfold DGo; omega)
          have hd := q3 (s + k) (by omega) (by omega)
          have hd' := isL_iff.mp hd
          have hb : bt tp n (s + k) = nI (tp (s + k)) := if_pos (by omega)
          by_cases h3 : 8 ≤ k
          · refine ⟨nI (k + 1), jd_pi σ' 118 8 (nI (s + (k + 1))), ?_, rfl, pi_eq _ _ _ _, (pi_ne _ _ (by omega)).trans k9, (pi_ne _ _ (by omega)).trans k10, ?_, Fr_pi F (by unfold DGo; omega)⟩
            · rw [jo_118 hB'.1, k8, y_byteAt hB' (by omega), jb_some, y_isLetter ht, jb_some, tL_t (by omega) hd, jif_f (by decide), jif_t (by rw [lx8, nI_leI (by omega) (by omega)]; exact h3), jb_some, jo_118 hB'.1, k8, jli, lx1, nI_add, nI_add]
              rfl
            · rw [jpi_l, k11, Nat.min_eq_right (by omega), Nat.min_eq_right (by omega)]
          · rw [Nat.min_eq_left (by omega)] at k11
            have e5 : (32 * lN (wv tp s k) + ((nI (tp (s + k)) - 97) + 1).toInt64) = lN (wv tp s (k + 1)) := by
              rw [lx97, nI_sub (by omega), lx1, nI_add, nI_l (by omega), show (32 : Int64) = lN 32 from rfl, lN_mul, lN_add]
              show _ = lN (32 * wv tp s k + (tp (s + k) - 96))
              congr 1
              omega
            refine ⟨nI (k + 1), jd_pi (jd_pl σ' 118 14 (lN (wv tp s (k + 1)))) 118 8 (nI (s + (k + 1))), ?_, rfl, pi_eq _ _ _ _, ?_, ?_, ?_, Fr_pi (Fr_pl F rfl) (by unfold DGo; omega)⟩
            · rw [jo_118 hB'.1, k8, y_byteAt hB' (by omega), jb_some, y_isLetter ht, jb_some, tL_t (by omega) hd, jif_f (by decide), jif_f (by rw [lx8, nI_leI (by omega) (by omega)]; exact h3), k8, y_byteAt hB' (by omega), jb_some, jli, hb, k11, e5, jb_some, jo_pl, jo_118 hB'.1, jli, jpl_i, k8, lx1, nI_add, nI_add]
              rfl
            · rw [pi_ne _ _ (by omega), jpl_i]
              exact k9
            · rw [pi_ne _ _ (by omega), jpl_i]
              exact k10
            · rw [jpi_l, pl_eq, Nat.min_eq_left (by omega)]
        · rintro st σ' ⟨rfl, k8, k9, k10, k11, F⟩
          have hB' := MB_fr hB F (fun k => by unfold DGo; omega) (by unfold DGo; omega)
          have es : s + (e - s) = e := by omega
          rw [es] at k8
          refine ⟨_, σ', ?_, rfl, k8, k9, k10, k11, F⟩
          rw [jo_118 hB'.1, k8, y_byteAt hB' q2, jb_some, y_isLetter ht, jb_some, tL_f q4, jif_t (by decide)]
    · have h1' : n ≤ s := by omega
      have hbt : bt tp n s = - nI 1 := if_neg h1
      rw [jif_f (by rw [hbt]; simp only [Classical.not_not]; rfl), jli]
      simp only [if_pos h1']
      exact ⟨_, rfl, ⟨pi_eq _ _ _ _, (pi_ne _ _ (by omega)).trans d10, (pi_ne _ _ (by omega)).trans d8, fun h => absurd h (by decide), fun h => absurd h (by decide)⟩, Fr_pi F2 (by unfold DGo; omega)⟩
  · rintro k s σ' hk ⟨k8, F⟩
    have hB' := MB_fr hB F (fun k => by unfold DGo; omega) (by unfold DGo; omega)
    have hb : tp (i + k) = 32 := by
      have : isB (tp (i + k)) = true := scan_in (c := fun k => isB (tp k)) (n := n) (i := i) (k := i + k) (by omega) (by show i + k < tS tp n i; omega)
      unfold isB at this
      exact decide_eq_true_iff.mp this
    have hb2 : bt tp n (i + k) = nI 32 := by
      unfold bt
      rw [if_pos (by omega), hb]
    refine ⟨(), jd_pi σ' 118 8 (nI (i + (k + 1))), ?_, pi_eq _ _ _ _, Fr_pi F (by unfold DGo; omega)⟩
    rw [jo_118 hB'.1, k8, y_byteAt hB' (by omega), jb_some, hb2, jif_f (by simp only [Classical.not_not]; rfl), k8, jli, lx1, nI_add]
    rfl
  · rintro s σ' ⟨k8, F⟩
    have hB' := MB_fr hB F (fun k => by unfold DGo; omega) (by unfold DGo; omega)
    have es : i + (tS tp n i - i) = tS tp n i := by omega
    rw [es] at k8
    refine ⟨(), σ', ?_, k8, F⟩
    rw [jo_118 hB'.1, k8, y_byteAt hB' s2, jb_some]
    by_cases h1 : tS tp n i < n
    · have hb : ¬ tp (tS tp n i) = 32 := by
        have : isB (tp (tS tp n i)) = false := scan_out (c := fun k => isB (tp k)) hi h1
        unfold isB at this
        exact of_decide_eq_false this
      have := ht (tS tp n i)
      unfold bt
      rw [if_pos h1, jif_t (by rw [lx32, nI_eq (by omega) (by omega)]; exact hb)]
    · unfold bt
      rw [if_neg h1, jif_t (by decide)]
end
