/-! P (33): LINES, what they mean -/
def upP (B : Bch) (kd pl th by' : Nat) : Bch := upB (upB (upB (upB (upB B 0 (B 8 3) kd) 1 (B 8 3) pl) 2 (B 8 3) th) 3 (B 8 3) by') 8 3 (B 8 3 + 1)
def upQ (B : Bch) (pl off : Nat) : Bch := upB (upB (upB B 6 (B 8 4) pl) 7 (B 8 4) off) 8 4 (B 8 4 + 1)
def nPer (B : Bch) (w kd pl th by' : Nat) : Bch := upP (addN B w 0 (B 8 3)) kd pl th by'
def nPos (B : Bch) (w pl off : Nat) : Bch := upQ (addN B w 1 (B 8 4)) pl off
def nBea (B : Bch) (x y u : Nat) : Bch := upB (upB (upB B 8 0 x) 8 1 y) 8 2 u
def nMan (B : Bch) (q : Nat) : Bch := upB B 8 5 (B 8 5 ||| 2 ^ q)
def nKno (B : Bch) (a b : Nat) : Bch := upB (upB B 4 a (B 4 a ||| 2 ^ b)) 8 6 (B 8 6 + 1)
def nSig (B : Bch) (p s : Nat) : Bch := upB (upB B 5 p s) 8 7 (B 8 7 + 1)
section
variable (tp : Nat → Nat) (n : Nat) (B : Bch) (i : Nat)
def e_beach : Fl ⊕ (Bch × Nat) := e_b (e_lab tp n 7 1 60 i) fun x => e_b (e_lab tp n 8 0 9 x.2) fun y => e_b (e_lab tp n 9 0 100 y.2) fun u => .inr (nBea B x.1 y.1 u.1, u.2)
def e_person : Fl ⊕ (Bch × Nat) := e_b (e_new tp n B i) fun x => match kdO tp n x.2 with
  | none => .inl (1, tS tp n x.2)
  | some kd => e_b (e_lab tp n 14 0 99 (tE tp n x.2)) fun y => e_b (e_lab tp n 15 0 99 y.2) fun u => e_b (e_lab tp n 16 0 100 u.2) fun v => .inr (nPer B x.1 kd y.1 u.1 v.1, v.2)
def e_post : Fl ⊕ (Bch × Nat) := e_b (e_new tp n B i) fun x => e_b (e_lab tp n 14 0 99 x.2) fun y => e_b (e_lab tp n 17 1 40 y.2) fun u => .inr (nPos B x.1 y.1 u.1, u.2)
def e_manned : Fl ⊕ (Bch × Nat) := e_b (e_told tp n B 1 i) fun x => if (B 8 5).testBit x.1 then .inl (3, tS tp n i) else .inr (nMan B x.1, x.2)
def e_knows : Fl ⊕ (Bch × Nat) := e_b (e_told tp n B 0 i) fun x => e_b (e_told tp n B 0 x.2) fun y => if y.1 = x.1 then .inl (3, tS tp n x.2) else if (B 4 x.1).testBit y.1 then .inl (3, tS tp n x.2) else .inr (nKno B x.1 y.1, y.2)
def e_sign (s : Nat) : Fl ⊕ (Bch × Nat) := e_b (e_told tp n B 0 i) fun x => if B 5 x.1 = 0 then .inr (nSig B x.1 s, x.2) else .inl (3, tS tp n i)
def e_line : Fl ⊕ (Bch × Nat) := if isLW tp n i then (if isWd tp n i 0 then (if B 8 0 = 0 then e_beach tp n B (tE tp n i) else .inl (3, tS tp n i)) else if B 8 0 = 0 then .inl (6, tS tp n i) else
  if isWd tp n i 1 then (if B 8 3 < 6 then e_person tp n B (tE tp n i) else .inl (5, tS tp n i)) else
  if isWd tp n i 2 then (if B 8 4 < 5 then e_post tp n B (tE tp n i) else .inl (5, tS tp n i)) else
  if isWd tp n i 3 then e_manned tp n B (tE tp n i) else
  if isWd tp n i 4 then (if B 8 6 < 9 then e_knows tp n B (tE tp n i) else .inl (5, tS tp n i)) else
  if isWd tp n i 5 then e_sign tp n B (tE tp n i) 1 else e_sign tp n B (tE tp n i) 2) else .inl (1, tS tp n i)
end
def e_all (tp : Nat → Nat) (n : Nat) : Nat → Bch → Nat → Fl ⊕ Bch
  | 0, _, _ => .inl (0, 0)
  | f + 1, B, i => match e_line tp n B i with
    | .inl x => .inl x
    | .inr x => if tK tp n x.2 = 0 then (if 0 < x.1 8 3 then .inr x.1 else .inl (6, tS tp n x.2)) else if tK tp n x.2 = 3 then e_all tp n f x.1 (tE tp n x.2) else .inl (1, tS tp n x.2)
def B0 : Bch := fun _ _ => 0
def rOk (B : Bch) : Prop := B 8 3 ≤ 6 ∧ B 8 4 ≤ 5 ∧ B 8 0 ≤ 60 ∧ B 8 1 ≤ 9 ∧ B 8 2 ≤ 100 ∧ B 8 5 < 2 ^ B 8 4 ∧ B 8 6 ≤ 9 ∧ B 8 8 = B 8 3 + B 8 4 ∧ B 8 7 = cnt (fun p => decide (¬ B 5 p = 0)) 6 ∧ (∀ p, B 0 p ≤ 3 ∧ B 1 p ≤ 99 ∧ B 2 p ≤ 99 ∧ B 3 p ≤ 100 ∧ B 4 p < 2 ^ B 8 3 ∧ B 5 p ≤ 2 ∧ B 6 p ≤ 99 ∧ B 7 p ≤ 40) ∧ ∀ k, B 10 k ≤ 1 ∧ (k < B 8 8 → (B 10 k = 0 → B 11 k < B 8 3) ∧ (B 10 k = 1 → B 11 k < B 8 4))
theorem rOk_0 : rOk B0 := ⟨by decide, by decide, by decide, by decide, by decide, by decide, by decide, by decide, by decide, fun p => by
  exact ⟨Nat.zero_le _, Nat.zero_le _, Nat.zero_le _, Nat.zero_le _, (by decide : 0 < 2 ^ 0), Nat.zero_le _, Nat.zero_le _, Nat.zero_le _⟩, fun k => ⟨Nat.zero_le _, fun h => absurd h (Nat.not_lt_zero k)⟩⟩
theorem bOk_r {B : Bch} (h : rOk B) (h0 : ¬ B 8 0 = 0) (h3 : 0 < B 8 3) : bOk B := by
  obtain ⟨r1, r2, r3, r4, r5, r6, r7, r8, r9, r10, r11⟩ := h
  have := cnt_le (fun p => decide (¬ B 5 p = 0)) 6
  exact ⟨h3, r1, r2, by omega, r3, r4, r5, r6, r7, by omega, r10⟩
section
variable (B : Bch) (w kd pl th by' off x y u q a b p s : Nat)
theorem nPer_8 (j : Nat) : nPer B w kd pl th by' 8 j = if j = 3 then B 8 3 + 1 else if j = 8 then B 8 8 + 1 else B 8 j := by
  unfold nPer upP addN
  simp only [upB]
  by_cases h3 : j = 3
  · subst h3
    simp
  · by_cases h8 : j = 8
    · subst h8
      simp
    · simp [h3, h8]
theorem nPer_0 (j : Nat) : nPer B w kd pl th by' 0 j = if j = B 8 3 then kd else B 0 j := by
  unfold nPer upP addN
  simp [upB]
theorem nPer_1 (j : Nat) : nPer B w kd pl th by' 1 j = if j = B 8 3 then pl else B 1 j := by
  unfold nPer upP addN
  simp [upB]
theorem nPer_2 (j : Nat) : nPer B w kd pl th by' 2 j = if j = B 8 3 then th else B 2 j := by
  unfold nPer upP addN
  simp [upB]
theorem nPer_3 (j : Nat) : nPer B w kd pl th by' 3 j = if j = B 8 3 then by' else B 3 j := by
  unfold nPer upP addN
  simp [upB]
theorem nPer_4 (j : Nat) : nPer B w kd pl th by' 4 j = B 4 j := by
  unfold nPer upP addN
  simp [upB]
theorem nPer_5 (j : Nat) : nPer B w kd pl th by' 5 j = B 5 j := by
  unfold nPer upP addN
  simp [upB]
theorem nPer_6 (j : Nat) : nPer B w kd pl th by' 6 j = B 6 j := by
  unfold nPer upP addN
  simp [upB]
theorem nPer_7 (j : Nat) : nPer B w kd pl th by' 7 j = B 7 j := by
  unfold nPer upP addN
  simp [upB]
theorem nPer_9 (j : Nat) : nPer B w kd pl th by' 9 j = if j = B 8 8 then w else B 9 j := by
  unfold nPer upP addN
  simp [upB]
theorem nPer_10 (j : Nat) : nPer B w kd pl th by' 10 j = if j = B 8 8 then 0 else B 10 j := by
  unfold nPer upP addN
  simp [upB]
theorem nPer_11 (j : Nat) : nPer B w kd pl th by' 11 j = if j = B 8 8 then B 8 3 else B 11 j := by
  unfold nPer upP addN
  simp [upB]
theorem nPos_8 (j : Nat) : nPos B w pl off 8 j = if j = 4 then B 8 4 + 1 else if j = 8 then B 8 8 + 1 else B 8 j := by
  unfold nPos upQ addN
  simp only [upB]
  by_cases h3 : j = 4
  · subst h3
    simp
  · by_cases h8 : j = 8
    · subst h8
      simp
    · simp [h3, h8]
theorem nPos_lo {k : Nat} (h : k < 6) (j : Nat) : nPos B w pl off k j = B k j := by
  unfold nPos upQ addN
  rw [upB_n _ _ (by omega), upB_n _ _ (by omega), upB_n _ _ (by omega), upB_n _ _ (by omega), upB_n _ _ (by omega), upB_n _ _ (by omega), upB_n _ _ (by omega)]
theorem nPos_6 (j : Nat) : nPos B w pl off 6 j = if j = B 8 4 then pl else B 6 j := by
  unfold nPos upQ addN
  simp [upB]
theorem nPos_7 (j : Nat) : nPos B w pl off 7 j = if j = B 8 4 then off else B 7 j := by
  unfold nPos upQ addN
  simp [upB]
theorem nPos_9 (j : Nat) : nPos B w pl off 9 j = if j = B 8 8 then w else B 9 j := by
  unfold nPos upQ addN
  simp [upB]
theorem nPos_10 (j : Nat) : nPos B w pl off 10 j = if j = B 8 8 then 1 else B 10 j := by
  unfold nPos upQ addN
  simp [upB]
theorem nPos_11 (j : Nat) : nPos B w pl off 11 j = if j = B 8 8 then B 8 4 else B 11 j := by
  unfold nPos upQ addN
  simp [upB]
theorem nBea_8 (j : Nat) : nBea B x y u 8 j = if j = 0 then x else if j = 1 then y else if j = 2 then u else B 8 j := by
  unfold nBea
  simp only [upB]
  by_cases h2 : j = 2
  · subst h2
    simp
  · by_cases h1 : j = 1
    · subst h1
      simp
    · by_cases h0 : j = 0
      · subst h0
        simp
      · simp [h0, h1, h2]
theorem nBea_n {k : Nat} (h : ¬ k = 8) (j : Nat) : nBea B x y u k j = B k j := by
  unfold nBea
  rw [upB_n _ _ (by omega), upB_n _ _ (by omega), upB_n _ _ (by omega)]
theorem nMan_8 (j : Nat) : nMan B q 8 j = if j = 5 then B 8 5 ||| 2 ^ q else B 8 j := by
  unfold nMan
  simp [upB]
theorem nMan_n {k : Nat} (h : ¬ k = 8) (j : Nat) : nMan B q k j = B k j := upB_n _ _ (by omega)
theorem nKno_8 (j : Nat) : nKno B a b 8 j = if j = 6 then B 8 6 + 1 else B 8 j := by
  unfold nKno
  simp [upB]
theorem nKno_4 (j : Nat) : nKno B a b 4 j = if j = a then B 4 a ||| 2 ^ b else B 4 j := by
  unfold nKno
  simp [upB]
theorem nKno_n {k : Nat} (h : ¬ k = 8) (h4 : ¬ k = 4) (j : Nat) : nKno B a b k j = B k j := by
  unfold nKno
  rw [upB_n _ _ (by omega), upB_n _ _ (by omega)]
theorem nSig_8 (j : Nat) : nSig B p s 8 j = if j = 7 then B 8 7 + 1 else B 8 j := by
  unfold nSig
  simp [upB]
theorem nSig_5 (j : Nat) : nSig B p s 5 j = if j = p then s else B 5 j := by
  unfold nSig
  simp [upB]
theorem nSig_n {k : Nat} (h : ¬ k = 8) (h4 : ¬ k = 5) (j : Nat) : nSig B p s k j = B k j := by
  unfold nSig
  rw [upB_n _ _ (by omega), upB_n _ _ (by omega)]
end
section
variable {B : Bch} {w kd pl th by' off x y u q a b p s : Nat}
theorem pow_s {v m : Nat} (h : v < 2 ^ m) : v < 2 ^ (m + 1) := by
  rw [Nat.pow_succ]
  omega
theorem rOk_Bea (h : rOk B) (h1 : x ≤ 60) (h2 : y ≤ 9) (h3 : u ≤ 100) : rOk (nBea B x y u) := by
  obtain ⟨r1, r2, r3, r4, r5, r6, r7, r8, r9, r10, r11⟩ := h
  refine ⟨?_, ?_, ?_, ?_, ?_, ?_, ?_, ?_, ?_, fun p => ?_, fun k => ?_⟩
  · simpa [nBea_8] using r1
  · simpa [nBea_8] using r2
  · simpa [nBea_8] using h1
  · simpa [nBea_8] using h2
  · simpa [nBea_8] using h3
  · simpa [nBea_8] using r6
  · simpa [nBea_8] using r7
  · simpa [nBea_8] using r8
  · rw [nBea_8, if_neg (by decide), if_neg (by decide), if_neg (by decide), r9]
    rfl
  · simp (disch := decide) only [nBea_n, nBea_8, Nat.reduceEqDiff, if_true, if_false]
    exact r10 p
  · simp (disch := decide) only [nBea_n, nBea_8, Nat.reduceEqDiff, if_true, if_false]
    exact r11 k
theorem rOk_Per (h : rOk B) (h6 : B 8 3 < 6) (h1 : kd ≤ 3) (h2 : pl ≤ 99) (h3 : th ≤ 99) (h4 : by' ≤ 100) : rOk (nPer B w kd pl th by') := by
  obtain ⟨r1, r2, r3, r4, r5, r6, r7, r8, r9, r10, r11⟩ := h
  refine ⟨?_, ?_, ?_, ?_, ?_, ?_, ?_, ?_, ?_, fun p => ?_, fun k => ?_⟩
  · simp only [nPer_8]
    simp
    omega
  · simpa [nPer_8] using r2
  · simpa [nPer_8] using r3
  · simpa [nPer_8] using r4
  · simpa [nPer_8] using r5
  · simpa [nPer_8] using r6
  · simpa [nPer_8] using r7
  · simp [nPer_8]
    omega
  · rw [nPer_8, if_neg (by decide), if_neg (by decide), r9]
    exact congrArg (fun c => cnt c 6) (funext fun p => by rw [nPer_5])
  · obtain ⟨p0, p1, p2, p3, p4, p5, p6, p7⟩ := r10 p
    simp (disch := decide) only [nPer_8, nPer_0, nPer_1, nPer_2, nPer_3, nPer_4, nPer_5, nPer_6, nPer_7, nPer_10, nPer_11, Nat.reduceEqDiff, if_true, if_false]
    have := pow_s p4
    refine ⟨?_, ?_, ?_, ?_, this, p5, p6, p7⟩ <;> split <;> assumption
  · obtain ⟨k1, k2⟩ := r11 k
    simp (disch := decide) only [nPer_8, nPer_0, nPer_1, nPer_2, nPer_3, nPer_4, nPer_5, nPer_6, nPer_7, nPer_10, nPer_11, Nat.reduceEqDiff, if_true, if_false]
    by_cases hk : k = B 8 8
    · rw [if_pos hk, if_pos hk]
      exact ⟨by decide, fun _ => ⟨fun _ => by omega, fun h => absurd h (by decide)⟩⟩
    · rw [if_neg hk, if_neg hk]
      exact ⟨k1, fun h => ⟨fun e => by have := (k2 (by omega)).1 e; omega, fun e => (k2 (by omega)).2 e⟩⟩
theorem rOk_Pos (h : rOk B) (h6 : B 8 4 < 5) (h2 : pl ≤ 99) (h3 : off ≤ 40) : rOk (nPos B w pl off) := by
  obtain ⟨r1, r2, r3, r4, r5, r6, r7, r8, r9, r10, r11⟩ := h
  refine ⟨?_, ?_, ?_, ?_, ?_, ?_, ?_, ?_, ?_, fun p => ?_, fun k => ?_⟩
  · simpa [nPos_8] using r1
  · simp only [nPos_8]
    simp
    omega
  · simpa [nPos_8] using r3
  · simpa [nPos_8] using r4
  · simpa [nPos_8] using r5
  · rw [nPos_8, nPos_8, if_neg (by decide), if_neg (by decide), if_pos rfl]
    exact pow_s r6
  · simpa [nPos_8] using r7
  · simp [nPos_8]
    omega
  · rw [nPos_8, if_neg (by decide), if_neg (by decide), r9]
    exact congrArg (fun c => cnt c 6) (funext fun p => by rw [nPos_lo _ _ _ _ (by decide)])
  · obtain ⟨p0, p1, p2, p3, p4, p5, p6, p7⟩ := r10 p
    simp (disch := decide) only [nPos_8, nPos_lo, nPos_6, nPos_7, nPos_10, nPos_11, Nat.reduceEqDiff, if_true, if_false]
    refine ⟨p0, p1, p2, p3, p4, p5, ?_, ?_⟩ <;> split <;> assumption
  · obtain ⟨k1, k2⟩ := r11 k
    simp (disch := decide) only [nPos_8, nPos_lo, nPos_6, nPos_7, nPos_10, nPos_11, Nat.reduceEqDiff, if_true, if_false]
    by_cases hk : k = B 8 8
    · rw [if_pos hk, if_pos hk]
      exact ⟨by decide, fun _ => ⟨fun h => absurd h (by decide), fun _ => by omega⟩⟩
    · rw [if_neg hk, if_neg hk]
      exact ⟨k1, fun h => ⟨fun e => (k2 (by omega)).1 e, fun e => by have := (k2 (by omega)).2 e; omega⟩⟩
theorem rOk_Man (h : rOk B) (hq : q < B 8 4) : rOk (nMan B q) := by
  obtain ⟨r1, r2, r3, r4, r5, r6, r7, r8, r9, r10, r11⟩ := h
  refine ⟨?_, ?_, ?_, ?_, ?_, ?_, ?_, ?_, ?_, fun p => ?_, fun k => ?_⟩
  · simpa [nMan_8] using r1
  · simpa [nMan_8] using r2
  · simpa [nMan_8] using r3
  · simpa [nMan_8] using r4
  · simpa [nMan_8] using r5
  · rw [nMan_8, nMan_8, if_pos rfl, if_neg (by decide)]
    exact or_pow r6 hq
  · simpa [nMan_8] using r7
  · simpa [nMan_8] using r8
  · rw [nMan_8, if_neg (by decide), r9]
    rfl
  · simp (disch := decide) only [nMan_n, nMan_8, Nat.reduceEqDiff, if_true, if_false]
    exact r10 p
  · simp (disch := decide) only [nMan_n, nMan_8, Nat.reduceEqDiff, if_true, if_false]
    exact r11 k
theorem rOk_Kno (h : rOk B) (h9 : B 8 6 < 9) (hb : b < B 8 3) : rOk (nKno B a b) := by
  obtain ⟨r1, r2, r3, r4, r5, r6, r7, r8, r9, r10, r11⟩ := h
  refine ⟨?_, ?_, ?_, ?_, ?_, ?_, ?_, ?_, ?_, fun p => ?_, fun k => ?_⟩
  · simpa [nKno_8] using r1
  · simpa [nKno_8] using r2
  · simpa [nKno_8] using r3
  · simpa [nKno_8] using r4
  · simpa [nKno_8] using r5
  · simpa [nKno_8] using r6
  · rw [nKno_8, if_pos rfl]
    omega
  · simpa [nKno_8] using r8
  · rw [nKno_8, if_neg (by decide), r9]
    exact congrArg (fun c => cnt c 6) (funext fun p => by rw [nKno_n _ _ _ (by decide) (by decide)])
  · obtain ⟨p0, p1, p2, p3, p4, p5, p6, p7⟩ := r10 p
    simp (disch := decide) only [nKno_n, nKno_8, nKno_4, Nat.reduceEqDiff, if_true, if_false]
    refine ⟨p0, p1, p2, p3, ?_, p5, p6, p7⟩
    split
    · exact or_pow (r10 a).2.2.2.2.1 hb
    · exact p4
  · simp (disch := decide) only [nKno_n, nKno_8, nKno_4, Nat.reduceEqDiff, if_true, if_false]
    exact r11 k
theorem cnt_up {c d : Nat → Bool} {p : Nat} (h1 : c p = false) (h2 : d p = true) (h3 : ∀ j, ¬ j = p → d j = c j) : ∀ n, p < n → cnt d n = cnt c n + 1
  | 0, h => absurd h (Nat.not_lt_zero p)
  | n + 1, h => by
    by_cases hp : p = n
    · subst hp
      have e : ∀ m, m ≤ p → cnt d m = cnt c m := by
        intro m
        induction m with
        | zero => intro _; rfl
        | succ m ih =>
          intro hm
          have e1 := h3 m (by omega)
          rcases hc : c m with _ | _
          · rw [cnt_f hc, cnt_f (e1.trans hc), ih (by omega)]
          · rw [cnt_t hc, cnt_t (e1.trans hc), ih (by omega)]
      rw [cnt_f h1, cnt_t h2, e p (Nat.le_refl _)]
    · have ih := cnt_up h1 h2 h3 n (by omega)
      have e1 := h3 n (fun h => hp h.symm)
      rcases hc : c n with _ | _
      · rw [cnt_f hc, cnt_f (e1.trans hc), ih]
      · rw [cnt_t hc, cnt_t (e1.trans hc), ih]
theorem rOk_Sig (h : rOk B) (hp : p < B 8 3) (h5 : B 5 p = 0) (hs : 1 ≤ s) (hs2 : s ≤ 2) : rOk (nSig B p s) := by
  obtain ⟨r1, r2, r3, r4, r5, r6, r7, r8, r9, r10, r11⟩ := h
  refine ⟨?_, ?_, ?_, ?_, ?_, ?_, ?_, ?_, ?_, fun j => ?_, fun k => ?_⟩
  · simpa [nSig_8] using r1
  · simpa [nSig_8] using r2
  · simpa [nSig_8] using r3
  · simpa [nSig_8] using r4
  · simpa [nSig_8] using r5
  · simpa [nSig_8] using r6
  · simpa [nSig_8] using r7
  · simpa [nSig_8] using r8
  · rw [nSig_8, if_pos rfl, r9]
    refine (cnt_up (p := p) (decide_eq_false (by simp [h5])) (decide_eq_true ?_) (fun j hj => ?_) 6 (by omega)).symm
    · rw [nSig_5, if_pos rfl]
      omega
    · rw [nSig_5, if_neg hj]
  · obtain ⟨p0, p1, p2, p3, p4, p5, p6, p7⟩ := r10 j
    simp (disch := decide) only [nSig_n, nSig_8, nSig_5, Nat.reduceEqDiff, if_true, if_false]
    refine ⟨p0, p1, p2, p3, p4, ?_, p6, p7⟩
    split
    · exact hs2
    · exact p5
  · simp (disch := decide) only [nSig_n, nSig_8, nSig_5, Nat.reduceEqDiff, if_true, if_false]
    exact r11 k
end
