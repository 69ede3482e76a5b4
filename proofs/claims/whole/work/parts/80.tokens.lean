/-! P (30): the text: bytes, scans, TOKENS -/
theorem lx32 : (32 : Int32) = nI 32 := rfl
theorem lx48 : (48 : Int32) = nI 48 := rfl
theorem lx57 : (57 : Int32) = nI 57 := rfl
theorem lx59 : (59 : Int32) = nI 59 := rfl
theorem lx97 : (97 : Int32) = nI 97 := rfl
theorem lx122 : (122 : Int32) = nI 122 := rfl
def isB (u : Nat) : Bool := decide (u = 32)
def isL (u : Nat) : Bool := decide (97 ≤ u ∧ u ≤ 122)
def isD (u : Nat) : Bool := decide (48 ≤ u ∧ u ≤ 57)
theorem fin_b : ∀ u, u < 256 → (bI u = nI 32 ↔ u = 32) ∧ (bI u = nI 59 ↔ u = 59) ∧ (bI u < nI 97 ↔ (u < 97 ∨ 128 ≤ u)) ∧ (nI 122 < bI u ↔ (122 < u ∧ u < 128)) ∧ (bI u < nI 48 ↔ (u < 48 ∨ 128 ≤ u)) ∧ (nI 57 < bI u ↔ (57 < u ∧ u < 128)) ∧ bI u &&& 255 = nI u ∧ (u < 128 → bI u = nI u) := by decide +kernel
section
variable {u v : Nat} {σ : jd_Hp}
theorem b_32 (h : u < 256) : (bI u = nI 32) = (u = 32) := propext (fin_b u h).1
theorem b_59 (h : u < 256) : (bI u = nI 59) = (u = 59) := propext (fin_b u h).2.1
theorem b_97 (h : u < 256) : (bI u < nI 97) = (u < 97 ∨ 128 ≤ u) := propext (fin_b u h).2.2.1
theorem b_122 (h : u < 256) : (nI 122 < bI u) = (122 < u ∧ u < 128) := propext (fin_b u h).2.2.2.1
theorem b_48 (h : u < 256) : (bI u < nI 48) = (u < 48 ∨ 128 ≤ u) := propext (fin_b u h).2.2.2.2.1
theorem b_57 (h : u < 256) : (nI 57 < bI u) = (57 < u ∧ u < 128) := propext (fin_b u h).2.2.2.2.2.1
theorem b_255 (h : u < 256) : bI u &&& 255 = nI u := (fin_b u h).2.2.2.2.2.2.1
theorem b_nI (h : u < 128) : bI u = nI u := (fin_b u (by omega)).2.2.2.2.2.2.2 h
theorem b_inj (hu : u < 256) (hv : v < 256) : (bI u = bI v) = (u = v) := propext ⟨fun h => by
  have h1 := b_255 hu
  rw [h, b_255 hv, nI_eq (by omega) (by omega)] at h1
  exact h1.symm, fun h => by rw [h]⟩
theorem x_isLetter (h : u < 256) : m_X9_isLetter (bI u) σ = some (if isL u then nI 1 else nI 0, σ) := by
  unfold m_X9_isLetter isL
  rw [jif, jif, lx97, lx122]
  simp only [b_97 h, b_122 h]
  by_cases h1 : u < 97 ∨ 128 ≤ u
  · rw [if_pos h1, decide_eq_false (by omega)]
    rfl
  · rw [if_neg h1]
    by_cases h2 : 122 < u ∧ u < 128
    · rw [if_pos h2, decide_eq_false (by omega)]
      rfl
    · rw [if_neg h2, decide_eq_true (by omega)]
      rfl
theorem x_isDigit (h : u < 256) : m_X9_isDigit (bI u) σ = some (if isD u then nI 1 else nI 0, σ) := by
  unfold m_X9_isDigit isD
  rw [jif, jif, lx48, lx57]
  simp only [b_48 h, b_57 h]
  by_cases h1 : u < 48 ∨ 128 ≤ u
  · rw [if_pos h1, decide_eq_false (by omega)]
    rfl
  · rw [if_neg h1]
    by_cases h2 : 57 < u ∧ u < 128
    · rw [if_pos h2, decide_eq_false (by omega)]
      rfl
    · rw [if_neg h2, decide_eq_true (by omega)]
      rfl
end
def scanN (c : Nat → Bool) : Nat → Nat → Nat
  | i, 0 => i
  | i, d + 1 => if c i then scanN c (i + 1) d else i
def scan (c : Nat → Bool) (n i : Nat) : Nat := scanN c i (n - i)
section
variable {c : Nat → Bool} {n i k : Nat}
theorem scan_t (h : i < n) (hc : c i = true) : scan c n i = scan c n (i + 1) := by
  unfold scan
  obtain ⟨d, hd⟩ : ∃ d, n - i = d + 1 := ⟨n - i - 1, by omega⟩
  rw [hd, show n - (i + 1) = d by omega]
  show (if c i then scanN c (i + 1) d else i) = _
  rw [if_pos hc]
theorem scan_f (hc : c i = false) : scan c n i = i := by
  unfold scan
  rcases n - i with _ | d
  · rfl
  · show (if c i then scanN c (i + 1) d else i) = _
    rw [hc]
    rfl
theorem scan_n : scan c n n = n := by
  unfold scan
  rw [Nat.sub_self]
  rfl
theorem scanN_ok : ∀ (d i : Nat), i ≤ scanN c i d ∧ scanN c i d ≤ i + d ∧ (∀ k, i ≤ k → k < scanN c i d → c k = true) ∧ (scanN c i d < i + d → c (scanN c i d) = false)
  | 0, i => ⟨Nat.le_refl _, Nat.le_refl _, fun k h1 h2 => absurd h2 (by show ¬ k < i; omega), fun h => absurd h (Nat.lt_irrefl _)⟩
  | d + 1, i => by
    show i ≤ (if c i then scanN c (i + 1) d else i) ∧ _
    rcases hc : c i with _ | _
    · have e : scanN c i (d + 1) = i := by
        show (if c i then scanN c (i + 1) d else i) = _
        rw [hc]
        rfl
      rw [e]
      exact ⟨Nat.le_refl _, by omega, fun k h1 h2 => by omega, fun _ => hc⟩
    · have e : scanN c i (d + 1) = scanN c (i + 1) d := by
        show (if c i then scanN c (i + 1) d else i) = _
        rw [hc]
        rfl
      rw [e]
      obtain ⟨h1, h2, h3, h4⟩ := scanN_ok d (i + 1)
      exact ⟨by show i ≤ scanN c (i + 1) d; omega, by omega, fun k k1 k2 => by
        by_cases hk : k = i
        · rw [hk]
          exact hc
        · exact h3 k (by omega) k2, fun h => h4 (by omega)⟩
theorem scan_ge : i ≤ scan c n i := (scanN_ok (c := c) (n - i) i).1
theorem scan_le (h : i ≤ n) : scan c n i ≤ n := by
  have := (scanN_ok (c := c) (n - i) i).2.1
  unfold scan
  omega
theorem scan_in (h1 : i ≤ k) (h2 : k < scan c n i) : c k = true := (scanN_ok (c := c) (n - i) i).2.2.1 k h1 h2
theorem scan_out (h : i ≤ n) (h2 : scan c n i < n) : c (scan c n i) = false := (scanN_ok (c := c) (n - i) i).2.2.2 (by
  have : scan c n i < n := h2
  unfold scan at this
  omega)
end
theorem jlp_scan {body : Int32 → jd_Hp → Option ((Int32 ⊕ Int32) × jd_Hp)} {σ : jd_Hp} (c : Nat → Bool) (n : Nat) {i f : Nat} (hi : i ≤ n) (hf : n < f)
    (h1 : ∀ k, k < n → c k = true → body (nI k) σ = some (.inl (nI (k + 1)), σ)) (h2 : ∀ k, k < n → c k = false → body (nI k) σ = some (.inr (nI k), σ)) (h3 : body (nI n) σ = some (.inr (nI n), σ)) : jd_lp body f (nI i) σ = some (nI (scan c n i), σ) := by
  have key : ∀ (d i f : Nat), i + d = n → d < f → jd_lp body f (nI i) σ = some (nI (scan c n i), σ) := by
    intro d
    induction d with
    | zero =>
      intro i f hi hf
      have : i = n := by omega
      subst this
      obtain ⟨f', rfl⟩ : ∃ f', f = f' + 1 := ⟨f - 1, by omega⟩
      show jd_b (body (nI i) σ) _ = _
      rw [h3, scan_n]
      rfl
    | succ d ih =>
      intro i f hi hf
      obtain ⟨f', rfl⟩ : ∃ f', f = f' + 1 := ⟨f - 1, by omega⟩
      show jd_b (body (nI i) σ) _ = _
      rcases hc : c i with _ | _
      · rw [h2 i (by omega) hc, scan_f hc]
        rfl
      · rw [h1 i (by omega) hc, scan_t (by omega) hc]
        exact ih (i + 1) f' (by omega) (by omega)
  exact key (n - i) i f (by omega) (by omega)
def pkf (b : Nat) (f : Nat → Nat) : Nat → Nat
  | 0 => 0
  | l + 1 => b * pkf b f l + f l
theorem pkf_congr {b : Nat} {f g : Nat → Nat} : ∀ {l : Nat}, (∀ k, k < l → f k = g k) → pkf b f l = pkf b g l
  | 0, _ => rfl
  | l + 1, h => by
    show b * pkf b f l + f l = b * pkf b g l + g l
    rw [pkf_congr fun k hk => h k (by omega), h l (by omega)]
theorem pkf_inj {f g : Nat → Nat} : ∀ {l m : Nat}, (∀ k, k < l → 1 ≤ f k ∧ f k < 32) → (∀ k, k < m → 1 ≤ g k ∧ g k < 32) → pkf 32 f l = pkf 32 g m → l = m ∧ ∀ k, k < l → f k = g k
  | 0, 0, _, _, _ => ⟨rfl, fun k hk => absurd hk (Nat.not_lt_zero k)⟩
  | 0, m + 1, _, hg, h => by
    have h1 : 0 = 32 * pkf 32 g m + g m := h
    have := hg m (by omega)
    omega
  | l + 1, 0, hf, _, h => by
    have h1 : 32 * pkf 32 f l + f l = 0 := h
    have := hf l (by omega)
    omega
  | l + 1, m + 1, hf, hg, h => by
    have h1 : 32 * pkf 32 f l + f l = 32 * pkf 32 g m + g m := h
    have h2 := hf l (by omega)
    have h3 := hg m (by omega)
    have h4 : f l = g m := by omega
    obtain ⟨h5, h6⟩ := pkf_inj (fun k hk => hf k (by omega)) (fun k hk => hg k (by omega)) (show pkf 32 f l = pkf 32 g m by omega)
    subst h5
    refine ⟨rfl, fun k hk => ?_⟩
    by_cases hkl : k = l
    · rw [hkl]
      exact h4
    · exact h6 k (by omega)
theorem pkf_lt {b : Nat} {f : Nat → Nat} (hb : 0 < b) : ∀ {l : Nat}, (∀ k, k < l → f k < b) → pkf b f l < b ^ l
  | 0, _ => by show 0 < b ^ 0; rw [Nat.pow_zero]; decide
  | l + 1, h => by
    have ih := pkf_lt hb (f := f) (l := l) fun k hk => h k (by omega)
    have h1 := h l (by omega)
    show b * pkf b f l + f l < b ^ (l + 1)
    rw [Nat.pow_succ, Nat.mul_comm (b ^ l) b]
    have h2 : b * (pkf b f l + 1) ≤ b * b ^ l := Nat.mul_le_mul_left b ih
    rw [Nat.mul_add, Nat.mul_one] at h2
    omega
def sl (w : Nat) : Nat := jd_sn.getD w 0
def su (w k : Nat) : Nat := (jd_ch w k).toNatClampNeg
def kw (w : Nat) : Nat := pkf 32 (fun k => su w k - 96) (sl w)
theorem fin_su : ∀ w, w < 18 → sl w ≤ 7 ∧ 1 ≤ sl w ∧ ∀ k, k < sl w → jd_ch w k = nI (su w k) ∧ 97 ≤ su w k ∧ su w k ≤ 122 := by decide +kernel
theorem fin_kw : ∀ w, w < 18 → ∀ v, v < 18 → (kw w = kw v ↔ w = v) := by decide +kernel
/-! TOKENS of n bytes tp -/
def tS (tp : Nat → Nat) (n i : Nat) : Nat := scan (fun k => isB (tp k)) n i
def tK (tp : Nat → Nat) (n i : Nat) : Nat := if n ≤ tS tp n i then 0 else if tp (tS tp n i) = 59 then 3 else if isL (tp (tS tp n i)) then (if scan (fun k => isL (tp k)) n (tS tp n i) - tS tp n i ≤ 8 then 1 else 4) else (if tS tp n i < scan (fun k => isD (tp k)) n (tS tp n i) ∧ scan (fun k => isD (tp k)) n (tS tp n i) - tS tp n i ≤ 3 then 2 else 4)
def tE (tp : Nat → Nat) (n i : Nat) : Nat := if n ≤ tS tp n i then tS tp n i else if tp (tS tp n i) = 59 then tS tp n i + 1 else if isL (tp (tS tp n i)) then scan (fun k => isL (tp k)) n (tS tp n i) else scan (fun k => isD (tp k)) n (tS tp n i)
def wv (tp : Nat → Nat) (s l : Nat) : Nat := pkf 32 (fun k => tp (s + k) - 96) l
def nv (tp : Nat → Nat) (s l : Nat) : Nat := pkf 10 (fun k => tp (s + k) - 48) l
def tW (tp : Nat → Nat) (n i : Nat) : Nat := wv tp (tS tp n i) (tE tp n i - tS tp n i)
def tV (tp : Nat → Nat) (n i : Nat) : Nat := nv tp (tS tp n i) (tE tp n i - tS tp n i)
def okW (tp : Nat → Nat) (n s l : Nat) : Prop := s + l ≤ n ∧ 1 ≤ l ∧ l ≤ 8 ∧ ∀ k, k < l → 97 ≤ tp (s + k) ∧ tp (s + k) ≤ 122
def okV (tp : Nat → Nat) (n s l : Nat) : Prop := s + l ≤ n ∧ 1 ≤ l ∧ l ≤ 3 ∧ ∀ k, k < l → 48 ≤ tp (s + k) ∧ tp (s + k) ≤ 57
section
variable {tp : Nat → Nat} {n i : Nat}
theorem isL_iff {u : Nat} : isL u = true ↔ 97 ≤ u ∧ u ≤ 122 := by
  unfold isL
  exact decide_eq_true_iff
theorem isD_iff {u : Nat} : isD u = true ↔ 48 ≤ u ∧ u ≤ 57 := by
  unfold isD
  exact decide_eq_true_iff
theorem tS_le (h : i ≤ n) : i ≤ tS tp n i ∧ tS tp n i ≤ n := ⟨scan_ge, scan_le h⟩
theorem tE_le (h : i ≤ n) : tS tp n i ≤ tE tp n i ∧ tE tp n i ≤ n := by
  obtain ⟨h1, h2⟩ := tS_le (tp := tp) h
  unfold tE
  split
  · exact ⟨Nat.le_refl _, h2⟩
  · split
    · omega
    · split
      · exact ⟨scan_ge, scan_le h2⟩
      · exact ⟨scan_ge, scan_le h2⟩
theorem tok_W (h : i ≤ n) (hk : tK tp n i = 1) : okW tp n (tS tp n i) (tE tp n i - tS tp n i) ∧ i < tE tp n i := by
  obtain ⟨h1, h2⟩ := tS_le (tp := tp) h
  obtain ⟨h3, h4⟩ := tE_le (tp := tp) h
  unfold tK at hk
  split at hk
  · exact absurd hk (by decide)
  · rename_i g1
    split at hk
    · exact absurd hk (by decide)
    · rename_i g2
      split at hk
      · rename_i g3
        split at hk
        · rename_i g4
          have e : tE tp n i = scan (fun k => isL (tp k)) n (tS tp n i) := by
            unfold tE
            rw [if_neg g1, if_neg g2, if_pos g3]
          have g5 : tS tp n i < scan (fun k => isL (tp k)) n (tS tp n i) := by
            rw [scan_t (c := fun k => isL (tp k)) (i := tS tp n i) (by omega) g3]
            have := scan_ge (c := fun k => isL (tp k)) (n := n) (i := tS tp n i + 1)
            omega
          rw [e] at h3 h4 ⊢
          exact ⟨⟨by omega, by omega, g4, fun k hk => isL_iff.mp (scan_in (c := fun k => isL (tp k)) (n := n) (i := tS tp n i) (k := tS tp n i + k) (by omega) (by omega))⟩, by omega⟩
        · exact absurd hk (by decide)
      · split at hk
        · exact absurd hk (by decide)
        · exact absurd hk (by decide)
theorem tok_V (h : i ≤ n) (hk : tK tp n i = 2) : okV tp n (tS tp n i) (tE tp n i - tS tp n i) ∧ i < tE tp n i := by
  obtain ⟨h1, h2⟩ := tS_le (tp := tp) h
  obtain ⟨h3, h4⟩ := tE_le (tp := tp) h
  unfold tK at hk
  split at hk
  · exact absurd hk (by decide)
  · rename_i g1
    split at hk
    · exact absurd hk (by decide)
    · rename_i g2
      split at hk
      · split at hk
        · exact absurd hk (by decide)
        · exact absurd hk (by decide)
      · rename_i g3
        split at hk
        · rename_i g4
          have e : tE tp n i = scan (fun k => isD (tp k)) n (tS tp n i) := by
            unfold tE
            rw [if_neg g1, if_neg g2, if_neg g3]
          rw [e] at h3 h4 ⊢
          exact ⟨⟨by omega, by omega, g4.2, fun k hk => isD_iff.mp (scan_in (c := fun k => isD (tp k)) (n := n) (i := tS tp n i) (k := tS tp n i + k) (by omega) (by omega))⟩, by omega⟩
        · exact absurd hk (by decide)
theorem tok_S (h : i ≤ n) (hk : tK tp n i = 3) : i < tE tp n i := by
  obtain ⟨h1, h2⟩ := tS_le (tp := tp) h
  unfold tK at hk
  split at hk
  · exact absurd hk (by decide)
  · rename_i g1
    split at hk
    · rename_i g2
      unfold tE
      rw [if_neg g1, if_pos g2]
      omega
    · split at hk
      · split at hk
        · exact absurd hk (by decide)
        · exact absurd hk (by decide)
      · split at hk
        · exact absurd hk (by decide)
        · exact absurd hk (by decide)
theorem tK_le : tK tp n i ≤ 4 := by
  unfold tK
  split
  · decide
  · split
    · decide
    · split
      · split <;> decide
      · split <;> decide
theorem wv_lt {s l : Nat} (h : okW tp n s l) : wv tp s l < 2 ^ 40 := by
  have h1 := pkf_lt (b := 32) (f := fun k => tp (s + k) - 96) (by decide) (l := l) fun k hk => by
    have := h.2.2.2 k hk
    show tp (s + k) - 96 < 32
    omega
  exact Nat.lt_of_lt_of_le h1 (by
    have := Nat.pow_le_pow_right (n := 32) (by decide) h.2.2.1
    exact Nat.le_trans this (by decide))
theorem nv_lt {s l : Nat} (h : okV tp n s l) : nv tp s l < 1000 := by
  have h1 := pkf_lt (b := 10) (f := fun k => tp (s + k) - 48) (by decide) (l := l) fun k hk => by
    have := h.2.2.2 k hk
    show tp (s + k) - 48 < 10
    omega
  exact Nat.lt_of_lt_of_le h1 (by
    have := Nat.pow_le_pow_right (n := 10) (by decide) h.2.2.1
    exact Nat.le_trans this (by decide))
theorem wv_eq {s l s' l' : Nat} (h : okW tp n s l) (h' : okW tp n s' l') : wv tp s l = wv tp s' l' ↔ l = l' ∧ ∀ k, k < l → tp (s + k) = tp (s' + k) := by
  constructor
  · intro e
    obtain ⟨e1, e2⟩ := pkf_inj (f := fun k => tp (s + k) - 96) (g := fun k => tp (s' + k) - 96) (fun k hk => by
      have := h.2.2.2 k hk
      show 1 ≤ tp (s + k) - 96 ∧ tp (s + k) - 96 < 32
      omega) (fun k hk => by
      have := h'.2.2.2 k hk
      show 1 ≤ tp (s' + k) - 96 ∧ tp (s' + k) - 96 < 32
      omega) e
    refine ⟨e1, fun k hk => ?_⟩
    have a1 : tp (s + k) - 96 = tp (s' + k) - 96 := e2 k hk
    have a2 := h.2.2.2 k hk
    have a3 := h'.2.2.2 k (by omega)
    omega
  · rintro ⟨rfl, e⟩
    exact pkf_congr fun k hk => by
      show tp (s + k) - 96 = tp (s' + k) - 96
      rw [e k hk]
theorem wv_kw {s l w : Nat} (h : okW tp n s l) (hw : w < 18) : wv tp s l = kw w ↔ l = sl w ∧ ∀ k, k < l → tp (s + k) = su w k := by
  obtain ⟨-, -, hs⟩ := fin_su w hw
  constructor
  · intro e
    obtain ⟨e1, e2⟩ := pkf_inj (f := fun k => tp (s + k) - 96) (g := fun k => su w k - 96) (fun k hk => by
      have := h.2.2.2 k hk
      show 1 ≤ tp (s + k) - 96 ∧ tp (s + k) - 96 < 32
      omega) (fun k hk => by
      have := (hs k hk).2
      show 1 ≤ su w k - 96 ∧ su w k - 96 < 32
      omega) e
    refine ⟨e1, fun k hk => ?_⟩
    have a1 : tp (s + k) - 96 = su w k - 96 := e2 k hk
    have a2 := h.2.2.2 k hk
    have a3 := (hs k (by omega)).2
    omega
  · rintro ⟨rfl, e⟩
    exact pkf_congr fun k hk => by
      show tp (s + k) - 96 = su w k - 96
      rw [e k hk]
end
/-! the class's reader: TOKENS -/
def CB (tp : Nat → Nat) (n : Nat) (σ : jd_Hp) : Prop := Wd σ ∧ σ.2.1 35 6 = nI n ∧ (∀ k, k < n → σ.2.1 34 k = bI (tp k)) ∧ n ≤ 900 ∧ ∀ k, tp k < 256
def avd (σ : jd_Hp) (k s e : Nat) : jd_Hp := jd_pi (jd_pi (jd_pi (jd_pi σ 35 8 (nI k)) 35 9 (nI s)) 35 10 (nI (e - s))) 35 7 (nI e)
def DV (a k : Nat) : Prop := a = 35 ∧ 7 ≤ k ∧ k ≤ 10
section
variable {tp : Nat → Nat} {n i : Nat} {σ : jd_Hp}
theorem avd_fr (k s e : Nat) : Fr DV L0 σ (avd σ k s e) := Fr_pi (Fr_pi (Fr_pi (Fr_pi (Fr_refl σ) ⟨rfl, by decide, by decide⟩) ⟨rfl, by decide, by decide⟩) ⟨rfl, by decide, by decide⟩) ⟨rfl, by decide, by decide⟩
theorem avd_7 (k s e : Nat) : (avd σ k s e).2.1 35 7 = nI e := pi_eq _ _ _ _
theorem avd_8 (k s e : Nat) : (avd σ k s e).2.1 35 8 = nI k := by
  unfold avd
  rw [pi_ne _ _ (by omega), pi_ne _ _ (by omega), pi_ne _ _ (by omega), pi_eq]
theorem avd_9 (k s e : Nat) : (avd σ k s e).2.1 35 9 = nI s := by
  unfold avd
  rw [pi_ne _ _ (by omega), pi_ne _ _ (by omega), pi_eq]
theorem avd_10 (k s e : Nat) : (avd σ k s e).2.1 35 10 = nI (e - s) := by
  unfold avd
  rw [pi_ne _ _ (by omega), pi_eq]
set_option maxHeartbeats 4000000 in
theorem x_advance (hB : CB tp n σ) (h7 : σ.2.1 35 7 = nI i) (hi : i ≤ n) : m_X9_advance 35 σ = some ((), avd σ (tK tp n i) (tS tp n i) (tE tp n i)) := by
  obtain ⟨hW, h6, hY, hn, ht⟩ := hB
  obtain ⟨s1, s2⟩ := tS_le (tp := tp) hi
  unfold m_X9_advance
  rw [jli, h7]
  rw [jlp_scan (fun k => isB (tp k)) n hi (jfu (by omega)) ?_ ?_ ?_]
  · rw [jb_some]
    show jd_o σ (9, 16) (some 35) _ = some ((), avd σ (tK tp n i) (tS tp n i) (tE tp n i))
    unfold tK tE
    rw [show scan (fun k => isB (tp k)) n i = tS tp n i from rfl]
    generalize tS tp n i = s at *
    by_cases h1 : s < n
    · have h1' : ¬ n ≤ s := by omega
      have hs := hY s h1
      have hu := ht s
      by_cases h2 : tp s = 59
      · have h2' : bI 59 = nI 59 := b_nI (by decide)
        have e1 : nI (s + 1) - nI s = nI (s + 1 - s) := nI_sub (by omega)
        simp (disch := omega) only [jb_some, jli, jif, jd_q, jd_K0, jpi_s, jpi_l, jpi_p, jpl_s, jpl_i, jpl_p, if_true, if_false, if_pos, if_neg, not_true_eq_false, not_false_eq_true, ite_true, ite_false, Nat.not_lt_zero, eq_self, Nat.le_refl, Nat.lt_irrefl, Bool.false_eq_true, or0, jo_pi, jo_pl, jia_pi, jia_pl, jo_cpy, jia_cpy, cpy_r, m_X11_grant, m_X11_refuse, m_X13_good, m_X13_refused, reduceCtorEq, nI_add, nI_leI, nI_ltI, nI_eq, pk_mul, abs_nI, max_nI, min_nI, nI_m1, nI_m2, nI_le1, m1_lt, m2_lt, and_nI, or_nI, an_nI, has_nI, bit_nI, bc_nI, bits_nI, lx0, lx1, lx2, lx3, lx4, lx5, lx6, lx7, lx8, lx9, lx10, lx11, lx16, lx20, lx40, lx60, lx90, lx99, lx100, lx200, lx900, lx999, lx9999, h1, h1', h2, hs, h2', h6, lx59, e1, jo_35 hW, wr_35_0 hW, ja_34 hW]
        rfl
      · have h2' : ¬ bI (tp s) = nI 59 := by rw [b_59 hu]; exact h2
        rcases h3 : isL (tp s) with _ | _
        · have e3 := fun σ => x_isLetter (σ := σ) hu
          rw [h3] at e3
          obtain ⟨e, he⟩ : ∃ e, e = scan (fun k => isD (tp k)) n s := ⟨_, rfl⟩
          have d1 := scan_ge (c := fun k => isD (tp k)) (n := n) (i := s)
          have d2 := scan_le (c := fun k => isD (tp k)) (n := n) (i := s) s2
          have lp := fun (body : Int32 → jd_Hp → Option ((Int32 ⊕ Int32) × jd_Hp)) a b c => jlp_scan (body := body) (σ := σ) (fun k => isD (tp k)) n (i := s) s2 (f := jd_fu) (jfu (by omega)) a b c
          simp (disch := omega) only [jb_some, jli, jif, jd_q, jd_K0, jpi_s, jpi_l, jpi_p, jpl_s, jpl_i, jpl_p, if_true, if_false, if_pos, if_neg, not_true_eq_false, not_false_eq_true, ite_true, ite_false, Nat.not_lt_zero, eq_self, Nat.le_refl, Nat.lt_irrefl, Bool.false_eq_true, or0, jo_pi, jo_pl, jia_pi, jia_pl, jo_cpy, jia_cpy, cpy_r, m_X11_grant, m_X11_refuse, m_X13_good, m_X13_refused, reduceCtorEq, nI_add, nI_leI, nI_ltI, nI_eq, pk_mul, abs_nI, max_nI, min_nI, nI_m1, nI_m2, nI_le1, m1_lt, m2_lt, and_nI, or_nI, an_nI, has_nI, bit_nI, bc_nI, bits_nI, lx0, lx1, lx2, lx3, lx4, lx5, lx6, lx7, lx8, lx9, lx10, lx11, lx16, lx20, lx40, lx60, lx90, lx99, lx100, lx200, lx900, lx999, lx9999, h1, h1', h2, hs, h2', h6, lx59, e3, jo_35 hW, wr_35_0 hW, ja_34 hW]
          rw [lp _ ?_ ?_ ?_]
          · rw [← he] at d1 d2 ⊢
            have e1 : nI e - nI s = nI (e - s) := nI_sub (by omega)
            by_cases h4 : e ≤ s
            · have h4' : ¬ s < e := by omega
              simp (disch := omega) only [jb_some, jli, jif, jd_q, jd_K0, jpi_s, jpi_l, jpi_p, jpl_s, jpl_i, jpl_p, if_true, if_false, if_pos, if_neg, not_true_eq_false, not_false_eq_true, ite_true, ite_false, Nat.not_lt_zero, eq_self, Nat.le_refl, Nat.lt_irrefl, Bool.false_eq_true, or0, jo_pi, jo_pl, jia_pi, jia_pl, jo_cpy, jia_cpy, cpy_r, m_X11_grant, m_X11_refuse, m_X13_good, m_X13_refused, reduceCtorEq, nI_add, nI_leI, nI_ltI, nI_eq, pk_mul, abs_nI, max_nI, min_nI, nI_m1, nI_m2, nI_le1, m1_lt, m2_lt, and_nI, or_nI, an_nI, has_nI, bit_nI, bc_nI, bits_nI, lx0, lx1, lx2, lx3, lx4, lx5, lx6, lx7, lx8, lx9, lx10, lx11, lx16, lx20, lx40, lx60, lx90, lx99, lx100, lx200, lx900, lx999, lx9999, h4, h4', e1, false_and, jo_35 hW]
              rfl
            · have h4' : s < e := by omega
              by_cases h5 : 3 < e - s
              · have h5' : ¬ e - s ≤ 3 := by omega
                simp (disch := omega) only [jb_some, jli, jif, jd_q, jd_K0, jpi_s, jpi_l, jpi_p, jpl_s, jpl_i, jpl_p, if_true, if_false, if_pos, if_neg, not_true_eq_false, not_false_eq_true, ite_true, ite_false, Nat.not_lt_zero, eq_self, Nat.le_refl, Nat.lt_irrefl, Bool.false_eq_true, or0, jo_pi, jo_pl, jia_pi, jia_pl, jo_cpy, jia_cpy, cpy_r, m_X11_grant, m_X11_refuse, m_X13_good, m_X13_refused, reduceCtorEq, nI_add, nI_leI, nI_ltI, nI_eq, pk_mul, abs_nI, max_nI, min_nI, nI_m1, nI_m2, nI_le1, m1_lt, m2_lt, and_nI, or_nI, an_nI, has_nI, bit_nI, bc_nI, bits_nI, lx0, lx1, lx2, lx3, lx4, lx5, lx6, lx7, lx8, lx9, lx10, lx11, lx16, lx20, lx40, lx60, lx90, lx99, lx100, lx200, lx900, lx999, lx9999, h4, h4', h5, h5', e1, and_false, jo_35 hW]
                rfl
              · have h5' : e - s ≤ 3 := by omega
                simp (disch := omega) only [jb_some, jli, jif, jd_q, jd_K0, jpi_s, jpi_l, jpi_p, jpl_s, jpl_i, jpl_p, if_true, if_false, if_pos, if_neg, not_true_eq_false, not_false_eq_true, ite_true, ite_false, Nat.not_lt_zero, eq_self, Nat.le_refl, Nat.lt_irrefl, Bool.false_eq_true, or0, jo_pi, jo_pl, jia_pi, jia_pl, jo_cpy, jia_cpy, cpy_r, m_X11_grant, m_X11_refuse, m_X13_good, m_X13_refused, reduceCtorEq, nI_add, nI_leI, nI_ltI, nI_eq, pk_mul, abs_nI, max_nI, min_nI, nI_m1, nI_m2, nI_le1, m1_lt, m2_lt, and_nI, or_nI, an_nI, has_nI, bit_nI, bc_nI, bits_nI, lx0, lx1, lx2, lx3, lx4, lx5, lx6, lx7, lx8, lx9, lx10, lx11, lx16, lx20, lx40, lx60, lx90, lx99, lx100, lx200, lx900, lx999, lx9999, h4, h4', h5, h5', e1, and_true, jo_35 hW]
                rfl
          · intro k hk hc
            have hk' : ¬ n ≤ k := by omega
            have hc : isD (tp k) = true := hc
            have e5 := fun σ => x_isDigit (σ := σ) (ht k)
            rw [hc] at e5
            have e6 := hY k hk
            simp (disch := omega) only [jb_some, jli, jif, jd_q, jd_K0, jpi_s, jpi_l, jpi_p, jpl_s, jpl_i, jpl_p, if_true, if_false, if_pos, if_neg, not_true_eq_false, not_false_eq_true, ite_true, ite_false, Nat.not_lt_zero, eq_self, Nat.le_refl, Nat.lt_irrefl, Bool.false_eq_true, or0, jo_pi, jo_pl, jia_pi, jia_pl, jo_cpy, jia_cpy, cpy_r, m_X11_grant, m_X11_refuse, m_X13_good, m_X13_refused, reduceCtorEq, nI_add, nI_leI, nI_ltI, nI_eq, pk_mul, abs_nI, max_nI, min_nI, nI_m1, nI_m2, nI_le1, m1_lt, m2_lt, and_nI, or_nI, an_nI, has_nI, bit_nI, bc_nI, bits_nI, lx0, lx1, lx2, lx3, lx4, lx5, lx6, lx7, lx8, lx9, lx10, lx11, lx16, lx20, lx40, lx60, lx90, lx99, lx100, lx200, lx900, lx999, lx9999, hk', h6, e6, e5, jo_35 hW, wr_35_0 hW, ja_34 hW]
          · intro k hk hc
            have hk' : ¬ n ≤ k := by omega
            have hc : isD (tp k) = false := hc
            have e5 := fun σ => x_isDigit (σ := σ) (ht k)
            rw [hc] at e5
            have e6 := hY k hk
            simp (disch := omega) only [jb_some, jli, jif, jd_q, jd_K0, jpi_s, jpi_l, jpi_p, jpl_s, jpl_i, jpl_p, if_true, if_false, if_pos, if_neg, not_true_eq_false, not_false_eq_true, ite_true, ite_false, Nat.not_lt_zero, eq_self, Nat.le_refl, Nat.lt_irrefl, Bool.false_eq_true, or0, jo_pi, jo_pl, jia_pi, jia_pl, jo_cpy, jia_cpy, cpy_r, m_X11_grant, m_X11_refuse, m_X13_good, m_X13_refused, reduceCtorEq, nI_add, nI_leI, nI_ltI, nI_eq, pk_mul, abs_nI, max_nI, min_nI, nI_m1, nI_m2, nI_le1, m1_lt, m2_lt, and_nI, or_nI, an_nI, has_nI, bit_nI, bc_nI, bits_nI, lx0, lx1, lx2, lx3, lx4, lx5, lx6, lx7, lx8, lx9, lx10, lx11, lx16, lx20, lx40, lx60, lx90, lx99, lx100, lx200, lx900, lx999, lx9999, hk', h6, e6, e5, jo_35 hW, wr_35_0 hW, ja_34 hW]
          · simp (disch := omega) only [jb_some, jli, jif, jd_q, jd_K0, jpi_s, jpi_l, jpi_p, jpl_s, jpl_i, jpl_p, if_true, if_false, if_pos, if_neg, not_true_eq_false, not_false_eq_true, ite_true, ite_false, Nat.not_lt_zero, eq_self, Nat.le_refl, Nat.lt_irrefl, Bool.false_eq_true, or0, jo_pi, jo_pl, jia_pi, jia_pl, jo_cpy, jia_cpy, cpy_r, m_X11_grant, m_X11_refuse, m_X13_good, m_X13_refused, reduceCtorEq, nI_add, nI_leI, nI_ltI, nI_eq, pk_mul, abs_nI, max_nI, min_nI, nI_m1, nI_m2, nI_le1, m1_lt, m2_lt, and_nI, or_nI, an_nI, has_nI, bit_nI, bc_nI, bits_nI, lx0, lx1, lx2, lx3, lx4, lx5, lx6, lx7, lx8, lx9, lx10, lx11, lx16, lx20, lx40, lx60, lx90, lx99, lx100, lx200, lx900, lx999, lx9999, h6, jo_35 hW]
        · have e3 := fun σ => x_isLetter (σ := σ) hu
          rw [h3] at e3
          obtain ⟨e, he⟩ : ∃ e, e = scan (fun k => isL (tp k)) n s := ⟨_, rfl⟩
          have d1 := scan_ge (c := fun k => isL (tp k)) (n := n) (i := s)
          have d2 := scan_le (c := fun k => isL (tp k)) (n := n) (i := s) s2
          have lp := fun (body : Int32 → jd_Hp → Option ((Int32 ⊕ Int32) × jd_Hp)) a b c => jlp_scan (body := body) (σ := σ) (fun k => isL (tp k)) n (i := s) s2 (f := jd_fu) (jfu (by omega)) a b c
          simp (disch := omega) only [jb_some, jli, jif, jd_q, jd_K0, jpi_s, jpi_l, jpi_p, jpl_s, jpl_i, jpl_p, if_true, if_false, if_pos, if_neg, not_true_eq_false, not_false_eq_true, ite_true, ite_false, Nat.not_lt_zero, eq_self, Nat.le_refl, Nat.lt_irrefl, Bool.false_eq_true, or0, jo_pi, jo_pl, jia_pi, jia_pl, jo_cpy, jia_cpy, cpy_r, m_X11_grant, m_X11_refuse, m_X13_good, m_X13_refused, reduceCtorEq, nI_add, nI_leI, nI_ltI, nI_eq, pk_mul, abs_nI, max_nI, min_nI, nI_m1, nI_m2, nI_le1, m1_lt, m2_lt, and_nI, or_nI, an_nI, has_nI, bit_nI, bc_nI, bits_nI, lx0, lx1, lx2, lx3, lx4, lx5, lx6, lx7, lx8, lx9, lx10, lx11, lx16, lx20, lx40, lx60, lx90, lx99, lx100, lx200, lx900, lx999, lx9999, h1, h1', h2, hs, h2', h6, lx59, e3, jo_35 hW, wr_35_0 hW, ja_34 hW]
          rw [lp _ ?_ ?_ ?_]
          · rw [← he] at d1 d2 ⊢
            have e1 : nI e - nI s = nI (e - s) := nI_sub (by omega)
            by_cases h5 : 8 < e - s
            · have h5' : ¬ e - s ≤ 8 := by omega
              simp (disch := omega) only [jb_some, jli, jif, jd_q, jd_K0, jpi_s, jpi_l, jpi_p, jpl_s, jpl_i, jpl_p, if_true, if_false, if_pos, if_neg, not_true_eq_false, not_false_eq_true, ite_true, ite_false, Nat.not_lt_zero, eq_self, Nat.le_refl, Nat.lt_irrefl, Bool.false_eq_true, or0, jo_pi, jo_pl, jia_pi, jia_pl, jo_cpy, jia_cpy, cpy_r, m_X11_grant, m_X11_refuse, m_X13_good, m_X13_refused, reduceCtorEq, nI_add, nI_leI, nI_ltI, nI_eq, pk_mul, abs_nI, max_nI, min_nI, nI_m1, nI_m2, nI_le1, m1_lt, m2_lt, and_nI, or_nI, an_nI, has_nI, bit_nI, bc_nI, bits_nI, lx0, lx1, lx2, lx3, lx4, lx5, lx6, lx7, lx8, lx9, lx10, lx11, lx16, lx20, lx40, lx60, lx90, lx99, lx100, lx200, lx900, lx999, lx9999, h5, h5', e1, and_false, jo_35 hW]
              rfl
            · have h5' : e - s ≤ 8 := by omega
              simp (disch := omega) only [jb_some, jli, jif, jd_q, jd_K0, jpi_s, jpi_l, jpi_p, jpl_s, jpl_i, jpl_p, if_true, if_false, if_pos, if_neg, not_true_eq_false, not_false_eq_true, ite_true, ite_false, Nat.not_lt_zero, eq_self, Nat.le_refl, Nat.lt_irrefl, Bool.false_eq_true, or0, jo_pi, jo_pl, jia_pi, jia_pl, jo_cpy, jia_cpy, cpy_r, m_X11_grant, m_X11_refuse, m_X13_good, m_X13_refused, reduceCtorEq, nI_add, nI_leI, nI_ltI, nI_eq, pk_mul, abs_nI, max_nI, min_nI, nI_m1, nI_m2, nI_le1, m1_lt, m2_lt, and_nI, or_nI, an_nI, has_nI, bit_nI, bc_nI, bits_nI, lx0, lx1, lx2, lx3, lx4, lx5, lx6, lx7, lx8, lx9, lx10, lx11, lx16, lx20, lx40, lx60, lx90, lx99, lx100, lx200, lx900, lx999, lx9999, h5, h5', e1, and_true, jo_35 hW]
              rfl
          · intro k hk hc
            have hk' : ¬ n ≤ k := by omega
            have hc : isL (tp k) = true := hc
            have e5 := fun σ => x_isLetter (σ := σ) (ht k)
            rw [hc] at e5
            have e6 := hY k hk
            simp (disch := omega) only [jb_some, jli, jif, jd_q, jd_K0, jpi_s, jpi_l, jpi_p, jpl_s, jpl_i, jpl_p, if_true, if_false, if_pos, if_neg, not_true_eq_false, not_false_eq_true, ite_true, ite_false, Nat.not_lt_zero, eq_self, Nat.le_refl, Nat.lt_irrefl, Bool.false_eq_true, or0, jo_pi, jo_pl, jia_pi, jia_pl, jo_cpy, jia_cpy, cpy_r, m_X11_grant, m_X11_refuse, m_X13_good, m_X13_refused, reduceCtorEq, nI_add, nI_leI, nI_ltI, nI_eq, pk_mul, abs_nI, max_nI, min_nI, nI_m1, nI_m2, nI_le1, m1_lt, m2_lt, and_nI, or_nI, an_nI, has_nI, bit_nI, bc_nI, bits_nI, lx0, lx1, lx2, lx3, lx4, lx5, lx6, lx7, lx8, lx9, lx10, lx11, lx16, lx20, lx40, lx60, lx90, lx99, lx100, lx200, lx900, lx999, lx9999, hk', h6, e6, e5, jo_35 hW, wr_35_0 hW, ja_34 hW]
          · intro k hk hc
            have hk' : ¬ n ≤ k := by omega
            have hc : isL (tp k) = false := hc
            have e5 := fun σ => x_isLetter (σ := σ) (ht k)
            rw [hc] at e5
            have e6 := hY k hk
            simp (disch := omega) only [jb_some, jli, jif, jd_q, jd_K0, jpi_s, jpi_l, jpi_p, jpl_s, jpl_i, jpl_p, if_true, if_false, if_pos, if_neg, not_true_eq_false, not_false_eq_true, ite_true, ite_false, Nat.not_lt_zero, eq_self, Nat.le_refl, Nat.lt_irrefl, Bool.false_eq_true, or0, jo_pi, jo_pl, jia_pi, jia_pl, jo_cpy, jia_cpy, cpy_r, m_X11_grant, m_X11_refuse, m_X13_good, m_X13_refused, reduceCtorEq, nI_add, nI_leI, nI_ltI, nI_eq, pk_mul, abs_nI, max_nI, min_nI, nI_m1, nI_m2, nI_le1, m1_lt, m2_lt, and_nI, or_nI, an_nI, has_nI, bit_nI, bc_nI, bits_nI, lx0, lx1, lx2, lx3, lx4, lx5, lx6, lx7, lx8, lx9, lx10, lx11, lx16, lx20, lx40, lx60, lx90, lx99, lx100, lx200, lx900, lx999, lx9999, hk', h6, e6, e5, jo_35 hW, wr_35_0 hW, ja_34 hW]
          · simp (disch := omega) only [jb_some, jli, jif, jd_q, jd_K0, jpi_s, jpi_l, jpi_p, jpl_s, jpl_i, jpl_p, if_true, if_false, if_pos, if_neg, not_true_eq_false, not_false_eq_true, ite_true, ite_false, Nat.not_lt_zero, eq_self, Nat.le_refl, Nat.lt_irrefl, Bool.false_eq_true, or0, jo_pi, jo_pl, jia_pi, jia_pl, jo_cpy, jia_cpy, cpy_r, m_X11_grant, m_X11_refuse, m_X13_good, m_X13_refused, reduceCtorEq, nI_add, nI_leI, nI_ltI, nI_eq, pk_mul, abs_nI, max_nI, min_nI, nI_m1, nI_m2, nI_le1, m1_lt, m2_lt, and_nI, or_nI, an_nI, has_nI, bit_nI, bc_nI, bits_nI, lx0, lx1, lx2, lx3, lx4, lx5, lx6, lx7, lx8, lx9, lx10, lx11, lx16, lx20, lx40, lx60, lx90, lx99, lx100, lx200, lx900, lx999, lx9999, h6, jo_35 hW]
    · have h1' : n ≤ s := by omega
      have e1 : nI s - nI s = nI (s - s) := nI_sub (Nat.le_refl _)
      simp (disch := omega) only [jb_some, jli, jif, jd_q, jd_K0, jpi_s, jpi_l, jpi_p, jpl_s, jpl_i, jpl_p, if_true, if_false, if_pos, if_neg, not_true_eq_false, not_false_eq_true, ite_true, ite_false, Nat.not_lt_zero, eq_self, Nat.le_refl, Nat.lt_irrefl, Bool.false_eq_true, or0, jo_pi, jo_pl, jia_pi, jia_pl, jo_cpy, jia_cpy, cpy_r, m_X11_grant, m_X11_refuse, m_X13_good, m_X13_refused, reduceCtorEq, nI_add, nI_leI, nI_ltI, nI_eq, pk_mul, abs_nI, max_nI, min_nI, nI_m1, nI_m2, nI_le1, m1_lt, m2_lt, and_nI, or_nI, an_nI, has_nI, bit_nI, bc_nI, bits_nI, lx0, lx1, lx2, lx3, lx4, lx5, lx6, lx7, lx8, lx9, lx10, lx11, lx16, lx20, lx40, lx60, lx90, lx99, lx100, lx200, lx900, lx999, lx9999, h1, h1', h6, e1, jo_35 hW]
      rfl
  · intro k hk hc
    have hk' : ¬ n ≤ k := by omega
    have hc : tp k = 32 := by
      have : isB (tp k) = true := hc
      unfold isB at this
      exact decide_eq_true_iff.mp this
    have e6 := hY k hk
    have e5 : bI (tp k) = nI 32 := by rw [hc]; exact (b_nI (by decide))
    simp (disch := omega) only [jb_some, jli, jif, jd_q, jd_K0, jpi_s, jpi_l, jpi_p, jpl_s, jpl_i, jpl_p, if_true, if_false, if_pos, if_neg, not_true_eq_false, not_false_eq_true, ite_true, ite_false, Nat.not_lt_zero, eq_self, Nat.le_refl, Nat.lt_irrefl, Bool.false_eq_true, or0, jo_pi, jo_pl, jia_pi, jia_pl, jo_cpy, jia_cpy, cpy_r, m_X11_grant, m_X11_refuse, m_X13_good, m_X13_refused, reduceCtorEq, nI_add, nI_leI, nI_ltI, nI_eq, pk_mul, abs_nI, max_nI, min_nI, nI_m1, nI_m2, nI_le1, m1_lt, m2_lt, and_nI, or_nI, an_nI, has_nI, bit_nI, bc_nI, bits_nI, lx0, lx1, lx2, lx3, lx4, lx5, lx6, lx7, lx8, lx9, lx10, lx11, lx16, lx20, lx40, lx60, lx90, lx99, lx100, lx200, lx900, lx999, lx9999, hk', h6, e6, e5, lx32, jo_35 hW, wr_35_0 hW, ja_34 hW]
  · intro k hk hc
    have hk' : ¬ n ≤ k := by omega
    have hc : ¬ tp k = 32 := by
      have : isB (tp k) = false := hc
      unfold isB at this
      exact of_decide_eq_false this
    have e6 := hY k hk
    have e5 : ¬ bI (tp k) = nI 32 := by rw [b_32 (ht k)]; exact hc
    simp (disch := omega) only [jb_some, jli, jif, jd_q, jd_K0, jpi_s, jpi_l, jpi_p, jpl_s, jpl_i, jpl_p, if_true, if_false, if_pos, if_neg, not_true_eq_false, not_false_eq_true, ite_true, ite_false, Nat.not_lt_zero, eq_self, Nat.le_refl, Nat.lt_irrefl, Bool.false_eq_true, or0, jo_pi, jo_pl, jia_pi, jia_pl, jo_cpy, jia_cpy, cpy_r, m_X11_grant, m_X11_refuse, m_X13_good, m_X13_refused, reduceCtorEq, nI_add, nI_leI, nI_ltI, nI_eq, pk_mul, abs_nI, max_nI, min_nI, nI_m1, nI_m2, nI_le1, m1_lt, m2_lt, and_nI, or_nI, an_nI, has_nI, bit_nI, bc_nI, bits_nI, lx0, lx1, lx2, lx3, lx4, lx5, lx6, lx7, lx8, lx9, lx10, lx11, lx16, lx20, lx40, lx60, lx90, lx99, lx100, lx200, lx900, lx999, lx9999, hk', h6, e6, e5, lx32, jo_35 hW, wr_35_0 hW, ja_34 hW]
  · simp (disch := omega) only [jb_some, jli, jif, jd_q, jd_K0, jpi_s, jpi_l, jpi_p, jpl_s, jpl_i, jpl_p, if_true, if_false, if_pos, if_neg, not_true_eq_false, not_false_eq_true, ite_true, ite_false, Nat.not_lt_zero, eq_self, Nat.le_refl, Nat.lt_irrefl, Bool.false_eq_true, or0, jo_pi, jo_pl, jia_pi, jia_pl, jo_cpy, jia_cpy, cpy_r, m_X11_grant, m_X11_refuse, m_X13_good, m_X13_refused, reduceCtorEq, nI_add, nI_leI, nI_ltI, nI_eq, pk_mul, abs_nI, max_nI, min_nI, nI_m1, nI_m2, nI_le1, m1_lt, m2_lt, and_nI, or_nI, an_nI, has_nI, bit_nI, bc_nI, bits_nI, lx0, lx1, lx2, lx3, lx4, lx5, lx6, lx7, lx8, lx9, lx10, lx11, lx16, lx20, lx40, lx60, lx90, lx99, lx100, lx200, lx900, lx999, lx9999, h6, jo_35 hW]
end
