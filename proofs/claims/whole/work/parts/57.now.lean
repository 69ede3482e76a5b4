/-! P (7): now, posts: what is meant, and the class -/
def argO (c : Nat → Option Nat) : Nat → Option (Nat × Nat)
  | 0 => none
  | n + 1 => match c n with
    | none => argO c n
    | some t => match argO c n with
      | none => some (n, t)
      | some x => if x.2 ≤ t then some x else some (n, t)
theorem argO_0 {c : Nat → Option Nat} {n : Nat} (h : c n = none) : argO c (n + 1) = argO c n := by
  show (match c n with
    | none => argO c n
    | some t => match argO c n with
      | none => some (n, t)
      | some x => if x.2 ≤ t then some x else some (n, t)) = _
  rw [h]
theorem argO_1 {c : Nat → Option Nat} {n t : Nat} (h : c n = some t) (g : argO c n = none) : argO c (n + 1) = some (n, t) := by
  show (match c n with
    | none => argO c n
    | some t => match argO c n with
      | none => some (n, t)
      | some x => if x.2 ≤ t then some x else some (n, t)) = _
  rw [h, g]
theorem argO_2 {c : Nat → Option Nat} {n t : Nat} {x : Nat × Nat} (h : c n = some t) (g : argO c n = some x) (k : x.2 ≤ t) : argO c (n + 1) = some x := by
  show (match c n with
    | none => argO c n
    | some t => match argO c n with
      | none => some (n, t)
      | some x => if x.2 ≤ t then some x else some (n, t)) = _
  rw [h, g]
  exact if_pos k
theorem argO_3 {c : Nat → Option Nat} {n t : Nat} {x : Nat × Nat} (h : c n = some t) (g : argO c n = some x) (k : ¬ x.2 ≤ t) : argO c (n + 1) = some (n, t) := by
  show (match c n with
    | none => argO c n
    | some t => match argO c n with
      | none => some (n, t)
      | some x => if x.2 ≤ t then some x else some (n, t)) = _
  rw [h, g]
  exact if_neg k
theorem argO_spec {c : Nat → Option Nat} : ∀ {n : Nat} {x : Nat × Nat}, argO c n = some x → x.1 < n ∧ c x.1 = some x.2
  | 0, _, h => absurd h (by simp [argO])
  | n + 1, x, h => by
    rcases hc : c n with _ | t
    · rw [argO_0 hc] at h
      have := argO_spec h
      exact ⟨by omega, this.2⟩
    · rcases hg : argO c n with _ | y
      · rw [argO_1 hc hg] at h
        injection h with h
        subst h
        exact ⟨Nat.lt_succ_self n, hc⟩
      · by_cases hk : y.2 ≤ t
        · rw [argO_2 hc hg hk] at h
          injection h with h
          subst h
          have := argO_spec hg
          exact ⟨by omega, this.2⟩
        · rw [argO_3 hc hg hk] at h
          injection h with h
          subst h
          exact ⟨Nat.lt_succ_self n, hc⟩
theorem argO_none {c : Nat → Option Nat} : ∀ {n : Nat}, argO c n = none ↔ ∀ i, i < n → c i = none
  | 0 => ⟨fun _ i hi => absurd hi (Nat.not_lt_zero i), fun _ => rfl⟩
  | n + 1 => by
    rcases hc : c n with _ | t
    · rw [argO_0 hc, argO_none]
      exact ⟨fun h i hi => by
        by_cases h1 : i = n
        · rw [h1, hc]
        · exact h i (by omega), fun h i hi => h i (by omega)⟩
    · refine ⟨fun h => ?_, fun h => absurd (h n (Nat.lt_succ_self n)) (by simp [hc])⟩
      rcases hg : argO c n with _ | y
      · rw [argO_1 hc hg] at h
        exact absurd h (by simp)
      · by_cases hk : y.2 ≤ t
        · rw [argO_2 hc hg hk] at h
          exact absurd h (by simp)
        · rw [argO_3 hc hg hk] at h
          exact absurd h (by simp)
def oI (o : Option (Nat × Nat)) : Int32 := o.elim (- nI 2) fun x => nI x.1
def oL (o : Option (Nat × Nat)) : Int32 := o.elim (nI 0) fun x => nI x.2
def argM (f : Nat → Nat) : Nat → Nat × Nat
  | 0 => (0, 0)
  | n + 1 => if f n ≤ (argM f n).2 then argM f n else (n, f n)
theorem argM_le {f : Nat → Nat} {m : Nat} (h : ∀ i, f i ≤ m) : ∀ n, (argM f n).2 ≤ m
  | 0 => Nat.zero_le m
  | n + 1 => by
    show (if f n ≤ (argM f n).2 then argM f n else (n, f n)).2 ≤ m
    split
    · exact argM_le h n
    · exact h n
theorem argM_t {f : Nat → Nat} {n : Nat} (h : f n ≤ (argM f n).2) : argM f (n + 1) = argM f n := if_pos h
theorem argM_f {f : Nat → Nat} {n : Nat} (h : ¬ f n ≤ (argM f n).2) : argM f (n + 1) = (n, f n) := if_neg h
def nM : Nat := 201
theorem nM_eq : nM = 201 := rfl
def nP : Nat := 100
theorem nP_eq : nP = 100 := rfl
def argP (f : Nat → Nat) : Nat → Option (Nat × Nat)
  | 0 => none
  | n + 1 => if f n ≤ (argP f n).elim 0 Prod.snd then argP f n else some (n, f n)
theorem argP_le {f : Nat → Nat} {m : Nat} (h : ∀ i, f i ≤ m) : ∀ n, (argP f n).elim 0 Prod.snd ≤ m
  | 0 => Nat.zero_le m
  | n + 1 => by
    show (if f n ≤ (argP f n).elim 0 Prod.snd then argP f n else some (n, f n)).elim 0 Prod.snd ≤ m
    split
    · exact argP_le h n
    · exact h n
theorem argP_t {f : Nat → Nat} {n : Nat} (h : f n ≤ (argP f n).elim 0 Prod.snd) : argP f (n + 1) = argP f n := if_pos h
theorem argP_f {f : Nat → Nat} {n : Nat} (h : ¬ f n ≤ (argP f n).elim 0 Prod.snd) : argP f (n + 1) = some (n, f n) := if_neg h
theorem argP_lt {f : Nat → Nat} : ∀ {n : Nat} {x : Nat × Nat}, argP f n = some x → x.1 < n
  | 0, _, h => absurd h (by simp [argP])
  | n + 1, x, h => by
    by_cases hk : f n ≤ (argP f n).elim 0 Prod.snd
    · rw [argP_t hk] at h
      have := argP_lt h
      omega
    · rw [argP_f hk] at h
      injection h with h
      subst h
      exact Nat.lt_succ_self n
def argS (c : Nat → Bool) : Nat → Option Nat
  | 0 => none
  | n + 1 => if c n then (argS c n).elim (some n) fun b => if pc b ≤ pc n then some b else some n else argS c n
theorem argS_lt {c : Nat → Bool} : ∀ {n b : Nat}, argS c n = some b → b < n
  | 0, _, h => absurd h (by simp [argS])
  | n + 1, b, h => by
    rcases hc : c n with _ | _
    · have h' : argS c n = some b := by simpa [argS, hc] using h
      have := argS_lt h'
      omega
    · rcases hg : argS c n with _ | y
      · have h' : n = b := by simpa [argS, hc, hg] using h
        omega
      · have := argS_lt hg
        by_cases hk : pc y ≤ pc n
        · have h' : y = b := by simpa [argS, hc, hg, hk] using h
          omega
        · have h' : n = b := by simpa [argS, hc, hg, hk] using h
          omega
def sI (o : Option Nat) : Int32 := o.elim (- nI 2) nI
def cnt (c : Nat → Bool) : Nat → Nat
  | 0 => 0
  | n + 1 => if c n then cnt c n + 1 else cnt c n
theorem cnt_le (c : Nat → Bool) : ∀ n, cnt c n ≤ n
  | 0 => Nat.le_refl 0
  | n + 1 => by
    have := cnt_le c n
    show (if c n then cnt c n + 1 else cnt c n) ≤ n + 1
    split <;> omega
theorem cnt_t {c : Nat → Bool} {n : Nat} (h : c n = true) : cnt c (n + 1) = cnt c n + 1 := by
  show (if c n then cnt c n + 1 else cnt c n) = _
  rw [if_pos h]
theorem cnt_f {c : Nat → Bool} {n : Nat} (h : c n = false) : cnt c (n + 1) = cnt c n := by
  show (if c n then cnt c n + 1 else cnt c n) = _
  rw [h]
  rfl
/-- .. and may end ahead, with writing -/
theorem jlp_e2 {S T : Type} {body : S → jd_Hp → Option ((S ⊕ T) × jd_Hp)} {σ : jd_Hp} (N : Nat) (st : Nat → S) (c : Nat → Bool) (r : Nat → T × jd_Hp) (t : T × jd_Hp) {s0 : S} {n : Nat} (hn : N < n) (h0 : s0 = st 0)
    (hs : ∀ i, i < N → body (st i) σ = if c i then some (.inr (r i).1, (r i).2) else some (.inl (st (i + 1)), σ)) (hx : body (st N) σ = some (.inr t.1, t.2)) :
    jd_lp body n s0 σ = some (((List.range N).find? c).elim t r) := by
  subst h0
  have key : ∀ (d i n : Nat), i + d = N → d < n → jd_lp body n (st i) σ = some (((List.range' i d).find? c).elim t r) := by
    intro d
    induction d with
    | zero =>
      intro i n hi hn
      have : i = N := by omega
      subst this
      obtain ⟨n', rfl⟩ : ∃ n', n = n' + 1 := ⟨n - 1, by omega⟩
      show jd_b (body (st i) σ) _ = _
      rw [hx]
      rfl
    | succ d ih =>
      intro i n hi hn
      obtain ⟨n', rfl⟩ : ∃ n', n = n' + 1 := ⟨n - 1, by omega⟩
      show jd_b (body (st i) σ) _ = _
      rw [hs i (by omega), List.range'_succ]
      by_cases hc : c i = true
      · rw [if_pos hc, List.find?_cons_of_pos hc]
        rfl
      · rw [if_neg hc, List.find?_cons_of_neg hc, ← ih (i + 1) n' (by omega) (by omega)]
        rfl
  rw [List.range_eq_range', key N 0 n (by omega) hn]
theorem jlp_1 {S T : Type} {body : S → jd_Hp → Option ((S ⊕ T) × jd_Hp)} {s : S} {σ σ' : jd_Hp} {t : T} {n : Nat} (hn : 0 < n) (h : body s σ = some (.inr t, σ')) : jd_lp body n s σ = some (t, σ') := by
  obtain ⟨n', rfl⟩ : ∃ n', n = n' + 1 := ⟨n - 1, by omega⟩
  show jd_b (body s σ) _ = _
  rw [h]
  rfl
theorem fin_sh : ∀ n, n < 7 → (nI 1 <<< (nI n &&& 31)) = nI (2 ^ n) := by decide +kernel
theorem sh_nI {n : Nat} (h : n < 7) : (nI 1 <<< (nI n &&& 31)) = nI (2 ^ n) := fin_sh n h
def nrC (B : Bch) (N : Nw) (p q : Nat) : Option Nat := if (N 6).testBit q then some (time B N q p) else none
def nrO (B : Bch) (N : Nw) (p : Nat) : Option (Nat × Nat) := argO (nrC B N p) (B 8 4)
def covC (B : Bch) (N : Nw) (s : Nat) : Bool := decide (sinkers B N &&& (63 ^^^ cov B N s) = 0)
def undF (B : Bch) (N : Nw) (m : Nat) : Nat := pc (bN (underC B N m) (B 8 3))
def begC (B : Bch) (N : Nw) (m p : Nat) : Bool := (sink B N p).elim false fun t => decide (t ≤ m)
def plcC (B : Bch) (N : Nw) (off at' p : Nat) : Bool := skC B N p && decide (dist at' (N p) + off ≤ B 8 0)
def moreF (B : Bch) (N : Nw) (q : Nat) : Nat := pc ((sinkers B N &&& reach B N q) &&& (63 ^^^ cov B N (N 6)))
def limN (B : Bch) (N : Nw) : Nat → Nat
  | 0 => 1
  | n + 1 => if skC B N n then max (limN B N n) ((nrO B N n).elim 0 Prod.snd) else limN B N n
section
variable {B : Bch} {N : Nw} {T : Nat} {σ : jd_Hp}
theorem x_sinks (h : CX B N T σ) (hb : bOk B) {p : Nat} (hp : p < 6) : m_X6_sinks 40 (nI p) σ = some (if (sinkers B N).testBit p then 1 else 0, σ) := by
  have e1 := sinkers_64 hb N
  obtain ⟨⟨hW, hT, hS, hC, hN⟩, hD⟩ := h
  obtain ⟨b1, b2, b3, b4, b5, b6, b7, b8, b9, b10, bp⟩ := hb
  unfold m_X6_sinks
  by_cases h1 : (sinkers B N).testBit p = true
  · simp (disch := omega) only [jb_some, jli, jif, jd_q, jd_K0, jpi_s, jpi_l, jpi_p, jpl_s, jpl_i, jpl_p, if_true, if_false, if_pos, if_neg, not_true_eq_false, not_false_eq_true, ite_true, ite_false, Nat.not_lt_zero, eq_self, Nat.le_refl, Nat.lt_irrefl, Bool.false_eq_true, or0, nI_add, nI_leI, nI_ltI, nI_eq, pk_mul, abs_nI, max_nI, min_nI, nI_m1, nI_m2, nI_le1, m1_lt, m2_lt, and_nI, or_nI, an_nI, has_nI, bit_nI, bc_nI, bits_nI, lx0, lx1, lx2, lx3, lx4, lx5, lx6, lx7, lx8, lx9, lx10, lx11, lx16, lx20, lx40, lx60, lx90, lx99, lx100, lx200, lx900, lx999, lx9999, jo_32 hW, jo_33 hW, jo_35 hW, jo_40 hW, jo_41 hW, jo_56 hW, jo_97 hW, jo_100 hW, jo_104 hW, jo_106 hW, jo_108 hW, ja_34 hW, ja_36 hW, ja_37 hW, ja_38 hW, ja_39 hW, ja_42 hW, ja_43 hW, ja_44 hW, ja_45 hW, ja_46 hW, ja_98 hW, ja_99 hW, ja_101 hW, ja_102 hW, ja_103 hW, wr_32_0 hW, wr_32_1 hW, wr_32_2 hW, wr_32_3 hW, wr_32_4 hW, wr_32_5 hW, wr_32_6 hW, wr_32_7 hW, wr_32_8 hW, wr_33_0 hW, wr_35_0 hW, wr_35_1 hW, wr_35_2 hW, wr_35_3 hW, wr_35_4 hW, wr_40_0 hW, wr_40_1 hW, wr_40_2 hW, wr_40_3 hW, wr_40_4 hW, wr_41_0 hW, wr_56_0 hW, wr_56_1 hW, wr_97_0 hW, wr_97_1 hW, wr_100_0 hW, wr_100_1 hW, wr_100_2 hW, wr_104_0 hW, wr_106_0 hW, joT hW hT, jaT1 hW hT, jaT2 hW hT, jaT3 hW hT, jaT4 hW hT, jaT5 hW hT, jaT6 hW hT, jaT7 hW hT, jaT8 hW hT, wrT0 hW hT, wrT1 hW hT, wrT2 hW hT, wrT3 hW hT, wrT4 hW hT, wrT5 hW hT, wrT6 hW hT, wrT7 hW hT, hS, ct_a0 hC, ct_a1 hC, ct_a2 hC, ct_a3 hC, ct_a4 hC, ct_a5 hC, ct_a6 hC, ct_a7 hC, ct_s0 hC, ct_s1 hC, ct_s2 hC, ct_s3 hC, ct_s4 hC, ct_s5 hC, ct_s6 hC, ct_s7 hC, cn_p hN, cn_m hN, cn_l hN, cn_t hN, cd_n hD, cd_s hD, cd_r hD, cd_b hD, cd_c hD, h1]
    rfl
  · rw [Bool.not_eq_true] at h1
    simp (disch := omega) only [jb_some, jli, jif, jd_q, jd_K0, jpi_s, jpi_l, jpi_p, jpl_s, jpl_i, jpl_p, if_true, if_false, if_pos, if_neg, not_true_eq_false, not_false_eq_true, ite_true, ite_false, Nat.not_lt_zero, eq_self, Nat.le_refl, Nat.lt_irrefl, Bool.false_eq_true, or0, nI_add, nI_leI, nI_ltI, nI_eq, pk_mul, abs_nI, max_nI, min_nI, nI_m1, nI_m2, nI_le1, m1_lt, m2_lt, and_nI, or_nI, an_nI, has_nI, bit_nI, bc_nI, bits_nI, lx0, lx1, lx2, lx3, lx4, lx5, lx6, lx7, lx8, lx9, lx10, lx11, lx16, lx20, lx40, lx60, lx90, lx99, lx100, lx200, lx900, lx999, lx9999, jo_32 hW, jo_33 hW, jo_35 hW, jo_40 hW, jo_41 hW, jo_56 hW, jo_97 hW, jo_100 hW, jo_104 hW, jo_106 hW, jo_108 hW, ja_34 hW, ja_36 hW, ja_37 hW, ja_38 hW, ja_39 hW, ja_42 hW, ja_43 hW, ja_44 hW, ja_45 hW, ja_46 hW, ja_98 hW, ja_99 hW, ja_101 hW, ja_102 hW, ja_103 hW, wr_32_0 hW, wr_32_1 hW, wr_32_2 hW, wr_32_3 hW, wr_32_4 hW, wr_32_5 hW, wr_32_6 hW, wr_32_7 hW, wr_32_8 hW, wr_33_0 hW, wr_35_0 hW, wr_35_1 hW, wr_35_2 hW, wr_35_3 hW, wr_35_4 hW, wr_40_0 hW, wr_40_1 hW, wr_40_2 hW, wr_40_3 hW, wr_40_4 hW, wr_41_0 hW, wr_56_0 hW, wr_56_1 hW, wr_97_0 hW, wr_97_1 hW, wr_100_0 hW, wr_100_1 hW, wr_100_2 hW, wr_104_0 hW, wr_106_0 hW, joT hW hT, jaT1 hW hT, jaT2 hW hT, jaT3 hW hT, jaT4 hW hT, jaT5 hW hT, jaT6 hW hT, jaT7 hW hT, jaT8 hW hT, wrT0 hW hT, wrT1 hW hT, wrT2 hW hT, wrT3 hW hT, wrT4 hW hT, wrT5 hW hT, wrT6 hW hT, wrT7 hW hT, hS, ct_a0 hC, ct_a1 hC, ct_a2 hC, ct_a3 hC, ct_a4 hC, ct_a5 hC, ct_a6 hC, ct_a7 hC, ct_s0 hC, ct_s1 hC, ct_s2 hC, ct_s3 hC, ct_s4 hC, ct_s5 hC, ct_s6 hC, ct_s7 hC, cn_p hN, cn_m hN, cn_l hN, cn_t hN, cd_n hD, cd_s hD, cd_r hD, cd_b hD, cd_c hD, h1]
    rfl
theorem x_sk0 (h : CX B N T σ) (hb : bOk B) {p : Nat} (hp : p < B 8 3) (hs : sink B N p = none) : m_X6_sinks 40 (nI p) σ = some (nI 0, σ) := by
  have b2 := hb.2.1
  have e : (sinkers B N).testBit p = false := by rw [sinkers_test hb hp]; simp [skC, hs]
  rw [x_sinks h hb (by omega), e]
  rfl
theorem x_sk1 (h : CX B N T σ) (hb : bOk B) {p t : Nat} (hp : p < B 8 3) (hs : sink B N p = some t) : m_X6_sinks 40 (nI p) σ = some (nI 1, σ) := by
  have b2 := hb.2.1
  have e : (sinkers B N).testBit p = true := by rw [sinkers_test hb hp]; simp [skC, hs]
  rw [x_sinks h hb (by omega), e]
  rfl
theorem cd_s1 (hD : CD B N σ) {p t : Nat} (hp : p < B 8 3) (hs : sink B N p = some t) : σ.2.1 44 p = nI t := by rw [cd_s hD hp, hs]; rfl
theorem x_isUnder (h : CX B N T σ) (hb : bOk B) {p m : Nat} (hp : p < B 8 3) (hm : m < 9999) : m_X6_isUnder 40 (nI p) (nI m) σ = some (if underC B N m p then nI 1 else nI 0, σ) := by
  rcases hs : sink B N p with _ | t
  · have e1 := x_sk0 h hb hp hs
    have e2 : underC B N m p = false := by simp [underC, hs]
    unfold m_X6_isUnder
    simp (disch := omega) only [jb_some, jli, jif, jd_q, jd_K0, jpi_s, jpi_l, jpi_p, jpl_s, jpl_i, jpl_p, if_true, if_false, if_pos, if_neg, not_true_eq_false, not_false_eq_true, ite_true, ite_false, Nat.not_lt_zero, eq_self, Nat.le_refl, Nat.lt_irrefl, Bool.false_eq_true, or0, nI_add, nI_leI, nI_ltI, nI_eq, pk_mul, abs_nI, max_nI, min_nI, nI_m1, nI_m2, nI_le1, m1_lt, m2_lt, and_nI, or_nI, an_nI, has_nI, bit_nI, bc_nI, bits_nI, lx0, lx1, lx2, lx3, lx4, lx5, lx6, lx7, lx8, lx9, lx10, lx11, lx16, lx20, lx40, lx60, lx90, lx99, lx100, lx200, lx900, lx999, lx9999, e1, e2]
  · have e1 := x_sk1 h hb hp hs
    have e3 := sink_le hb hs
    have e4 := cd_s1 h.2 hp hs
    obtain ⟨⟨hW, hT, hS, hC, hN⟩, hD⟩ := h
    obtain ⟨b1, b2, b3, b4, b5, b6, b7, b8, b9, b10, bp⟩ := hb
    unfold m_X6_isUnder
    by_cases h1 : m < t
    · have e2 : underC B N m p = false := by simp [underC, hs]; omega
      simp (disch := omega) only [jb_some, jli, jif, jd_q, jd_K0, jpi_s, jpi_l, jpi_p, jpl_s, jpl_i, jpl_p, if_true, if_false, if_pos, if_neg, not_true_eq_false, not_false_eq_true, ite_true, ite_false, Nat.not_lt_zero, eq_self, Nat.le_refl, Nat.lt_irrefl, Bool.false_eq_true, or0, nI_add, nI_leI, nI_ltI, nI_eq, pk_mul, abs_nI, max_nI, min_nI, nI_m1, nI_m2, nI_le1, m1_lt, m2_lt, and_nI, or_nI, an_nI, has_nI, bit_nI, bc_nI, bits_nI, lx0, lx1, lx2, lx3, lx4, lx5, lx6, lx7, lx8, lx9, lx10, lx11, lx16, lx20, lx40, lx60, lx90, lx99, lx100, lx200, lx900, lx999, lx9999, jo_32 hW, jo_33 hW, jo_35 hW, jo_40 hW, jo_41 hW, jo_56 hW, jo_97 hW, jo_100 hW, jo_104 hW, jo_106 hW, jo_108 hW, ja_34 hW, ja_36 hW, ja_37 hW, ja_38 hW, ja_39 hW, ja_42 hW, ja_43 hW, ja_44 hW, ja_45 hW, ja_46 hW, ja_98 hW, ja_99 hW, ja_101 hW, ja_102 hW, ja_103 hW, wr_32_0 hW, wr_32_1 hW, wr_32_2 hW, wr_32_3 hW, wr_32_4 hW, wr_32_5 hW, wr_32_6 hW, wr_32_7 hW, wr_32_8 hW, wr_33_0 hW, wr_35_0 hW, wr_35_1 hW, wr_35_2 hW, wr_35_3 hW, wr_35_4 hW, wr_40_0 hW, wr_40_1 hW, wr_40_2 hW, wr_40_3 hW, wr_40_4 hW, wr_41_0 hW, wr_56_0 hW, wr_56_1 hW, wr_97_0 hW, wr_97_1 hW, wr_100_0 hW, wr_100_1 hW, wr_100_2 hW, wr_104_0 hW, wr_106_0 hW, joT hW hT, jaT1 hW hT, jaT2 hW hT, jaT3 hW hT, jaT4 hW hT, jaT5 hW hT, jaT6 hW hT, jaT7 hW hT, jaT8 hW hT, wrT0 hW hT, wrT1 hW hT, wrT2 hW hT, wrT3 hW hT, wrT4 hW hT, wrT5 hW hT, wrT6 hW hT, wrT7 hW hT, hS, ct_a0 hC, ct_a1 hC, ct_a2 hC, ct_a3 hC, ct_a4 hC, ct_a5 hC, ct_a6 hC, ct_a7 hC, ct_s0 hC, ct_s1 hC, ct_s2 hC, ct_s3 hC, ct_s4 hC, ct_s5 hC, ct_s6 hC, ct_s7 hC, cn_p hN, cn_m hN, cn_l hN, cn_t hN, e1, e2, e4, h1]
    · by_cases h2 : t + B 8 0 ≤ m
      · have e2 : underC B N m p = false := by simp [underC, hs]; omega
        simp (disch := omega) only [jb_some, jli, jif, jd_q, jd_K0, jpi_s, jpi_l, jpi_p, jpl_s, jpl_i, jpl_p, if_true, if_false, if_pos, if_neg, not_true_eq_false, not_false_eq_true, ite_true, ite_false, Nat.not_lt_zero, eq_self, Nat.le_refl, Nat.lt_irrefl, Bool.false_eq_true, or0, nI_add, nI_leI, nI_ltI, nI_eq, pk_mul, abs_nI, max_nI, min_nI, nI_m1, nI_m2, nI_le1, m1_lt, m2_lt, and_nI, or_nI, an_nI, has_nI, bit_nI, bc_nI, bits_nI, lx0, lx1, lx2, lx3, lx4, lx5, lx6, lx7, lx8, lx9, lx10, lx11, lx16, lx20, lx40, lx60, lx90, lx99, lx100, lx200, lx900, lx999, lx9999, jo_32 hW, jo_33 hW, jo_35 hW, jo_40 hW, jo_41 hW, jo_56 hW, jo_97 hW, jo_100 hW, jo_104 hW, jo_106 hW, jo_108 hW, ja_34 hW, ja_36 hW, ja_37 hW, ja_38 hW, ja_39 hW, ja_42 hW, ja_43 hW, ja_44 hW, ja_45 hW, ja_46 hW, ja_98 hW, ja_99 hW, ja_101 hW, ja_102 hW, ja_103 hW, wr_32_0 hW, wr_32_1 hW, wr_32_2 hW, wr_32_3 hW, wr_32_4 hW, wr_32_5 hW, wr_32_6 hW, wr_32_7 hW, wr_32_8 hW, wr_33_0 hW, wr_35_0 hW, wr_35_1 hW, wr_35_2 hW, wr_35_3 hW, wr_35_4 hW, wr_40_0 hW, wr_40_1 hW, wr_40_2 hW, wr_40_3 hW, wr_40_4 hW, wr_41_0 hW, wr_56_0 hW, wr_56_1 hW, wr_97_0 hW, wr_97_1 hW, wr_100_0 hW, wr_100_1 hW, wr_100_2 hW, wr_104_0 hW, wr_106_0 hW, joT hW hT, jaT1 hW hT, jaT2 hW hT, jaT3 hW hT, jaT4 hW hT, jaT5 hW hT, jaT6 hW hT, jaT7 hW hT, jaT8 hW hT, wrT0 hW hT, wrT1 hW hT, wrT2 hW hT, wrT3 hW hT, wrT4 hW hT, wrT5 hW hT, wrT6 hW hT, wrT7 hW hT, hS, ct_a0 hC, ct_a1 hC, ct_a2 hC, ct_a3 hC, ct_a4 hC, ct_a5 hC, ct_a6 hC, ct_a7 hC, ct_s0 hC, ct_s1 hC, ct_s2 hC, ct_s3 hC, ct_s4 hC, ct_s5 hC, ct_s6 hC, ct_s7 hC, cn_p hN, cn_m hN, cn_l hN, cn_t hN, e1, e2, e4, h1, h2]
      · have e2 : underC B N m p = true := by simp [underC, hs]; omega
        simp (disch := omega) only [jb_some, jli, jif, jd_q, jd_K0, jpi_s, jpi_l, jpi_p, jpl_s, jpl_i, jpl_p, if_true, if_false, if_pos, if_neg, not_true_eq_false, not_false_eq_true, ite_true, ite_false, Nat.not_lt_zero, eq_self, Nat.le_refl, Nat.lt_irrefl, Bool.false_eq_true, or0, nI_add, nI_leI, nI_ltI, nI_eq, pk_mul, abs_nI, max_nI, min_nI, nI_m1, nI_m2, nI_le1, m1_lt, m2_lt, and_nI, or_nI, an_nI, has_nI, bit_nI, bc_nI, bits_nI, lx0, lx1, lx2, lx3, lx4, lx5, lx6, lx7, lx8, lx9, lx10, lx11, lx16, lx20, lx40, lx60, lx90, lx99, lx100, lx200, lx900, lx999, lx9999, jo_32 hW, jo_33 hW, jo_35 hW, jo_40 hW, jo_41 hW, jo_56 hW, jo_97 hW, jo_100 hW, jo_104 hW, jo_106 hW, jo_108 hW, ja_34 hW, ja_36 hW, ja_37 hW, ja_38 hW, ja_39 hW, ja_42 hW, ja_43 hW, ja_44 hW, ja_45 hW, ja_46 hW, ja_98 hW, ja_99 hW, ja_101 hW, ja_102 hW, ja_103 hW, wr_32_0 hW, wr_32_1 hW, wr_32_2 hW, wr_32_3 hW, wr_32_4 hW, wr_32_5 hW, wr_32_6 hW, wr_32_7 hW, wr_32_8 hW, wr_33_0 hW, wr_35_0 hW, wr_35_1 hW, wr_35_2 hW, wr_35_3 hW, wr_35_4 hW, wr_40_0 hW, wr_40_1 hW, wr_40_2 hW, wr_40_3 hW, wr_40_4 hW, wr_41_0 hW, wr_56_0 hW, wr_56_1 hW, wr_97_0 hW, wr_97_1 hW, wr_100_0 hW, wr_100_1 hW, wr_100_2 hW, wr_104_0 hW, wr_106_0 hW, joT hW hT, jaT1 hW hT, jaT2 hW hT, jaT3 hW hT, jaT4 hW hT, jaT5 hW hT, jaT6 hW hT, jaT7 hW hT, jaT8 hW hT, wrT0 hW hT, wrT1 hW hT, wrT2 hW hT, wrT3 hW hT, wrT4 hW hT, wrT5 hW hT, wrT6 hW hT, wrT7 hW hT, hS, ct_a0 hC, ct_a1 hC, ct_a2 hC, ct_a3 hC, ct_a4 hC, ct_a5 hC, ct_a6 hC, ct_a7 hC, ct_s0 hC, ct_s1 hC, ct_s2 hC, ct_s3 hC, ct_s4 hC, ct_s5 hC, ct_s6 hC, ct_s7 hC, cn_p hN, cn_m hN, cn_l hN, cn_t hN, e1, e2, e4, h1, h2]
theorem x_isLost (h : CX B N T σ) (hb : bOk B) {p m : Nat} (hp : p < B 8 3) (hm : m < 9999) : m_X6_isLost 40 (nI p) (nI m) σ = some (if lostC B N m p then nI 1 else nI 0, σ) := by
  rcases hs : sink B N p with _ | t
  · have e1 := x_sk0 h hb hp hs
    have e2 : lostC B N m p = false := by simp [lostC, hs]
    unfold m_X6_isLost
    simp (disch := omega) only [jb_some, jli, jif, jd_q, jd_K0, jpi_s, jpi_l, jpi_p, jpl_s, jpl_i, jpl_p, if_true, if_false, if_pos, if_neg, not_true_eq_false, not_false_eq_true, ite_true, ite_false, Nat.not_lt_zero, eq_self, Nat.le_refl, Nat.lt_irrefl, Bool.false_eq_true, or0, nI_add, nI_leI, nI_ltI, nI_eq, pk_mul, abs_nI, max_nI, min_nI, nI_m1, nI_m2, nI_le1, m1_lt, m2_lt, and_nI, or_nI, an_nI, has_nI, bit_nI, bc_nI, bits_nI, lx0, lx1, lx2, lx3, lx4, lx5, lx6, lx7, lx8, lx9, lx10, lx11, lx16, lx20, lx40, lx60, lx90, lx99, lx100, lx200, lx900, lx999, lx9999, e1, e2]
  · have e1 := x_sk1 h hb hp hs
    have e3 := sink_le hb hs
    have e4 := cd_s1 h.2 hp hs
    obtain ⟨⟨hW, hT, hS, hC, hN⟩, hD⟩ := h
    obtain ⟨b1, b2, b3, b4, b5, b6, b7, b8, b9, b10, bp⟩ := hb
    unfold m_X6_isLost
    by_cases h1 : m < t + B 8 0
    · have e2 : lostC B N m p = false := by simp [lostC, hs]; omega
      simp (disch := omega) only [jb_some, jli, jif, jd_q, jd_K0, jpi_s, jpi_l, jpi_p, jpl_s, jpl_i, jpl_p, if_true, if_false, if_pos, if_neg, not_true_eq_false, not_false_eq_true, ite_true, ite_false, Nat.not_lt_zero, eq_self, Nat.le_refl, Nat.lt_irrefl, Bool.false_eq_true, or0, nI_add, nI_leI, nI_ltI, nI_eq, pk_mul, abs_nI, max_nI, min_nI, nI_m1, nI_m2, nI_le1, m1_lt, m2_lt, and_nI, or_nI, an_nI, has_nI, bit_nI, bc_nI, bits_nI, lx0, lx1, lx2, lx3, lx4, lx5, lx6, lx7, lx8, lx9, lx10, lx11, lx16, lx20, lx40, lx60, lx90, lx99, lx100, lx200, lx900, lx999, lx9999, jo_32 hW, jo_33 hW, jo_35 hW, jo_40 hW, jo_41 hW, jo_56 hW, jo_97 hW, jo_100 hW, jo_104 hW, jo_106 hW, jo_108 hW, ja_34 hW, ja_36 hW, ja_37 hW, ja_38 hW, ja_39 hW, ja_42 hW, ja_43 hW, ja_44 hW, ja_45 hW, ja_46 hW, ja_98 hW, ja_99 hW, ja_101 hW, ja_102 hW, ja_103 hW, wr_32_0 hW, wr_32_1 hW, wr_32_2 hW, wr_32_3 hW, wr_32_4 hW, wr_32_5 hW, wr_32_6 hW, wr_32_7 hW, wr_32_8 hW, wr_33_0 hW, wr_35_0 hW, wr_35_1 hW, wr_35_2 hW, wr_35_3 hW, wr_35_4 hW, wr_40_0 hW, wr_40_1 hW, wr_40_2 hW, wr_40_3 hW, wr_40_4 hW, wr_41_0 hW, wr_56_0 hW, wr_56_1 hW, wr_97_0 hW, wr_97_1 hW, wr_100_0 hW, wr_100_1 hW, wr_100_2 hW, wr_104_0 hW, wr_106_0 hW, joT hW hT, jaT1 hW hT, jaT2 hW hT, jaT3 hW hT, jaT4 hW hT, jaT5 hW hT, jaT6 hW hT, jaT7 hW hT, jaT8 hW hT, wrT0 hW hT, wrT1 hW hT, wrT2 hW hT, wrT3 hW hT, wrT4 hW hT, wrT5 hW hT, wrT6 hW hT, wrT7 hW hT, hS, ct_a0 hC, ct_a1 hC, ct_a2 hC, ct_a3 hC, ct_a4 hC, ct_a5 hC, ct_a6 hC, ct_a7 hC, ct_s0 hC, ct_s1 hC, ct_s2 hC, ct_s3 hC, ct_s4 hC, ct_s5 hC, ct_s6 hC, ct_s7 hC, cn_p hN, cn_m hN, cn_l hN, cn_t hN, e1, e2, e4, h1]
    · have e2 : lostC B N m p = true := by simp [lostC, hs]; omega
      simp (disch := omega) only [jb_some, jli, jif, jd_q, jd_K0, jpi_s, jpi_l, jpi_p, jpl_s, jpl_i, jpl_p, if_true, if_false, if_pos, if_neg, not_true_eq_false, not_false_eq_true, ite_true, ite_false, Nat.not_lt_zero, eq_self, Nat.le_refl, Nat.lt_irrefl, Bool.false_eq_true, or0, nI_add, nI_leI, nI_ltI, nI_eq, pk_mul, abs_nI, max_nI, min_nI, nI_m1, nI_m2, nI_le1, m1_lt, m2_lt, and_nI, or_nI, an_nI, has_nI, bit_nI, bc_nI, bits_nI, lx0, lx1, lx2, lx3, lx4, lx5, lx6, lx7, lx8, lx9, lx10, lx11, lx16, lx20, lx40, lx60, lx90, lx99, lx100, lx200, lx900, lx999, lx9999, jo_32 hW, jo_33 hW, jo_35 hW, jo_40 hW, jo_41 hW, jo_56 hW, jo_97 hW, jo_100 hW, jo_104 hW, jo_106 hW, jo_108 hW, ja_34 hW, ja_36 hW, ja_37 hW, ja_38 hW, ja_39 hW, ja_42 hW, ja_43 hW, ja_44 hW, ja_45 hW, ja_46 hW, ja_98 hW, ja_99 hW, ja_101 hW, ja_102 hW, ja_103 hW, wr_32_0 hW, wr_32_1 hW, wr_32_2 hW, wr_32_3 hW, wr_32_4 hW, wr_32_5 hW, wr_32_6 hW, wr_32_7 hW, wr_32_8 hW, wr_33_0 hW, wr_35_0 hW, wr_35_1 hW, wr_35_2 hW, wr_35_3 hW, wr_35_4 hW, wr_40_0 hW, wr_40_1 hW, wr_40_2 hW, wr_40_3 hW, wr_40_4 hW, wr_41_0 hW, wr_56_0 hW, wr_56_1 hW, wr_97_0 hW, wr_97_1 hW, wr_100_0 hW, wr_100_1 hW, wr_100_2 hW, wr_104_0 hW, wr_106_0 hW, joT hW hT, jaT1 hW hT, jaT2 hW hT, jaT3 hW hT, jaT4 hW hT, jaT5 hW hT, jaT6 hW hT, jaT7 hW hT, jaT8 hW hT, wrT0 hW hT, wrT1 hW hT, wrT2 hW hT, wrT3 hW hT, wrT4 hW hT, wrT5 hW hT, wrT6 hW hT, wrT7 hW hT, hS, ct_a0 hC, ct_a1 hC, ct_a2 hC, ct_a3 hC, ct_a4 hC, ct_a5 hC, ct_a6 hC, ct_a7 hC, ct_s0 hC, ct_s1 hC, ct_s2 hC, ct_s3 hC, ct_s4 hC, ct_s5 hC, ct_s6 hC, ct_s7 hC, cn_p hN, cn_m hN, cn_l hN, cn_t hN, e1, e2, e4, h1]
set_option maxHeartbeats 1000000 in
theorem x_underBits (h : CX B N T σ) (hb : bOk B) {m : Nat} (hm : m < 9999) : m_X6_underBits 40 (nI m) σ = some (nI (bN (underC B N m) (B 8 3)), σ) := by
  have hh := h
  have hbb := hb
  obtain ⟨⟨hW, hT, hS, hC, hN⟩, hD⟩ := h
  obtain ⟨b1, b2, b3, b4, b5, b6, b7, b8, b9, b10, bp⟩ := hb
  unfold m_X6_underBits
  rw [jlp_p (B 8 3) (fun i => ((nI (bN (underC B N m) i), nI i) : Int32 × Int32)) (nI (bN (underC B N m) (B 8 3))) (jfu (by omega)) ?_ ?_ ?_]
  · rfl
  · rfl
  · intro i hi
    have e2 := x_isUnder hh hbb hi hm
    by_cases h1 : underC B N m i = true
    · rw [bN_t h1]
      rw [if_pos h1] at e2
      simp (disch := omega) only [jb_some, jli, jif, jd_q, jd_K0, jpi_s, jpi_l, jpi_p, jpl_s, jpl_i, jpl_p, if_true, if_false, if_pos, if_neg, not_true_eq_false, not_false_eq_true, ite_true, ite_false, Nat.not_lt_zero, eq_self, Nat.le_refl, Nat.lt_irrefl, Bool.false_eq_true, or0, nI_add, nI_leI, nI_ltI, nI_eq, pk_mul, abs_nI, max_nI, min_nI, nI_m1, nI_m2, nI_le1, m1_lt, m2_lt, and_nI, or_nI, an_nI, has_nI, bit_nI, bc_nI, bits_nI, lx0, lx1, lx2, lx3, lx4, lx5, lx6, lx7, lx8, lx9, lx10, lx11, lx16, lx20, lx40, lx60, lx90, lx99, lx100, lx200, lx900, lx999, lx9999, jo_32 hW, jo_33 hW, jo_35 hW, jo_40 hW, jo_41 hW, jo_56 hW, jo_97 hW, jo_100 hW, jo_104 hW, jo_106 hW, jo_108 hW, ja_34 hW, ja_36 hW, ja_37 hW, ja_38 hW, ja_39 hW, ja_42 hW, ja_43 hW, ja_44 hW, ja_45 hW, ja_46 hW, ja_98 hW, ja_99 hW, ja_101 hW, ja_102 hW, ja_103 hW, wr_32_0 hW, wr_32_1 hW, wr_32_2 hW, wr_32_3 hW, wr_32_4 hW, wr_32_5 hW, wr_32_6 hW, wr_32_7 hW, wr_32_8 hW, wr_33_0 hW, wr_35_0 hW, wr_35_1 hW, wr_35_2 hW, wr_35_3 hW, wr_35_4 hW, wr_40_0 hW, wr_40_1 hW, wr_40_2 hW, wr_40_3 hW, wr_40_4 hW, wr_41_0 hW, wr_56_0 hW, wr_56_1 hW, wr_97_0 hW, wr_97_1 hW, wr_100_0 hW, wr_100_1 hW, wr_100_2 hW, wr_104_0 hW, wr_106_0 hW, joT hW hT, jaT1 hW hT, jaT2 hW hT, jaT3 hW hT, jaT4 hW hT, jaT5 hW hT, jaT6 hW hT, jaT7 hW hT, jaT8 hW hT, wrT0 hW hT, wrT1 hW hT, wrT2 hW hT, wrT3 hW hT, wrT4 hW hT, wrT5 hW hT, wrT6 hW hT, wrT7 hW hT, hS, ct_a0 hC, ct_a1 hC, ct_a2 hC, ct_a3 hC, ct_a4 hC, ct_a5 hC, ct_a6 hC, ct_a7 hC, ct_s0 hC, ct_s1 hC, ct_s2 hC, ct_s3 hC, ct_s4 hC, ct_s5 hC, ct_s6 hC, ct_s7 hC, cn_p hN, cn_m hN, cn_l hN, cn_t hN, e2, bN_or]
    · rw [if_neg h1] at e2
      rw [Bool.not_eq_true] at h1
      rw [bN_f h1]
      simp (disch := omega) only [jb_some, jli, jif, jd_q, jd_K0, jpi_s, jpi_l, jpi_p, jpl_s, jpl_i, jpl_p, if_true, if_false, if_pos, if_neg, not_true_eq_false, not_false_eq_true, ite_true, ite_false, Nat.not_lt_zero, eq_self, Nat.le_refl, Nat.lt_irrefl, Bool.false_eq_true, or0, nI_add, nI_leI, nI_ltI, nI_eq, pk_mul, abs_nI, max_nI, min_nI, nI_m1, nI_m2, nI_le1, m1_lt, m2_lt, and_nI, or_nI, an_nI, has_nI, bit_nI, bc_nI, bits_nI, lx0, lx1, lx2, lx3, lx4, lx5, lx6, lx7, lx8, lx9, lx10, lx11, lx16, lx20, lx40, lx60, lx90, lx99, lx100, lx200, lx900, lx999, lx9999, jo_32 hW, jo_33 hW, jo_35 hW, jo_40 hW, jo_41 hW, jo_56 hW, jo_97 hW, jo_100 hW, jo_104 hW, jo_106 hW, jo_108 hW, ja_34 hW, ja_36 hW, ja_37 hW, ja_38 hW, ja_39 hW, ja_42 hW, ja_43 hW, ja_44 hW, ja_45 hW, ja_46 hW, ja_98 hW, ja_99 hW, ja_101 hW, ja_102 hW, ja_103 hW, wr_32_0 hW, wr_32_1 hW, wr_32_2 hW, wr_32_3 hW, wr_32_4 hW, wr_32_5 hW, wr_32_6 hW, wr_32_7 hW, wr_32_8 hW, wr_33_0 hW, wr_35_0 hW, wr_35_1 hW, wr_35_2 hW, wr_35_3 hW, wr_35_4 hW, wr_40_0 hW, wr_40_1 hW, wr_40_2 hW, wr_40_3 hW, wr_40_4 hW, wr_41_0 hW, wr_56_0 hW, wr_56_1 hW, wr_97_0 hW, wr_97_1 hW, wr_100_0 hW, wr_100_1 hW, wr_100_2 hW, wr_104_0 hW, wr_106_0 hW, joT hW hT, jaT1 hW hT, jaT2 hW hT, jaT3 hW hT, jaT4 hW hT, jaT5 hW hT, jaT6 hW hT, jaT7 hW hT, jaT8 hW hT, wrT0 hW hT, wrT1 hW hT, wrT2 hW hT, wrT3 hW hT, wrT4 hW hT, wrT5 hW hT, wrT6 hW hT, wrT7 hW hT, hS, ct_a0 hC, ct_a1 hC, ct_a2 hC, ct_a3 hC, ct_a4 hC, ct_a5 hC, ct_a6 hC, ct_a7 hC, ct_s0 hC, ct_s1 hC, ct_s2 hC, ct_s3 hC, ct_s4 hC, ct_s5 hC, ct_s6 hC, ct_s7 hC, cn_p hN, cn_m hN, cn_l hN, cn_t hN, e2]
  · simp (disch := omega) only [jb_some, jli, jif, jd_q, jd_K0, jpi_s, jpi_l, jpi_p, jpl_s, jpl_i, jpl_p, if_true, if_false, if_pos, if_neg, not_true_eq_false, not_false_eq_true, ite_true, ite_false, Nat.not_lt_zero, eq_self, Nat.le_refl, Nat.lt_irrefl, Bool.false_eq_true, or0, nI_add, nI_leI, nI_ltI, nI_eq, pk_mul, abs_nI, max_nI, min_nI, nI_m1, nI_m2, nI_le1, m1_lt, m2_lt, and_nI, or_nI, an_nI, has_nI, bit_nI, bc_nI, bits_nI, lx0, lx1, lx2, lx3, lx4, lx5, lx6, lx7, lx8, lx9, lx10, lx11, lx16, lx20, lx40, lx60, lx90, lx99, lx100, lx200, lx900, lx999, lx9999, jo_32 hW, jo_33 hW, jo_35 hW, jo_40 hW, jo_41 hW, jo_56 hW, jo_97 hW, jo_100 hW, jo_104 hW, jo_106 hW, jo_108 hW, ja_34 hW, ja_36 hW, ja_37 hW, ja_38 hW, ja_39 hW, ja_42 hW, ja_43 hW, ja_44 hW, ja_45 hW, ja_46 hW, ja_98 hW, ja_99 hW, ja_101 hW, ja_102 hW, ja_103 hW, wr_32_0 hW, wr_32_1 hW, wr_32_2 hW, wr_32_3 hW, wr_32_4 hW, wr_32_5 hW, wr_32_6 hW, wr_32_7 hW, wr_32_8 hW, wr_33_0 hW, wr_35_0 hW, wr_35_1 hW, wr_35_2 hW, wr_35_3 hW, wr_35_4 hW, wr_40_0 hW, wr_40_1 hW, wr_40_2 hW, wr_40_3 hW, wr_40_4 hW, wr_41_0 hW, wr_56_0 hW, wr_56_1 hW, wr_97_0 hW, wr_97_1 hW, wr_100_0 hW, wr_100_1 hW, wr_100_2 hW, wr_104_0 hW, wr_106_0 hW, joT hW hT, jaT1 hW hT, jaT2 hW hT, jaT3 hW hT, jaT4 hW hT, jaT5 hW hT, jaT6 hW hT, jaT7 hW hT, jaT8 hW hT, wrT0 hW hT, wrT1 hW hT, wrT2 hW hT, wrT3 hW hT, wrT4 hW hT, wrT5 hW hT, wrT6 hW hT, wrT7 hW hT, hS, ct_a0 hC, ct_a1 hC, ct_a2 hC, ct_a3 hC, ct_a4 hC, ct_a5 hC, ct_a6 hC, ct_a7 hC, ct_s0 hC, ct_s1 hC, ct_s2 hC, ct_s3 hC, ct_s4 hC, ct_s5 hC, ct_s6 hC, ct_s7 hC, cn_p hN, cn_m hN, cn_l hN, cn_t hN]
set_option maxHeartbeats 1000000 in
theorem x_lostBits (h : CX B N T σ) (hb : bOk B) {m : Nat} (hm : m < 9999) : m_X6_lostBits 40 (nI m) σ = some (nI (bN (lostC B N m) (B 8 3)), σ) := by
  have hh := h
  have hbb := hb
  obtain ⟨⟨hW, hT, hS, hC, hN⟩, hD⟩ := h
  obtain ⟨b1, b2, b3, b4, b5, b6, b7, b8, b9, b10, bp⟩ := hb
  unfold m_X6_lostBits
  rw [jlp_p (B 8 3) (fun i => ((nI (bN (lostC B N m) i), nI i) : Int32 × Int32)) (nI (bN (lostC B N m) (B 8 3))) (jfu (by omega)) ?_ ?_ ?_]
  · rfl
  · rfl
  · intro i hi
    have e2 := x_isLost hh hbb hi hm
    by_cases h1 : lostC B N m i = true
    · rw [bN_t h1]
      rw [if_pos h1] at e2
      simp (disch := omega) only [jb_some, jli, jif, jd_q, jd_K0, jpi_s, jpi_l, jpi_p, jpl_s, jpl_i, jpl_p, if_true, if_false, if_pos, if_neg, not_true_eq_false, not_false_eq_true, ite_true, ite_false, Nat.not_lt_zero, eq_self, Nat.le_refl, Nat.lt_irrefl, Bool.false_eq_true, or0, nI_add, nI_leI, nI_ltI, nI_eq, pk_mul, abs_nI, max_nI, min_nI, nI_m1, nI_m2, nI_le1, m1_lt, m2_lt, and_nI, or_nI, an_nI, has_nI, bit_nI, bc_nI, bits_nI, lx0, lx1, lx2, lx3, lx4, lx5, lx6, lx7, lx8, lx9, lx10, lx11, lx16, lx20, lx40, lx60, lx90, lx99, lx100, lx200, lx900, lx999, lx9999, jo_32 hW, jo_33 hW, jo_35 hW, jo_40 hW, jo_41 hW, jo_56 hW, jo_97 hW, jo_100 hW, jo_104 hW, jo_106 hW, jo_108 hW, ja_34 hW, ja_36 hW, ja_37 hW, ja_38 hW, ja_39 hW, ja_42 hW, ja_43 hW, ja_44 hW, ja_45 hW, ja_46 hW, ja_98 hW, ja_99 hW, ja_101 hW, ja_102 hW, ja_103 hW, wr_32_0 hW, wr_32_1 hW, wr_32_2 hW, wr_32_3 hW, wr_32_4 hW, wr_32_5 hW, wr_32_6 hW, wr_32_7 hW, wr_32_8 hW, wr_33_0 hW, wr_35_0 hW, wr_35_1 hW, wr_35_2 hW, wr_35_3 hW, wr_35_4 hW, wr_40_0 hW, wr_40_1 hW, wr_40_2 hW, wr_40_3 hW, wr_40_4 hW, wr_41_0 hW, wr_56_0 hW, wr_56_1 hW, wr_97_0 hW, wr_97_1 hW, wr_100_0 hW, wr_100_1 hW, wr_100_2 hW, wr_104_0 hW, wr_106_0 hW, joT hW hT, jaT1 hW hT, jaT2 hW hT, jaT3 hW hT, jaT4 hW hT, jaT5 hW hT, jaT6 hW hT, jaT7 hW hT, jaT8 hW hT, wrT0 hW hT, wrT1 hW hT, wrT2 hW hT, wrT3 hW hT, wrT4 hW hT, wrT5 hW hT, wrT6 hW hT, wrT7 hW hT, hS, ct_a0 hC, ct_a1 hC, ct_a2 hC, ct_a3 hC, ct_a4 hC, ct_a5 hC, ct_a6 hC, ct_a7 hC, ct_s0 hC, ct_s1 hC, ct_s2 hC, ct_s3 hC, ct_s4 hC, ct_s5 hC, ct_s6 hC, ct_s7 hC, cn_p hN, cn_m hN, cn_l hN, cn_t hN, e2, bN_or]
    · rw [if_neg h1] at e2
      rw [Bool.not_eq_true] at h1
      rw [bN_f h1]
      simp (disch := omega) only [jb_some, jli, jif, jd_q, jd_K0, jpi_s, jpi_l, jpi_p, jpl_s, jpl_i, jpl_p, if_true, if_false, if_pos, if_neg, not_true_eq_false, not_false_eq_true, ite_true, ite_false, Nat.not_lt_zero, eq_self, Nat.le_refl, Nat.lt_irrefl, Bool.false_eq_true, or0, nI_add, nI_leI, nI_ltI, nI_eq, pk_mul, abs_nI, max_nI, min_nI, nI_m1, nI_m2, nI_le1, m1_lt, m2_lt, and_nI, or_nI, an_nI, has_nI, bit_nI, bc_nI, bits_nI, lx0, lx1, lx2, lx3, lx4, lx5, lx6, lx7, lx8, lx9, lx10, lx11, lx16, lx20, lx40, lx60, lx90, lx99, lx100, lx200, lx900, lx999, lx9999, jo_32 hW, jo_33 hW, jo_35 hW, jo_40 hW, jo_41 hW, jo_56 hW, jo_97 hW, jo_100 hW, jo_104 hW, jo_106 hW, jo_108 hW, ja_34 hW, ja_36 hW, ja_37 hW, ja_38 hW, ja_39 hW, ja_42 hW, ja_43 hW, ja_44 hW, ja_45 hW, ja_46 hW, ja_98 hW, ja_99 hW, ja_101 hW, ja_102 hW, ja_103 hW, wr_32_0 hW, wr_32_1 hW, wr_32_2 hW, wr_32_3 hW, wr_32_4 hW, wr_32_5 hW, wr_32_6 hW, wr_32_7 hW, wr_32_8 hW, wr_33_0 hW, wr_35_0 hW, wr_35_1 hW, wr_35_2 hW, wr_35_3 hW, wr_35_4 hW, wr_40_0 hW, wr_40_1 hW, wr_40_2 hW, wr_40_3 hW, wr_40_4 hW, wr_41_0 hW, wr_56_0 hW, wr_56_1 hW, wr_97_0 hW, wr_97_1 hW, wr_100_0 hW, wr_100_1 hW, wr_100_2 hW, wr_104_0 hW, wr_106_0 hW, joT hW hT, jaT1 hW hT, jaT2 hW hT, jaT3 hW hT, jaT4 hW hT, jaT5 hW hT, jaT6 hW hT, jaT7 hW hT, jaT8 hW hT, wrT0 hW hT, wrT1 hW hT, wrT2 hW hT, wrT3 hW hT, wrT4 hW hT, wrT5 hW hT, wrT6 hW hT, wrT7 hW hT, hS, ct_a0 hC, ct_a1 hC, ct_a2 hC, ct_a3 hC, ct_a4 hC, ct_a5 hC, ct_a6 hC, ct_a7 hC, ct_s0 hC, ct_s1 hC, ct_s2 hC, ct_s3 hC, ct_s4 hC, ct_s5 hC, ct_s6 hC, ct_s7 hC, cn_p hN, cn_m hN, cn_l hN, cn_t hN, e2]
  · simp (disch := omega) only [jb_some, jli, jif, jd_q, jd_K0, jpi_s, jpi_l, jpi_p, jpl_s, jpl_i, jpl_p, if_true, if_false, if_pos, if_neg, not_true_eq_false, not_false_eq_true, ite_true, ite_false, Nat.not_lt_zero, eq_self, Nat.le_refl, Nat.lt_irrefl, Bool.false_eq_true, or0, nI_add, nI_leI, nI_ltI, nI_eq, pk_mul, abs_nI, max_nI, min_nI, nI_m1, nI_m2, nI_le1, m1_lt, m2_lt, and_nI, or_nI, an_nI, has_nI, bit_nI, bc_nI, bits_nI, lx0, lx1, lx2, lx3, lx4, lx5, lx6, lx7, lx8, lx9, lx10, lx11, lx16, lx20, lx40, lx60, lx90, lx99, lx100, lx200, lx900, lx999, lx9999, jo_32 hW, jo_33 hW, jo_35 hW, jo_40 hW, jo_41 hW, jo_56 hW, jo_97 hW, jo_100 hW, jo_104 hW, jo_106 hW, jo_108 hW, ja_34 hW, ja_36 hW, ja_37 hW, ja_38 hW, ja_39 hW, ja_42 hW, ja_43 hW, ja_44 hW, ja_45 hW, ja_46 hW, ja_98 hW, ja_99 hW, ja_101 hW, ja_102 hW, ja_103 hW, wr_32_0 hW, wr_32_1 hW, wr_32_2 hW, wr_32_3 hW, wr_32_4 hW, wr_32_5 hW, wr_32_6 hW, wr_32_7 hW, wr_32_8 hW, wr_33_0 hW, wr_35_0 hW, wr_35_1 hW, wr_35_2 hW, wr_35_3 hW, wr_35_4 hW, wr_40_0 hW, wr_40_1 hW, wr_40_2 hW, wr_40_3 hW, wr_40_4 hW, wr_41_0 hW, wr_56_0 hW, wr_56_1 hW, wr_97_0 hW, wr_97_1 hW, wr_100_0 hW, wr_100_1 hW, wr_100_2 hW, wr_104_0 hW, wr_106_0 hW, joT hW hT, jaT1 hW hT, jaT2 hW hT, jaT3 hW hT, jaT4 hW hT, jaT5 hW hT, jaT6 hW hT, jaT7 hW hT, jaT8 hW hT, wrT0 hW hT, wrT1 hW hT, wrT2 hW hT, wrT3 hW hT, wrT4 hW hT, wrT5 hW hT, wrT6 hW hT, wrT7 hW hT, hS, ct_a0 hC, ct_a1 hC, ct_a2 hC, ct_a3 hC, ct_a4 hC, ct_a5 hC, ct_a6 hC, ct_a7 hC, ct_s0 hC, ct_s1 hC, ct_s2 hC, ct_s3 hC, ct_s4 hC, ct_s5 hC, ct_s6 hC, ct_s7 hC, cn_p hN, cn_m hN, cn_l hN, cn_t hN]
theorem x_everybody (h : CX B N T σ) (hb : bOk B) : m_X6_everybody 40 σ = some (nI (2 ^ B 8 3 - 1), σ) := by
  obtain ⟨⟨hW, hT, hS, hC, hN⟩, hD⟩ := h
  obtain ⟨b1, b2, b3, b4, b5, b6, b7, b8, b9, b10, bp⟩ := hb
  have := Nat.one_le_two_pow (n := B 8 3)
  unfold m_X6_everybody
  simp (disch := omega) only [jb_some, jli, jif, jd_q, jd_K0, jpi_s, jpi_l, jpi_p, jpl_s, jpl_i, jpl_p, if_true, if_false, if_pos, if_neg, not_true_eq_false, not_false_eq_true, ite_true, ite_false, Nat.not_lt_zero, eq_self, Nat.le_refl, Nat.lt_irrefl, Bool.false_eq_true, or0, nI_add, nI_leI, nI_ltI, nI_eq, pk_mul, abs_nI, max_nI, min_nI, nI_m1, nI_m2, nI_le1, m1_lt, m2_lt, and_nI, or_nI, an_nI, has_nI, bit_nI, bc_nI, bits_nI, lx0, lx1, lx2, lx3, lx4, lx5, lx6, lx7, lx8, lx9, lx10, lx11, lx16, lx20, lx40, lx60, lx90, lx99, lx100, lx200, lx900, lx999, lx9999, jo_32 hW, jo_33 hW, jo_35 hW, jo_40 hW, jo_41 hW, jo_56 hW, jo_97 hW, jo_100 hW, jo_104 hW, jo_106 hW, jo_108 hW, ja_34 hW, ja_36 hW, ja_37 hW, ja_38 hW, ja_39 hW, ja_42 hW, ja_43 hW, ja_44 hW, ja_45 hW, ja_46 hW, ja_98 hW, ja_99 hW, ja_101 hW, ja_102 hW, ja_103 hW, wr_32_0 hW, wr_32_1 hW, wr_32_2 hW, wr_32_3 hW, wr_32_4 hW, wr_32_5 hW, wr_32_6 hW, wr_32_7 hW, wr_32_8 hW, wr_33_0 hW, wr_35_0 hW, wr_35_1 hW, wr_35_2 hW, wr_35_3 hW, wr_35_4 hW, wr_40_0 hW, wr_40_1 hW, wr_40_2 hW, wr_40_3 hW, wr_40_4 hW, wr_41_0 hW, wr_56_0 hW, wr_56_1 hW, wr_97_0 hW, wr_97_1 hW, wr_100_0 hW, wr_100_1 hW, wr_100_2 hW, wr_104_0 hW, wr_106_0 hW, joT hW hT, jaT1 hW hT, jaT2 hW hT, jaT3 hW hT, jaT4 hW hT, jaT5 hW hT, jaT6 hW hT, jaT7 hW hT, jaT8 hW hT, wrT0 hW hT, wrT1 hW hT, wrT2 hW hT, wrT3 hW hT, wrT4 hW hT, wrT5 hW hT, wrT6 hW hT, wrT7 hW hT, hS, ct_a0 hC, ct_a1 hC, ct_a2 hC, ct_a3 hC, ct_a4 hC, ct_a5 hC, ct_a6 hC, ct_a7 hC, ct_s0 hC, ct_s1 hC, ct_s2 hC, ct_s3 hC, ct_s4 hC, ct_s5 hC, ct_s6 hC, ct_s7 hC, cn_p hN, cn_m hN, cn_l hN, cn_t hN, sh_nI, nI_sub]
set_option maxHeartbeats 1000000 in
theorem x_firstSinker (h : CX B N T σ) (hb : bOk B) : m_X6_firstSinker 40 σ = some (oI (argO (sink B N) (B 8 3)), σ) := by
  have hh := h
  have hbb := hb
  obtain ⟨⟨hW, hT, hS, hC, hN⟩, hD⟩ := h
  obtain ⟨b1, b2, b3, b4, b5, b6, b7, b8, b9, b10, bp⟩ := hb
  unfold m_X6_firstSinker
  rw [jlp_p (B 8 3) (fun i => ((oI (argO (sink B N) i), oL (argO (sink B N) i), nI i) : Int32 × Int32 × Int32)) (oI (argO (sink B N) (B 8 3))) (jfu (by omega)) ?_ ?_ ?_]
  · rfl
  · rfl
  · intro i hi
    rcases hs : sink B N i with _ | t
    · have e1 := x_sk0 hh hbb hi hs
      rw [argO_0 hs]
      simp (disch := omega) only [jb_some, jli, jif, jd_q, jd_K0, jpi_s, jpi_l, jpi_p, jpl_s, jpl_i, jpl_p, if_true, if_false, if_pos, if_neg, not_true_eq_false, not_false_eq_true, ite_true, ite_false, Nat.not_lt_zero, eq_self, Nat.le_refl, Nat.lt_irrefl, Bool.false_eq_true, or0, nI_add, nI_leI, nI_ltI, nI_eq, pk_mul, abs_nI, max_nI, min_nI, nI_m1, nI_m2, nI_le1, m1_lt, m2_lt, and_nI, or_nI, an_nI, has_nI, bit_nI, bc_nI, bits_nI, lx0, lx1, lx2, lx3, lx4, lx5, lx6, lx7, lx8, lx9, lx10, lx11, lx16, lx20, lx40, lx60, lx90, lx99, lx100, lx200, lx900, lx999, lx9999, jo_32 hW, jo_33 hW, jo_35 hW, jo_40 hW, jo_41 hW, jo_56 hW, jo_97 hW, jo_100 hW, jo_104 hW, jo_106 hW, jo_108 hW, ja_34 hW, ja_36 hW, ja_37 hW, ja_38 hW, ja_39 hW, ja_42 hW, ja_43 hW, ja_44 hW, ja_45 hW, ja_46 hW, ja_98 hW, ja_99 hW, ja_101 hW, ja_102 hW, ja_103 hW, wr_32_0 hW, wr_32_1 hW, wr_32_2 hW, wr_32_3 hW, wr_32_4 hW, wr_32_5 hW, wr_32_6 hW, wr_32_7 hW, wr_32_8 hW, wr_33_0 hW, wr_35_0 hW, wr_35_1 hW, wr_35_2 hW, wr_35_3 hW, wr_35_4 hW, wr_40_0 hW, wr_40_1 hW, wr_40_2 hW, wr_40_3 hW, wr_40_4 hW, wr_41_0 hW, wr_56_0 hW, wr_56_1 hW, wr_97_0 hW, wr_97_1 hW, wr_100_0 hW, wr_100_1 hW, wr_100_2 hW, wr_104_0 hW, wr_106_0 hW, joT hW hT, jaT1 hW hT, jaT2 hW hT, jaT3 hW hT, jaT4 hW hT, jaT5 hW hT, jaT6 hW hT, jaT7 hW hT, jaT8 hW hT, wrT0 hW hT, wrT1 hW hT, wrT2 hW hT, wrT3 hW hT, wrT4 hW hT, wrT5 hW hT, wrT6 hW hT, wrT7 hW hT, hS, ct_a0 hC, ct_a1 hC, ct_a2 hC, ct_a3 hC, ct_a4 hC, ct_a5 hC, ct_a6 hC, ct_a7 hC, ct_s0 hC, ct_s1 hC, ct_s2 hC, ct_s3 hC, ct_s4 hC, ct_s5 hC, ct_s6 hC, ct_s7 hC, cn_p hN, cn_m hN, cn_l hN, cn_t hN, e1]
    · have e1 := x_sk1 hh hbb hi hs
      have e3 := sink_le hbb hs
      have e4 := cd_s1 hD hi hs
      rcases hg : argO (sink B N) i with _ | x
      · rw [argO_1 hs hg]
        simp (disch := omega) only [jb_some, jli, jif, jd_q, jd_K0, jpi_s, jpi_l, jpi_p, jpl_s, jpl_i, jpl_p, if_true, if_false, if_pos, if_neg, not_true_eq_false, not_false_eq_true, ite_true, ite_false, Nat.not_lt_zero, eq_self, Nat.le_refl, Nat.lt_irrefl, Bool.false_eq_true, or0, nI_add, nI_leI, nI_ltI, nI_eq, pk_mul, abs_nI, max_nI, min_nI, nI_m1, nI_m2, nI_le1, m1_lt, m2_lt, and_nI, or_nI, an_nI, has_nI, bit_nI, bc_nI, bits_nI, lx0, lx1, lx2, lx3, lx4, lx5, lx6, lx7, lx8, lx9, lx10, lx11, lx16, lx20, lx40, lx60, lx90, lx99, lx100, lx200, lx900, lx999, lx9999, jo_32 hW, jo_33 hW, jo_35 hW, jo_40 hW, jo_41 hW, jo_56 hW, jo_97 hW, jo_100 hW, jo_104 hW, jo_106 hW, jo_108 hW, ja_34 hW, ja_36 hW, ja_37 hW, ja_38 hW, ja_39 hW, ja_42 hW, ja_43 hW, ja_44 hW, ja_45 hW, ja_46 hW, ja_98 hW, ja_99 hW, ja_101 hW, ja_102 hW, ja_103 hW, wr_32_0 hW, wr_32_1 hW, wr_32_2 hW, wr_32_3 hW, wr_32_4 hW, wr_32_5 hW, wr_32_6 hW, wr_32_7 hW, wr_32_8 hW, wr_33_0 hW, wr_35_0 hW, wr_35_1 hW, wr_35_2 hW, wr_35_3 hW, wr_35_4 hW, wr_40_0 hW, wr_40_1 hW, wr_40_2 hW, wr_40_3 hW, wr_40_4 hW, wr_41_0 hW, wr_56_0 hW, wr_56_1 hW, wr_97_0 hW, wr_97_1 hW, wr_100_0 hW, wr_100_1 hW, wr_100_2 hW, wr_104_0 hW, wr_106_0 hW, joT hW hT, jaT1 hW hT, jaT2 hW hT, jaT3 hW hT, jaT4 hW hT, jaT5 hW hT, jaT6 hW hT, jaT7 hW hT, jaT8 hW hT, wrT0 hW hT, wrT1 hW hT, wrT2 hW hT, wrT3 hW hT, wrT4 hW hT, wrT5 hW hT, wrT6 hW hT, wrT7 hW hT, hS, ct_a0 hC, ct_a1 hC, ct_a2 hC, ct_a3 hC, ct_a4 hC, ct_a5 hC, ct_a6 hC, ct_a7 hC, ct_s0 hC, ct_s1 hC, ct_s2 hC, ct_s3 hC, ct_s4 hC, ct_s5 hC, ct_s6 hC, ct_s7 hC, cn_p hN, cn_m hN, cn_l hN, cn_t hN, e1, e4, oI, oL, Option.elim]
      · have e5 := argO_spec hg
        have e6 := sink_le hbb e5.2
        by_cases hk : x.2 ≤ t
        · rw [argO_2 hs hg hk]
          simp (disch := omega) only [jb_some, jli, jif, jd_q, jd_K0, jpi_s, jpi_l, jpi_p, jpl_s, jpl_i, jpl_p, if_true, if_false, if_pos, if_neg, not_true_eq_false, not_false_eq_true, ite_true, ite_false, Nat.not_lt_zero, eq_self, Nat.le_refl, Nat.lt_irrefl, Bool.false_eq_true, or0, nI_add, nI_leI, nI_ltI, nI_eq, pk_mul, abs_nI, max_nI, min_nI, nI_m1, nI_m2, nI_le1, m1_lt, m2_lt, and_nI, or_nI, an_nI, has_nI, bit_nI, bc_nI, bits_nI, lx0, lx1, lx2, lx3, lx4, lx5, lx6, lx7, lx8, lx9, lx10, lx11, lx16, lx20, lx40, lx60, lx90, lx99, lx100, lx200, lx900, lx999, lx9999, jo_32 hW, jo_33 hW, jo_35 hW, jo_40 hW, jo_41 hW, jo_56 hW, jo_97 hW, jo_100 hW, jo_104 hW, jo_106 hW, jo_108 hW, ja_34 hW, ja_36 hW, ja_37 hW, ja_38 hW, ja_39 hW, ja_42 hW, ja_43 hW, ja_44 hW, ja_45 hW, ja_46 hW, ja_98 hW, ja_99 hW, ja_101 hW, ja_102 hW, ja_103 hW, wr_32_0 hW, wr_32_1 hW, wr_32_2 hW, wr_32_3 hW, wr_32_4 hW, wr_32_5 hW, wr_32_6 hW, wr_32_7 hW, wr_32_8 hW, wr_33_0 hW, wr_35_0 hW, wr_35_1 hW, wr_35_2 hW, wr_35_3 hW, wr_35_4 hW, wr_40_0 hW, wr_40_1 hW, wr_40_2 hW, wr_40_3 hW, wr_40_4 hW, wr_41_0 hW, wr_56_0 hW, wr_56_1 hW, wr_97_0 hW, wr_97_1 hW, wr_100_0 hW, wr_100_1 hW, wr_100_2 hW, wr_104_0 hW, wr_106_0 hW, joT hW hT, jaT1 hW hT, jaT2 hW hT, jaT3 hW hT, jaT4 hW hT, jaT5 hW hT, jaT6 hW hT, jaT7 hW hT, jaT8 hW hT, wrT0 hW hT, wrT1 hW hT, wrT2 hW hT, wrT3 hW hT, wrT4 hW hT, wrT5 hW hT, wrT6 hW hT, wrT7 hW hT, hS, ct_a0 hC, ct_a1 hC, ct_a2 hC, ct_a3 hC, ct_a4 hC, ct_a5 hC, ct_a6 hC, ct_a7 hC, ct_s0 hC, ct_s1 hC, ct_s2 hC, ct_s3 hC, ct_s4 hC, ct_s5 hC, ct_s6 hC, ct_s7 hC, cn_p hN, cn_m hN, cn_l hN, cn_t hN, e1, e4, oI, oL, Option.elim, hk]
        · rw [argO_3 hs hg hk]
          simp (disch := omega) only [jb_some, jli, jif, jd_q, jd_K0, jpi_s, jpi_l, jpi_p, jpl_s, jpl_i, jpl_p, if_true, if_false, if_pos, if_neg, not_true_eq_false, not_false_eq_true, ite_true, ite_false, Nat.not_lt_zero, eq_self, Nat.le_refl, Nat.lt_irrefl, Bool.false_eq_true, or0, nI_add, nI_leI, nI_ltI, nI_eq, pk_mul, abs_nI, max_nI, min_nI, nI_m1, nI_m2, nI_le1, m1_lt, m2_lt, and_nI, or_nI, an_nI, has_nI, bit_nI, bc_nI, bits_nI, lx0, lx1, lx2, lx3, lx4, lx5, lx6, lx7, lx8, lx9, lx10, lx11, lx16, lx20, lx40, lx60, lx90, lx99, lx100, lx200, lx900, lx999, lx9999, jo_32 hW, jo_33 hW, jo_35 hW, jo_40 hW, jo_41 hW, jo_56 hW, jo_97 hW, jo_100 hW, jo_104 hW, jo_106 hW, jo_108 hW, ja_34 hW, ja_36 hW, ja_37 hW, ja_38 hW, ja_39 hW, ja_42 hW, ja_43 hW, ja_44 hW, ja_45 hW, ja_46 hW, ja_98 hW, ja_99 hW, ja_101 hW, ja_102 hW, ja_103 hW, wr_32_0 hW, wr_32_1 hW, wr_32_2 hW, wr_32_3 hW, wr_32_4 hW, wr_32_5 hW, wr_32_6 hW, wr_32_7 hW, wr_32_8 hW, wr_33_0 hW, wr_35_0 hW, wr_35_1 hW, wr_35_2 hW, wr_35_3 hW, wr_35_4 hW, wr_40_0 hW, wr_40_1 hW, wr_40_2 hW, wr_40_3 hW, wr_40_4 hW, wr_41_0 hW, wr_56_0 hW, wr_56_1 hW, wr_97_0 hW, wr_97_1 hW, wr_100_0 hW, wr_100_1 hW, wr_100_2 hW, wr_104_0 hW, wr_106_0 hW, joT hW hT, jaT1 hW hT, jaT2 hW hT, jaT3 hW hT, jaT4 hW hT, jaT5 hW hT, jaT6 hW hT, jaT7 hW hT, jaT8 hW hT, wrT0 hW hT, wrT1 hW hT, wrT2 hW hT, wrT3 hW hT, wrT4 hW hT, wrT5 hW hT, wrT6 hW hT, wrT7 hW hT, hS, ct_a0 hC, ct_a1 hC, ct_a2 hC, ct_a3 hC, ct_a4 hC, ct_a5 hC, ct_a6 hC, ct_a7 hC, ct_s0 hC, ct_s1 hC, ct_s2 hC, ct_s3 hC, ct_s4 hC, ct_s5 hC, ct_s6 hC, ct_s7 hC, cn_p hN, cn_m hN, cn_l hN, cn_t hN, e1, e4, oI, oL, Option.elim, hk]
  · simp (disch := omega) only [jb_some, jli, jif, jd_q, jd_K0, jpi_s, jpi_l, jpi_p, jpl_s, jpl_i, jpl_p, if_true, if_false, if_pos, if_neg, not_true_eq_false, not_false_eq_true, ite_true, ite_false, Nat.not_lt_zero, eq_self, Nat.le_refl, Nat.lt_irrefl, Bool.false_eq_true, or0, nI_add, nI_leI, nI_ltI, nI_eq, pk_mul, abs_nI, max_nI, min_nI, nI_m1, nI_m2, nI_le1, m1_lt, m2_lt, and_nI, or_nI, an_nI, has_nI, bit_nI, bc_nI, bits_nI, lx0, lx1, lx2, lx3, lx4, lx5, lx6, lx7, lx8, lx9, lx10, lx11, lx16, lx20, lx40, lx60, lx90, lx99, lx100, lx200, lx900, lx999, lx9999, jo_32 hW, jo_33 hW, jo_35 hW, jo_40 hW, jo_41 hW, jo_56 hW, jo_97 hW, jo_100 hW, jo_104 hW, jo_106 hW, jo_108 hW, ja_34 hW, ja_36 hW, ja_37 hW, ja_38 hW, ja_39 hW, ja_42 hW, ja_43 hW, ja_44 hW, ja_45 hW, ja_46 hW, ja_98 hW, ja_99 hW, ja_101 hW, ja_102 hW, ja_103 hW, wr_32_0 hW, wr_32_1 hW, wr_32_2 hW, wr_32_3 hW, wr_32_4 hW, wr_32_5 hW, wr_32_6 hW, wr_32_7 hW, wr_32_8 hW, wr_33_0 hW, wr_35_0 hW, wr_35_1 hW, wr_35_2 hW, wr_35_3 hW, wr_35_4 hW, wr_40_0 hW, wr_40_1 hW, wr_40_2 hW, wr_40_3 hW, wr_40_4 hW, wr_41_0 hW, wr_56_0 hW, wr_56_1 hW, wr_97_0 hW, wr_97_1 hW, wr_100_0 hW, wr_100_1 hW, wr_100_2 hW, wr_104_0 hW, wr_106_0 hW, joT hW hT, jaT1 hW hT, jaT2 hW hT, jaT3 hW hT, jaT4 hW hT, jaT5 hW hT, jaT6 hW hT, jaT7 hW hT, jaT8 hW hT, wrT0 hW hT, wrT1 hW hT, wrT2 hW hT, wrT3 hW hT, wrT4 hW hT, wrT5 hW hT, wrT6 hW hT, wrT7 hW hT, hS, ct_a0 hC, ct_a1 hC, ct_a2 hC, ct_a3 hC, ct_a4 hC, ct_a5 hC, ct_a6 hC, ct_a7 hC, ct_s0 hC, ct_s1 hC, ct_s2 hC, ct_s3 hC, ct_s4 hC, ct_s5 hC, ct_s6 hC, ct_s7 hC, cn_p hN, cn_m hN, cn_l hN, cn_t hN]
set_option maxHeartbeats 1000000 in
theorem x_minuteOfMostUnder (h : CX B N T σ) (hb : bOk B) : m_X6_minuteOfMostUnder 40 σ = some (nI (argM (undF B N) nM).1, σ) := by
  have hh := h
  have hbb := hb
  obtain ⟨⟨hW, hT, hS, hC, hN⟩, hD⟩ := h
  obtain ⟨b1, b2, b3, b4, b5, b6, b7, b8, b9, b10, bp⟩ := hb
  unfold m_X6_minuteOfMostUnder
  have hM := nM_eq
  generalize nM = M at *
  have hM2 : 200 < M := by omega
  rw [jlp_p M (fun i => ((nI (argM (undF B N) i).1, nI (argM (undF B N) i).2, nI i) : Int32 × Int32 × Int32)) (nI (argM (undF B N) M).1) (jfu (by omega)) ?_ ?_ ?_]
  · rfl
  · rfl
  · intro i hi
    have e1 := x_underBits hh hbb (m := i) (by omega)
    have e2 := bN_64 (underC B N i) b2
    have e3 : undF B N i ≤ 6 := pc_le _
    have e4 := argM_le (f := undF B N) (m := 6) (fun i => pc_le _) i
    have e5 : pc (bN (underC B N i) (B 8 3)) = undF B N i := rfl
    have e6 : ¬ 200 < i := by omega
    by_cases hk : undF B N i ≤ (argM (undF B N) i).2
    · rw [argM_t hk]
      simp (disch := omega) only [jb_some, jli, jif, jd_q, jd_K0, jpi_s, jpi_l, jpi_p, jpl_s, jpl_i, jpl_p, if_true, if_false, if_pos, if_neg, not_true_eq_false, not_false_eq_true, ite_true, ite_false, Nat.not_lt_zero, eq_self, Nat.le_refl, Nat.lt_irrefl, Bool.false_eq_true, or0, nI_add, nI_leI, nI_ltI, nI_eq, pk_mul, abs_nI, max_nI, min_nI, nI_m1, nI_m2, nI_le1, m1_lt, m2_lt, and_nI, or_nI, an_nI, has_nI, bit_nI, bc_nI, bits_nI, lx0, lx1, lx2, lx3, lx4, lx5, lx6, lx7, lx8, lx9, lx10, lx11, lx16, lx20, lx40, lx60, lx90, lx99, lx100, lx200, lx900, lx999, lx9999, jo_32 hW, jo_33 hW, jo_35 hW, jo_40 hW, jo_41 hW, jo_56 hW, jo_97 hW, jo_100 hW, jo_104 hW, jo_106 hW, jo_108 hW, ja_34 hW, ja_36 hW, ja_37 hW, ja_38 hW, ja_39 hW, ja_42 hW, ja_43 hW, ja_44 hW, ja_45 hW, ja_46 hW, ja_98 hW, ja_99 hW, ja_101 hW, ja_102 hW, ja_103 hW, wr_32_0 hW, wr_32_1 hW, wr_32_2 hW, wr_32_3 hW, wr_32_4 hW, wr_32_5 hW, wr_32_6 hW, wr_32_7 hW, wr_32_8 hW, wr_33_0 hW, wr_35_0 hW, wr_35_1 hW, wr_35_2 hW, wr_35_3 hW, wr_35_4 hW, wr_40_0 hW, wr_40_1 hW, wr_40_2 hW, wr_40_3 hW, wr_40_4 hW, wr_41_0 hW, wr_56_0 hW, wr_56_1 hW, wr_97_0 hW, wr_97_1 hW, wr_100_0 hW, wr_100_1 hW, wr_100_2 hW, wr_104_0 hW, wr_106_0 hW, joT hW hT, jaT1 hW hT, jaT2 hW hT, jaT3 hW hT, jaT4 hW hT, jaT5 hW hT, jaT6 hW hT, jaT7 hW hT, jaT8 hW hT, wrT0 hW hT, wrT1 hW hT, wrT2 hW hT, wrT3 hW hT, wrT4 hW hT, wrT5 hW hT, wrT6 hW hT, wrT7 hW hT, hS, ct_a0 hC, ct_a1 hC, ct_a2 hC, ct_a3 hC, ct_a4 hC, ct_a5 hC, ct_a6 hC, ct_a7 hC, ct_s0 hC, ct_s1 hC, ct_s2 hC, ct_s3 hC, ct_s4 hC, ct_s5 hC, ct_s6 hC, ct_s7 hC, cn_p hN, cn_m hN, cn_l hN, cn_t hN, e1, e5, e6, hk]
    · rw [argM_f hk]
      simp (disch := omega) only [jb_some, jli, jif, jd_q, jd_K0, jpi_s, jpi_l, jpi_p, jpl_s, jpl_i, jpl_p, if_true, if_false, if_pos, if_neg, not_true_eq_false, not_false_eq_true, ite_true, ite_false, Nat.not_lt_zero, eq_self, Nat.le_refl, Nat.lt_irrefl, Bool.false_eq_true, or0, nI_add, nI_leI, nI_ltI, nI_eq, pk_mul, abs_nI, max_nI, min_nI, nI_m1, nI_m2, nI_le1, m1_lt, m2_lt, and_nI, or_nI, an_nI, has_nI, bit_nI, bc_nI, bits_nI, lx0, lx1, lx2, lx3, lx4, lx5, lx6, lx7, lx8, lx9, lx10, lx11, lx16, lx20, lx40, lx60, lx90, lx99, lx100, lx200, lx900, lx999, lx9999, jo_32 hW, jo_33 hW, jo_35 hW, jo_40 hW, jo_41 hW, jo_56 hW, jo_97 hW, jo_100 hW, jo_104 hW, jo_106 hW, jo_108 hW, ja_34 hW, ja_36 hW, ja_37 hW, ja_38 hW, ja_39 hW, ja_42 hW, ja_43 hW, ja_44 hW, ja_45 hW, ja_46 hW, ja_98 hW, ja_99 hW, ja_101 hW, ja_102 hW, ja_103 hW, wr_32_0 hW, wr_32_1 hW, wr_32_2 hW, wr_32_3 hW, wr_32_4 hW, wr_32_5 hW, wr_32_6 hW, wr_32_7 hW, wr_32_8 hW, wr_33_0 hW, wr_35_0 hW, wr_35_1 hW, wr_35_2 hW, wr_35_3 hW, wr_35_4 hW, wr_40_0 hW, wr_40_1 hW, wr_40_2 hW, wr_40_3 hW, wr_40_4 hW, wr_41_0 hW, wr_56_0 hW, wr_56_1 hW, wr_97_0 hW, wr_97_1 hW, wr_100_0 hW, wr_100_1 hW, wr_100_2 hW, wr_104_0 hW, wr_106_0 hW, joT hW hT, jaT1 hW hT, jaT2 hW hT, jaT3 hW hT, jaT4 hW hT, jaT5 hW hT, jaT6 hW hT, jaT7 hW hT, jaT8 hW hT, wrT0 hW hT, wrT1 hW hT, wrT2 hW hT, wrT3 hW hT, wrT4 hW hT, wrT5 hW hT, wrT6 hW hT, wrT7 hW hT, hS, ct_a0 hC, ct_a1 hC, ct_a2 hC, ct_a3 hC, ct_a4 hC, ct_a5 hC, ct_a6 hC, ct_a7 hC, ct_s0 hC, ct_s1 hC, ct_s2 hC, ct_s3 hC, ct_s4 hC, ct_s5 hC, ct_s6 hC, ct_s7 hC, cn_p hN, cn_m hN, cn_l hN, cn_t hN, e1, e5, e6, hk]
  · simp (disch := omega) only [jb_some, jli, jif, jd_q, jd_K0, jpi_s, jpi_l, jpi_p, jpl_s, jpl_i, jpl_p, if_true, if_false, if_pos, if_neg, not_true_eq_false, not_false_eq_true, ite_true, ite_false, Nat.not_lt_zero, eq_self, Nat.le_refl, Nat.lt_irrefl, Bool.false_eq_true, or0, nI_add, nI_leI, nI_ltI, nI_eq, pk_mul, abs_nI, max_nI, min_nI, nI_m1, nI_m2, nI_le1, m1_lt, m2_lt, and_nI, or_nI, an_nI, has_nI, bit_nI, bc_nI, bits_nI, lx0, lx1, lx2, lx3, lx4, lx5, lx6, lx7, lx8, lx9, lx10, lx11, lx16, lx20, lx40, lx60, lx90, lx99, lx100, lx200, lx900, lx999, lx9999, jo_32 hW, jo_33 hW, jo_35 hW, jo_40 hW, jo_41 hW, jo_56 hW, jo_97 hW, jo_100 hW, jo_104 hW, jo_106 hW, jo_108 hW, ja_34 hW, ja_36 hW, ja_37 hW, ja_38 hW, ja_39 hW, ja_42 hW, ja_43 hW, ja_44 hW, ja_45 hW, ja_46 hW, ja_98 hW, ja_99 hW, ja_101 hW, ja_102 hW, ja_103 hW, wr_32_0 hW, wr_32_1 hW, wr_32_2 hW, wr_32_3 hW, wr_32_4 hW, wr_32_5 hW, wr_32_6 hW, wr_32_7 hW, wr_32_8 hW, wr_33_0 hW, wr_35_0 hW, wr_35_1 hW, wr_35_2 hW, wr_35_3 hW, wr_35_4 hW, wr_40_0 hW, wr_40_1 hW, wr_40_2 hW, wr_40_3 hW, wr_40_4 hW, wr_41_0 hW, wr_56_0 hW, wr_56_1 hW, wr_97_0 hW, wr_97_1 hW, wr_100_0 hW, wr_100_1 hW, wr_100_2 hW, wr_104_0 hW, wr_106_0 hW, joT hW hT, jaT1 hW hT, jaT2 hW hT, jaT3 hW hT, jaT4 hW hT, jaT5 hW hT, jaT6 hW hT, jaT7 hW hT, jaT8 hW hT, wrT0 hW hT, wrT1 hW hT, wrT2 hW hT, wrT3 hW hT, wrT4 hW hT, wrT5 hW hT, wrT6 hW hT, wrT7 hW hT, hS, ct_a0 hC, ct_a1 hC, ct_a2 hC, ct_a3 hC, ct_a4 hC, ct_a5 hC, ct_a6 hC, ct_a7 hC, ct_s0 hC, ct_s1 hC, ct_s2 hC, ct_s3 hC, ct_s4 hC, ct_s5 hC, ct_s6 hC, ct_s7 hC, cn_p hN, cn_m hN, cn_l hN, cn_t hN, hM2]
set_option maxHeartbeats 1000000 in
theorem x_minuteOfSoMany (h : CX B N T σ) (hb : bOk B) {k : Nat} (hk : k ≤ 6) : m_X6_minuteOfSoMany 40 (nI k) σ = some (sI ((List.range 201).find? fun m => decide (k ≤ cnt (begC B N m) (B 8 3))), σ) := by
  have hh := h
  have hbb := hb
  obtain ⟨⟨hW, hT, hS, hC, hN⟩, hD⟩ := h
  obtain ⟨b1, b2, b3, b4, b5, b6, b7, b8, b9, b10, bp⟩ := hb
  unfold m_X6_minuteOfSoMany
  rw [jlp_e 201 (fun i => nI i) (fun m => decide (k ≤ cnt (begC B N m) (B 8 3))) (fun i => Sum.inr (nI i)) (Sum.inl ()) (jfu (by omega)) ?_ ?_ ?_]
  · rw [jb_some]
    rcases (List.range 201).find? fun m => decide (k ≤ cnt (begC B N m) (B 8 3)) with _ | m
    · rfl
    · rfl
  · rfl
  · intro m hm
    have e6 : ¬ 200 < m := by omega
    have c1 := cnt_le (begC B N m) (B 8 3)
    simp (disch := omega) only [jb_some, jli, jif, jd_q, jd_K0, jpi_s, jpi_l, jpi_p, jpl_s, jpl_i, jpl_p, if_true, if_false, if_pos, if_neg, not_true_eq_false, not_false_eq_true, ite_true, ite_false, Nat.not_lt_zero, eq_self, Nat.le_refl, Nat.lt_irrefl, Bool.false_eq_true, or0, nI_add, nI_leI, nI_ltI, nI_eq, pk_mul, abs_nI, max_nI, min_nI, nI_m1, nI_m2, nI_le1, m1_lt, m2_lt, and_nI, or_nI, an_nI, has_nI, bit_nI, bc_nI, bits_nI, lx0, lx1, lx2, lx3, lx4, lx5, lx6, lx7, lx8, lx9, lx10, lx11, lx16, lx20, lx40, lx60, lx90, lx99, lx100, lx200, lx900, lx999, lx9999, jo_32 hW, jo_33 hW, jo_35 hW, jo_40 hW, jo_41 hW, jo_56 hW, jo_97 hW, jo_100 hW, jo_104 hW, jo_106 hW, jo_108 hW, ja_34 hW, ja_36 hW, ja_37 hW, ja_38 hW, ja_39 hW, ja_42 hW, ja_43 hW, ja_44 hW, ja_45 hW, ja_46 hW, ja_98 hW, ja_99 hW, ja_101 hW, ja_102 hW, ja_103 hW, wr_32_0 hW, wr_32_1 hW, wr_32_2 hW, wr_32_3 hW, wr_32_4 hW, wr_32_5 hW, wr_32_6 hW, wr_32_7 hW, wr_32_8 hW, wr_33_0 hW, wr_35_0 hW, wr_35_1 hW, wr_35_2 hW, wr_35_3 hW, wr_35_4 hW, wr_40_0 hW, wr_40_1 hW, wr_40_2 hW, wr_40_3 hW, wr_40_4 hW, wr_41_0 hW, wr_56_0 hW, wr_56_1 hW, wr_97_0 hW, wr_97_1 hW, wr_100_0 hW, wr_100_1 hW, wr_100_2 hW, wr_104_0 hW, wr_106_0 hW, joT hW hT, jaT1 hW hT, jaT2 hW hT, jaT3 hW hT, jaT4 hW hT, jaT5 hW hT, jaT6 hW hT, jaT7 hW hT, jaT8 hW hT, wrT0 hW hT, wrT1 hW hT, wrT2 hW hT, wrT3 hW hT, wrT4 hW hT, wrT5 hW hT, wrT6 hW hT, wrT7 hW hT, hS, ct_a0 hC, ct_a1 hC, ct_a2 hC, ct_a3 hC, ct_a4 hC, ct_a5 hC, ct_a6 hC, ct_a7 hC, ct_s0 hC, ct_s1 hC, ct_s2 hC, ct_s3 hC, ct_s4 hC, ct_s5 hC, ct_s6 hC, ct_s7 hC, cn_p hN, cn_m hN, cn_l hN, cn_t hN, e6]
    rw [jlp_p (B 8 3) (fun i => ((nI (cnt (begC B N m) i), nI i) : Int32 × Int32)) (nI (cnt (begC B N m) (B 8 3))) (jfu (by omega)) ?_ ?_ ?_]
    · by_cases hc : k ≤ cnt (begC B N m) (B 8 3)
      · have hc' : ¬ cnt (begC B N m) (B 8 3) < k := by omega
        simp (disch := omega) only [jb_some, jli, jif, jd_q, jd_K0, jpi_s, jpi_l, jpi_p, jpl_s, jpl_i, jpl_p, if_true, if_false, if_pos, if_neg, not_true_eq_false, not_false_eq_true, ite_true, ite_false, Nat.not_lt_zero, eq_self, Nat.le_refl, Nat.lt_irrefl, Bool.false_eq_true, or0, nI_add, nI_leI, nI_ltI, nI_eq, pk_mul, abs_nI, max_nI, min_nI, nI_m1, nI_m2, nI_le1, m1_lt, m2_lt, and_nI, or_nI, an_nI, has_nI, bit_nI, bc_nI, bits_nI, lx0, lx1, lx2, lx3, lx4, lx5, lx6, lx7, lx8, lx9, lx10, lx11, lx16, lx20, lx40, lx60, lx90, lx99, lx100, lx200, lx900, lx999, lx9999, jo_32 hW, jo_33 hW, jo_35 hW, jo_40 hW, jo_41 hW, jo_56 hW, jo_97 hW, jo_100 hW, jo_104 hW, jo_106 hW, jo_108 hW, ja_34 hW, ja_36 hW, ja_37 hW, ja_38 hW, ja_39 hW, ja_42 hW, ja_43 hW, ja_44 hW, ja_45 hW, ja_46 hW, ja_98 hW, ja_99 hW, ja_101 hW, ja_102 hW, ja_103 hW, wr_32_0 hW, wr_32_1 hW, wr_32_2 hW, wr_32_3 hW, wr_32_4 hW, wr_32_5 hW, wr_32_6 hW, wr_32_7 hW, wr_32_8 hW, wr_33_0 hW, wr_35_0 hW, wr_35_1 hW, wr_35_2 hW, wr_35_3 hW, wr_35_4 hW, wr_40_0 hW, wr_40_1 hW, wr_40_2 hW, wr_40_3 hW, wr_40_4 hW, wr_41_0 hW, wr_56_0 hW, wr_56_1 hW, wr_97_0 hW, wr_97_1 hW, wr_100_0 hW, wr_100_1 hW, wr_100_2 hW, wr_104_0 hW, wr_106_0 hW, joT hW hT, jaT1 hW hT, jaT2 hW hT, jaT3 hW hT, jaT4 hW hT, jaT5 hW hT, jaT6 hW hT, jaT7 hW hT, jaT8 hW hT, wrT0 hW hT, wrT1 hW hT, wrT2 hW hT, wrT3 hW hT, wrT4 hW hT, wrT5 hW hT, wrT6 hW hT, wrT7 hW hT, hS, ct_a0 hC, ct_a1 hC, ct_a2 hC, ct_a3 hC, ct_a4 hC, ct_a5 hC, ct_a6 hC, ct_a7 hC, ct_s0 hC, ct_s1 hC, ct_s2 hC, ct_s3 hC, ct_s4 hC, ct_s5 hC, ct_s6 hC, ct_s7 hC, cn_p hN, cn_m hN, cn_l hN, cn_t hN, hc, hc', decide_true]
      · have hc' : cnt (begC B N m) (B 8 3) < k := by omega
        simp (disch := omega) only [jb_some, jli, jif, jd_q, jd_K0, jpi_s, jpi_l, jpi_p, jpl_s, jpl_i, jpl_p, if_true, if_false, if_pos, if_neg, not_true_eq_false, not_false_eq_true, ite_true, ite_false, Nat.not_lt_zero, eq_self, Nat.le_refl, Nat.lt_irrefl, Bool.false_eq_true, or0, nI_add, nI_leI, nI_ltI, nI_eq, pk_mul, abs_nI, max_nI, min_nI, nI_m1, nI_m2, nI_le1, m1_lt, m2_lt, and_nI, or_nI, an_nI, has_nI, bit_nI, bc_nI, bits_nI, lx0, lx1, lx2, lx3, lx4, lx5, lx6, lx7, lx8, lx9, lx10, lx11, lx16, lx20, lx40, lx60, lx90, lx99, lx100, lx200, lx900, lx999, lx9999, jo_32 hW, jo_33 hW, jo_35 hW, jo_40 hW, jo_41 hW, jo_56 hW, jo_97 hW, jo_100 hW, jo_104 hW, jo_106 hW, jo_108 hW, ja_34 hW, ja_36 hW, ja_37 hW, ja_38 hW, ja_39 hW, ja_42 hW, ja_43 hW, ja_44 hW, ja_45 hW, ja_46 hW, ja_98 hW, ja_99 hW, ja_101 hW, ja_102 hW, ja_103 hW, wr_32_0 hW, wr_32_1 hW, wr_32_2 hW, wr_32_3 hW, wr_32_4 hW, wr_32_5 hW, wr_32_6 hW, wr_32_7 hW, wr_32_8 hW, wr_33_0 hW, wr_35_0 hW, wr_35_1 hW, wr_35_2 hW, wr_35_3 hW, wr_35_4 hW, wr_40_0 hW, wr_40_1 hW, wr_40_2 hW, wr_40_3 hW, wr_40_4 hW, wr_41_0 hW, wr_56_0 hW, wr_56_1 hW, wr_97_0 hW, wr_97_1 hW, wr_100_0 hW, wr_100_1 hW, wr_100_2 hW, wr_104_0 hW, wr_106_0 hW, joT hW hT, jaT1 hW hT, jaT2 hW hT, jaT3 hW hT, jaT4 hW hT, jaT5 hW hT, jaT6 hW hT, jaT7 hW hT, jaT8 hW hT, wrT0 hW hT, wrT1 hW hT, wrT2 hW hT, wrT3 hW hT, wrT4 hW hT, wrT5 hW hT, wrT6 hW hT, wrT7 hW hT, hS, ct_a0 hC, ct_a1 hC, ct_a2 hC, ct_a3 hC, ct_a4 hC, ct_a5 hC, ct_a6 hC, ct_a7 hC, ct_s0 hC, ct_s1 hC, ct_s2 hC, ct_s3 hC, ct_s4 hC, ct_s5 hC, ct_s6 hC, ct_s7 hC, cn_p hN, cn_m hN, cn_l hN, cn_t hN, hc, hc', decide_false]
    · rfl
    · intro i hi
      rcases hs : sink B N i with _ | t
      · have e1 := x_sk0 hh hbb hi hs
        rw [cnt_f (by simp [begC, hs])]
        simp (disch := omega) only [jb_some, jli, jif, jd_q, jd_K0, jpi_s, jpi_l, jpi_p, jpl_s, jpl_i, jpl_p, if_true, if_false, if_pos, if_neg, not_true_eq_false, not_false_eq_true, ite_true, ite_false, Nat.not_lt_zero, eq_self, Nat.le_refl, Nat.lt_irrefl, Bool.false_eq_true, or0, nI_add, nI_leI, nI_ltI, nI_eq, pk_mul, abs_nI, max_nI, min_nI, nI_m1, nI_m2, nI_le1, m1_lt, m2_lt, and_nI, or_nI, an_nI, has_nI, bit_nI, bc_nI, bits_nI, lx0, lx1, lx2, lx3, lx4, lx5, lx6, lx7, lx8, lx9, lx10, lx11, lx16, lx20, lx40, lx60, lx90, lx99, lx100, lx200, lx900, lx999, lx9999, jo_32 hW, jo_33 hW, jo_35 hW, jo_40 hW, jo_41 hW, jo_56 hW, jo_97 hW, jo_100 hW, jo_104 hW, jo_106 hW, jo_108 hW, ja_34 hW, ja_36 hW, ja_37 hW, ja_38 hW, ja_39 hW, ja_42 hW, ja_43 hW, ja_44 hW, ja_45 hW, ja_46 hW, ja_98 hW, ja_99 hW, ja_101 hW, ja_102 hW, ja_103 hW, wr_32_0 hW, wr_32_1 hW, wr_32_2 hW, wr_32_3 hW, wr_32_4 hW, wr_32_5 hW, wr_32_6 hW, wr_32_7 hW, wr_32_8 hW, wr_33_0 hW, wr_35_0 hW, wr_35_1 hW, wr_35_2 hW, wr_35_3 hW, wr_35_4 hW, wr_40_0 hW, wr_40_1 hW, wr_40_2 hW, wr_40_3 hW, wr_40_4 hW, wr_41_0 hW, wr_56_0 hW, wr_56_1 hW, wr_97_0 hW, wr_97_1 hW, wr_100_0 hW, wr_100_1 hW, wr_100_2 hW, wr_104_0 hW, wr_106_0 hW, joT hW hT, jaT1 hW hT, jaT2 hW hT, jaT3 hW hT, jaT4 hW hT, jaT5 hW hT, jaT6 hW hT, jaT7 hW hT, jaT8 hW hT, wrT0 hW hT, wrT1 hW hT, wrT2 hW hT, wrT3 hW hT, wrT4 hW hT, wrT5 hW hT, wrT6 hW hT, wrT7 hW hT, hS, ct_a0 hC, ct_a1 hC, ct_a2 hC, ct_a3 hC, ct_a4 hC, ct_a5 hC, ct_a6 hC, ct_a7 hC, ct_s0 hC, ct_s1 hC, ct_s2 hC, ct_s3 hC, ct_s4 hC, ct_s5 hC, ct_s6 hC, ct_s7 hC, cn_p hN, cn_m hN, cn_l hN, cn_t hN, e1]
      · have e1 := x_sk1 hh hbb hi hs
        have e3 := sink_le hbb hs
        have e4 := cd_s1 hD hi hs
        by_cases h1 : m < t
        · rw [cnt_f (by simp [begC, hs]; omega)]
          simp (disch := omega) only [jb_some, jli, jif, jd_q, jd_K0, jpi_s, jpi_l, jpi_p, jpl_s, jpl_i, jpl_p, if_true, if_false, if_pos, if_neg, not_true_eq_false, not_false_eq_true, ite_true, ite_false, Nat.not_lt_zero, eq_self, Nat.le_refl, Nat.lt_irrefl, Bool.false_eq_true, or0, nI_add, nI_leI, nI_ltI, nI_eq, pk_mul, abs_nI, max_nI, min_nI, nI_m1, nI_m2, nI_le1, m1_lt, m2_lt, and_nI, or_nI, an_nI, has_nI, bit_nI, bc_nI, bits_nI, lx0, lx1, lx2, lx3, lx4, lx5, lx6, lx7, lx8, lx9, lx10, lx11, lx16, lx20, lx40, lx60, lx90, lx99, lx100, lx200, lx900, lx999, lx9999, jo_32 hW, jo_33 hW, jo_35 hW, jo_40 hW, jo_41 hW, jo_56 hW, jo_97 hW, jo_100 hW, jo_104 hW, jo_106 hW, jo_108 hW, ja_34 hW, ja_36 hW, ja_37 hW, ja_38 hW, ja_39 hW, ja_42 hW, ja_43 hW, ja_44 hW, ja_45 hW, ja_46 hW, ja_98 hW, ja_99 hW, ja_101 hW, ja_102 hW, ja_103 hW, wr_32_0 hW, wr_32_1 hW, wr_32_2 hW, wr_32_3 hW, wr_32_4 hW, wr_32_5 hW, wr_32_6 hW, wr_32_7 hW, wr_32_8 hW, wr_33_0 hW, wr_35_0 hW, wr_35_1 hW, wr_35_2 hW, wr_35_3 hW, wr_35_4 hW, wr_40_0 hW, wr_40_1 hW, wr_40_2 hW, wr_40_3 hW, wr_40_4 hW, wr_41_0 hW, wr_56_0 hW, wr_56_1 hW, wr_97_0 hW, wr_97_1 hW, wr_100_0 hW, wr_100_1 hW, wr_100_2 hW, wr_104_0 hW, wr_106_0 hW, joT hW hT, jaT1 hW hT, jaT2 hW hT, jaT3 hW hT, jaT4 hW hT, jaT5 hW hT, jaT6 hW hT, jaT7 hW hT, jaT8 hW hT, wrT0 hW hT, wrT1 hW hT, wrT2 hW hT, wrT3 hW hT, wrT4 hW hT, wrT5 hW hT, wrT6 hW hT, wrT7 hW hT, hS, ct_a0 hC, ct_a1 hC, ct_a2 hC, ct_a3 hC, ct_a4 hC, ct_a5 hC, ct_a6 hC, ct_a7 hC, ct_s0 hC, ct_s1 hC, ct_s2 hC, ct_s3 hC, ct_s4 hC, ct_s5 hC, ct_s6 hC, ct_s7 hC, cn_p hN, cn_m hN, cn_l hN, cn_t hN, e1, e4, h1]
        · rw [cnt_t (by simp [begC, hs]; omega)]
          simp (disch := omega) only [jb_some, jli, jif, jd_q, jd_K0, jpi_s, jpi_l, jpi_p, jpl_s, jpl_i, jpl_p, if_true, if_false, if_pos, if_neg, not_true_eq_false, not_false_eq_true, ite_true, ite_false, Nat.not_lt_zero, eq_self, Nat.le_refl, Nat.lt_irrefl, Bool.false_eq_true, or0, nI_add, nI_leI, nI_ltI, nI_eq, pk_mul, abs_nI, max_nI, min_nI, nI_m1, nI_m2, nI_le1, m1_lt, m2_lt, and_nI, or_nI, an_nI, has_nI, bit_nI, bc_nI, bits_nI, lx0, lx1, lx2, lx3, lx4, lx5, lx6, lx7, lx8, lx9, lx10, lx11, lx16, lx20, lx40, lx60, lx90, lx99, lx100, lx200, lx900, lx999, lx9999, jo_32 hW, jo_33 hW, jo_35 hW, jo_40 hW, jo_41 hW, jo_56 hW, jo_97 hW, jo_100 hW, jo_104 hW, jo_106 hW, jo_108 hW, ja_34 hW, ja_36 hW, ja_37 hW, ja_38 hW, ja_39 hW, ja_42 hW, ja_43 hW, ja_44 hW, ja_45 hW, ja_46 hW, ja_98 hW, ja_99 hW, ja_101 hW, ja_102 hW, ja_103 hW, wr_32_0 hW, wr_32_1 hW, wr_32_2 hW, wr_32_3 hW, wr_32_4 hW, wr_32_5 hW, wr_32_6 hW, wr_32_7 hW, wr_32_8 hW, wr_33_0 hW, wr_35_0 hW, wr_35_1 hW, wr_35_2 hW, wr_35_3 hW, wr_35_4 hW, wr_40_0 hW, wr_40_1 hW, wr_40_2 hW, wr_40_3 hW, wr_40_4 hW, wr_41_0 hW, wr_56_0 hW, wr_56_1 hW, wr_97_0 hW, wr_97_1 hW, wr_100_0 hW, wr_100_1 hW, wr_100_2 hW, wr_104_0 hW, wr_106_0 hW, joT hW hT, jaT1 hW hT, jaT2 hW hT, jaT3 hW hT, jaT4 hW hT, jaT5 hW hT, jaT6 hW hT, jaT7 hW hT, jaT8 hW hT, wrT0 hW hT, wrT1 hW hT, wrT2 hW hT, wrT3 hW hT, wrT4 hW hT, wrT5 hW hT, wrT6 hW hT, wrT7 hW hT, hS, ct_a0 hC, ct_a1 hC, ct_a2 hC, ct_a3 hC, ct_a4 hC, ct_a5 hC, ct_a6 hC, ct_a7 hC, ct_s0 hC, ct_s1 hC, ct_s2 hC, ct_s3 hC, ct_s4 hC, ct_s5 hC, ct_s6 hC, ct_s7 hC, cn_p hN, cn_m hN, cn_l hN, cn_t hN, e1, e4, h1]
    · simp (disch := omega) only [jb_some, jli, jif, jd_q, jd_K0, jpi_s, jpi_l, jpi_p, jpl_s, jpl_i, jpl_p, if_true, if_false, if_pos, if_neg, not_true_eq_false, not_false_eq_true, ite_true, ite_false, Nat.not_lt_zero, eq_self, Nat.le_refl, Nat.lt_irrefl, Bool.false_eq_true, or0, nI_add, nI_leI, nI_ltI, nI_eq, pk_mul, abs_nI, max_nI, min_nI, nI_m1, nI_m2, nI_le1, m1_lt, m2_lt, and_nI, or_nI, an_nI, has_nI, bit_nI, bc_nI, bits_nI, lx0, lx1, lx2, lx3, lx4, lx5, lx6, lx7, lx8, lx9, lx10, lx11, lx16, lx20, lx40, lx60, lx90, lx99, lx100, lx200, lx900, lx999, lx9999, jo_32 hW, jo_33 hW, jo_35 hW, jo_40 hW, jo_41 hW, jo_56 hW, jo_97 hW, jo_100 hW, jo_104 hW, jo_106 hW, jo_108 hW, ja_34 hW, ja_36 hW, ja_37 hW, ja_38 hW, ja_39 hW, ja_42 hW, ja_43 hW, ja_44 hW, ja_45 hW, ja_46 hW, ja_98 hW, ja_99 hW, ja_101 hW, ja_102 hW, ja_103 hW, wr_32_0 hW, wr_32_1 hW, wr_32_2 hW, wr_32_3 hW, wr_32_4 hW, wr_32_5 hW, wr_32_6 hW, wr_32_7 hW, wr_32_8 hW, wr_33_0 hW, wr_35_0 hW, wr_35_1 hW, wr_35_2 hW, wr_35_3 hW, wr_35_4 hW, wr_40_0 hW, wr_40_1 hW, wr_40_2 hW, wr_40_3 hW, wr_40_4 hW, wr_41_0 hW, wr_56_0 hW, wr_56_1 hW, wr_97_0 hW, wr_97_1 hW, wr_100_0 hW, wr_100_1 hW, wr_100_2 hW, wr_104_0 hW, wr_106_0 hW, joT hW hT, jaT1 hW hT, jaT2 hW hT, jaT3 hW hT, jaT4 hW hT, jaT5 hW hT, jaT6 hW hT, jaT7 hW hT, jaT8 hW hT, wrT0 hW hT, wrT1 hW hT, wrT2 hW hT, wrT3 hW hT, wrT4 hW hT, wrT5 hW hT, wrT6 hW hT, wrT7 hW hT, hS, ct_a0 hC, ct_a1 hC, ct_a2 hC, ct_a3 hC, ct_a4 hC, ct_a5 hC, ct_a6 hC, ct_a7 hC, ct_s0 hC, ct_s1 hC, ct_s2 hC, ct_s3 hC, ct_s4 hC, ct_s5 hC, ct_s6 hC, ct_s7 hC, cn_p hN, cn_m hN, cn_l hN, cn_t hN]
  · simp (disch := omega) only [jb_some, jli, jif, jd_q, jd_K0, jpi_s, jpi_l, jpi_p, jpl_s, jpl_i, jpl_p, if_true, if_false, if_pos, if_neg, not_true_eq_false, not_false_eq_true, ite_true, ite_false, Nat.not_lt_zero, eq_self, Nat.le_refl, Nat.lt_irrefl, Bool.false_eq_true, or0, nI_add, nI_leI, nI_ltI, nI_eq, pk_mul, abs_nI, max_nI, min_nI, nI_m1, nI_m2, nI_le1, m1_lt, m2_lt, and_nI, or_nI, an_nI, has_nI, bit_nI, bc_nI, bits_nI, lx0, lx1, lx2, lx3, lx4, lx5, lx6, lx7, lx8, lx9, lx10, lx11, lx16, lx20, lx40, lx60, lx90, lx99, lx100, lx200, lx900, lx999, lx9999, jo_32 hW, jo_33 hW, jo_35 hW, jo_40 hW, jo_41 hW, jo_56 hW, jo_97 hW, jo_100 hW, jo_104 hW, jo_106 hW, jo_108 hW, ja_34 hW, ja_36 hW, ja_37 hW, ja_38 hW, ja_39 hW, ja_42 hW, ja_43 hW, ja_44 hW, ja_45 hW, ja_46 hW, ja_98 hW, ja_99 hW, ja_101 hW, ja_102 hW, ja_103 hW, wr_32_0 hW, wr_32_1 hW, wr_32_2 hW, wr_32_3 hW, wr_32_4 hW, wr_32_5 hW, wr_32_6 hW, wr_32_7 hW, wr_32_8 hW, wr_33_0 hW, wr_35_0 hW, wr_35_1 hW, wr_35_2 hW, wr_35_3 hW, wr_35_4 hW, wr_40_0 hW, wr_40_1 hW, wr_40_2 hW, wr_40_3 hW, wr_40_4 hW, wr_41_0 hW, wr_56_0 hW, wr_56_1 hW, wr_97_0 hW, wr_97_1 hW, wr_100_0 hW, wr_100_1 hW, wr_100_2 hW, wr_104_0 hW, wr_106_0 hW, joT hW hT, jaT1 hW hT, jaT2 hW hT, jaT3 hW hT, jaT4 hW hT, jaT5 hW hT, jaT6 hW hT, jaT7 hW hT, jaT8 hW hT, wrT0 hW hT, wrT1 hW hT, wrT2 hW hT, wrT3 hW hT, wrT4 hW hT, wrT5 hW hT, wrT6 hW hT, wrT7 hW hT, hS, ct_a0 hC, ct_a1 hC, ct_a2 hC, ct_a3 hC, ct_a4 hC, ct_a5 hC, ct_a6 hC, ct_a7 hC, ct_s0 hC, ct_s1 hC, ct_s2 hC, ct_s3 hC, ct_s4 hC, ct_s5 hC, ct_s6 hC, ct_s7 hC, cn_p hN, cn_m hN, cn_l hN, cn_t hN]
set_option maxHeartbeats 1000000 in
theorem x_nearest (h : CX B N T σ) (hb : bOk B) (hn : nOk B N) {p : Nat} (hp : p < B 8 3) : m_X6_nearestManned 40 (nI p) σ = some (oI (nrO B N p), σ) := by
  have hh := h
  have hbb := hb
  obtain ⟨⟨hW, hT, hS, hC, hN⟩, hD⟩ := h
  obtain ⟨b1, b2, b3, b4, b5, b6, b7, b8, b9, b10, bp⟩ := hb
  unfold m_X6_nearestManned
  rw [jlp_p (B 8 4) (fun i => ((oI (argO (nrC B N p) i), oL (argO (nrC B N p) i), nI i) : Int32 × Int32 × Int32)) (oI (nrO B N p)) (jfu (by omega)) ?_ ?_ ?_]
  · rfl
  · rfl
  · intro i hi
    have e1 := x_isManned hh.1 hbb hn (q := i) (by omega)
    have e2 := x_timeTo hh.1 hbb hn hi hp
    have e3 := time_le hbb (hn.1 p (by omega)) i
    by_cases h6 : (N 6).testBit i = true
    · have hs : nrC B N p i = some (time B N i p) := by simp [nrC, h6]
      rcases hg : argO (nrC B N p) i with _ | x
      · rw [argO_1 hs hg]
        simp (disch := omega) only [jb_some, jli, jif, jd_q, jd_K0, jpi_s, jpi_l, jpi_p, jpl_s, jpl_i, jpl_p, if_true, if_false, if_pos, if_neg, not_true_eq_false, not_false_eq_true, ite_true, ite_false, Nat.not_lt_zero, eq_self, Nat.le_refl, Nat.lt_irrefl, Bool.false_eq_true, or0, nI_add, nI_leI, nI_ltI, nI_eq, pk_mul, abs_nI, max_nI, min_nI, nI_m1, nI_m2, nI_le1, m1_lt, m2_lt, and_nI, or_nI, an_nI, has_nI, bit_nI, bc_nI, bits_nI, lx0, lx1, lx2, lx3, lx4, lx5, lx6, lx7, lx8, lx9, lx10, lx11, lx16, lx20, lx40, lx60, lx90, lx99, lx100, lx200, lx900, lx999, lx9999, jo_32 hW, jo_33 hW, jo_35 hW, jo_40 hW, jo_41 hW, jo_56 hW, jo_97 hW, jo_100 hW, jo_104 hW, jo_106 hW, jo_108 hW, ja_34 hW, ja_36 hW, ja_37 hW, ja_38 hW, ja_39 hW, ja_42 hW, ja_43 hW, ja_44 hW, ja_45 hW, ja_46 hW, ja_98 hW, ja_99 hW, ja_101 hW, ja_102 hW, ja_103 hW, wr_32_0 hW, wr_32_1 hW, wr_32_2 hW, wr_32_3 hW, wr_32_4 hW, wr_32_5 hW, wr_32_6 hW, wr_32_7 hW, wr_32_8 hW, wr_33_0 hW, wr_35_0 hW, wr_35_1 hW, wr_35_2 hW, wr_35_3 hW, wr_35_4 hW, wr_40_0 hW, wr_40_1 hW, wr_40_2 hW, wr_40_3 hW, wr_40_4 hW, wr_41_0 hW, wr_56_0 hW, wr_56_1 hW, wr_97_0 hW, wr_97_1 hW, wr_100_0 hW, wr_100_1 hW, wr_100_2 hW, wr_104_0 hW, wr_106_0 hW, joT hW hT, jaT1 hW hT, jaT2 hW hT, jaT3 hW hT, jaT4 hW hT, jaT5 hW hT, jaT6 hW hT, jaT7 hW hT, jaT8 hW hT, wrT0 hW hT, wrT1 hW hT, wrT2 hW hT, wrT3 hW hT, wrT4 hW hT, wrT5 hW hT, wrT6 hW hT, wrT7 hW hT, hS, ct_a0 hC, ct_a1 hC, ct_a2 hC, ct_a3 hC, ct_a4 hC, ct_a5 hC, ct_a6 hC, ct_a7 hC, ct_s0 hC, ct_s1 hC, ct_s2 hC, ct_s3 hC, ct_s4 hC, ct_s5 hC, ct_s6 hC, ct_s7 hC, cn_p hN, cn_m hN, cn_l hN, cn_t hN, e1, e2, h6, oI, oL, Option.elim]
      · have e5 := argO_spec hg
        have e6 : x.2 ≤ 139 := by
          have := e5.2
          unfold nrC at this
          split at this
          · injection this with this
            rw [← this]
            exact time_le hbb (hn.1 p (by omega)) _
          · exact absurd this (by simp)
        by_cases hk : x.2 ≤ time B N i p
        · rw [argO_2 hs hg hk]
          simp (disch := omega) only [jb_some, jli, jif, jd_q, jd_K0, jpi_s, jpi_l, jpi_p, jpl_s, jpl_i, jpl_p, if_true, if_false, if_pos, if_neg, not_true_eq_false, not_false_eq_true, ite_true, ite_false, Nat.not_lt_zero, eq_self, Nat.le_refl, Nat.lt_irrefl, Bool.false_eq_true, or0, nI_add, nI_leI, nI_ltI, nI_eq, pk_mul, abs_nI, max_nI, min_nI, nI_m1, nI_m2, nI_le1, m1_lt, m2_lt, and_nI, or_nI, an_nI, has_nI, bit_nI, bc_nI, bits_nI, lx0, lx1, lx2, lx3, lx4, lx5, lx6, lx7, lx8, lx9, lx10, lx11, lx16, lx20, lx40, lx60, lx90, lx99, lx100, lx200, lx900, lx999, lx9999, jo_32 hW, jo_33 hW, jo_35 hW, jo_40 hW, jo_41 hW, jo_56 hW, jo_97 hW, jo_100 hW, jo_104 hW, jo_106 hW, jo_108 hW, ja_34 hW, ja_36 hW, ja_37 hW, ja_38 hW, ja_39 hW, ja_42 hW, ja_43 hW, ja_44 hW, ja_45 hW, ja_46 hW, ja_98 hW, ja_99 hW, ja_101 hW, ja_102 hW, ja_103 hW, wr_32_0 hW, wr_32_1 hW, wr_32_2 hW, wr_32_3 hW, wr_32_4 hW, wr_32_5 hW, wr_32_6 hW, wr_32_7 hW, wr_32_8 hW, wr_33_0 hW, wr_35_0 hW, wr_35_1 hW, wr_35_2 hW, wr_35_3 hW, wr_35_4 hW, wr_40_0 hW, wr_40_1 hW, wr_40_2 hW, wr_40_3 hW, wr_40_4 hW, wr_41_0 hW, wr_56_0 hW, wr_56_1 hW, wr_97_0 hW, wr_97_1 hW, wr_100_0 hW, wr_100_1 hW, wr_100_2 hW, wr_104_0 hW, wr_106_0 hW, joT hW hT, jaT1 hW hT, jaT2 hW hT, jaT3 hW hT, jaT4 hW hT, jaT5 hW hT, jaT6 hW hT, jaT7 hW hT, jaT8 hW hT, wrT0 hW hT, wrT1 hW hT, wrT2 hW hT, wrT3 hW hT, wrT4 hW hT, wrT5 hW hT, wrT6 hW hT, wrT7 hW hT, hS, ct_a0 hC, ct_a1 hC, ct_a2 hC, ct_a3 hC, ct_a4 hC, ct_a5 hC, ct_a6 hC, ct_a7 hC, ct_s0 hC, ct_s1 hC, ct_s2 hC, ct_s3 hC, ct_s4 hC, ct_s5 hC, ct_s6 hC, ct_s7 hC, cn_p hN, cn_m hN, cn_l hN, cn_t hN, e1, e2, h6, oI, oL, Option.elim, hk]
        · rw [argO_3 hs hg hk]
          simp (disch := omega) only [jb_some, jli, jif, jd_q, jd_K0, jpi_s, jpi_l, jpi_p, jpl_s, jpl_i, jpl_p, if_true, if_false, if_pos, if_neg, not_true_eq_false, not_false_eq_true, ite_true, ite_false, Nat.not_lt_zero, eq_self, Nat.le_refl, Nat.lt_irrefl, Bool.false_eq_true, or0, nI_add, nI_leI, nI_ltI, nI_eq, pk_mul, abs_nI, max_nI, min_nI, nI_m1, nI_m2, nI_le1, m1_lt, m2_lt, and_nI, or_nI, an_nI, has_nI, bit_nI, bc_nI, bits_nI, lx0, lx1, lx2, lx3, lx4, lx5, lx6, lx7, lx8, lx9, lx10, lx11, lx16, lx20, lx40, lx60, lx90, lx99, lx100, lx200, lx900, lx999, lx9999, jo_32 hW, jo_33 hW, jo_35 hW, jo_40 hW, jo_41 hW, jo_56 hW, jo_97 hW, jo_100 hW, jo_104 hW, jo_106 hW, jo_108 hW, ja_34 hW, ja_36 hW, ja_37 hW, ja_38 hW, ja_39 hW, ja_42 hW, ja_43 hW, ja_44 hW, ja_45 hW, ja_46 hW, ja_98 hW, ja_99 hW, ja_101 hW, ja_102 hW, ja_103 hW, wr_32_0 hW, wr_32_1 hW, wr_32_2 hW, wr_32_3 hW, wr_32_4 hW, wr_32_5 hW, wr_32_6 hW, wr_32_7 hW, wr_32_8 hW, wr_33_0 hW, wr_35_0 hW, wr_35_1 hW, wr_35_2 hW, wr_35_3 hW, wr_35_4 hW, wr_40_0 hW, wr_40_1 hW, wr_40_2 hW, wr_40_3 hW, wr_40_4 hW, wr_41_0 hW, wr_56_0 hW, wr_56_1 hW, wr_97_0 hW, wr_97_1 hW, wr_100_0 hW, wr_100_1 hW, wr_100_2 hW, wr_104_0 hW, wr_106_0 hW, joT hW hT, jaT1 hW hT, jaT2 hW hT, jaT3 hW hT, jaT4 hW hT, jaT5 hW hT, jaT6 hW hT, jaT7 hW hT, jaT8 hW hT, wrT0 hW hT, wrT1 hW hT, wrT2 hW hT, wrT3 hW hT, wrT4 hW hT, wrT5 hW hT, wrT6 hW hT, wrT7 hW hT, hS, ct_a0 hC, ct_a1 hC, ct_a2 hC, ct_a3 hC, ct_a4 hC, ct_a5 hC, ct_a6 hC, ct_a7 hC, ct_s0 hC, ct_s1 hC, ct_s2 hC, ct_s3 hC, ct_s4 hC, ct_s5 hC, ct_s6 hC, ct_s7 hC, cn_p hN, cn_m hN, cn_l hN, cn_t hN, e1, e2, h6, oI, oL, Option.elim, hk]
    · rw [Bool.not_eq_true] at h6
      have hs : nrC B N p i = none := by simp [nrC, h6]
      rw [argO_0 hs]
      simp (disch := omega) only [jb_some, jli, jif, jd_q, jd_K0, jpi_s, jpi_l, jpi_p, jpl_s, jpl_i, jpl_p, if_true, if_false, if_pos, if_neg, not_true_eq_false, not_false_eq_true, ite_true, ite_false, Nat.not_lt_zero, eq_self, Nat.le_refl, Nat.lt_irrefl, Bool.false_eq_true, or0, nI_add, nI_leI, nI_ltI, nI_eq, pk_mul, abs_nI, max_nI, min_nI, nI_m1, nI_m2, nI_le1, m1_lt, m2_lt, and_nI, or_nI, an_nI, has_nI, bit_nI, bc_nI, bits_nI, lx0, lx1, lx2, lx3, lx4, lx5, lx6, lx7, lx8, lx9, lx10, lx11, lx16, lx20, lx40, lx60, lx90, lx99, lx100, lx200, lx900, lx999, lx9999, jo_32 hW, jo_33 hW, jo_35 hW, jo_40 hW, jo_41 hW, jo_56 hW, jo_97 hW, jo_100 hW, jo_104 hW, jo_106 hW, jo_108 hW, ja_34 hW, ja_36 hW, ja_37 hW, ja_38 hW, ja_39 hW, ja_42 hW, ja_43 hW, ja_44 hW, ja_45 hW, ja_46 hW, ja_98 hW, ja_99 hW, ja_101 hW, ja_102 hW, ja_103 hW, wr_32_0 hW, wr_32_1 hW, wr_32_2 hW, wr_32_3 hW, wr_32_4 hW, wr_32_5 hW, wr_32_6 hW, wr_32_7 hW, wr_32_8 hW, wr_33_0 hW, wr_35_0 hW, wr_35_1 hW, wr_35_2 hW, wr_35_3 hW, wr_35_4 hW, wr_40_0 hW, wr_40_1 hW, wr_40_2 hW, wr_40_3 hW, wr_40_4 hW, wr_41_0 hW, wr_56_0 hW, wr_56_1 hW, wr_97_0 hW, wr_97_1 hW, wr_100_0 hW, wr_100_1 hW, wr_100_2 hW, wr_104_0 hW, wr_106_0 hW, joT hW hT, jaT1 hW hT, jaT2 hW hT, jaT3 hW hT, jaT4 hW hT, jaT5 hW hT, jaT6 hW hT, jaT7 hW hT, jaT8 hW hT, wrT0 hW hT, wrT1 hW hT, wrT2 hW hT, wrT3 hW hT, wrT4 hW hT, wrT5 hW hT, wrT6 hW hT, wrT7 hW hT, hS, ct_a0 hC, ct_a1 hC, ct_a2 hC, ct_a3 hC, ct_a4 hC, ct_a5 hC, ct_a6 hC, ct_a7 hC, ct_s0 hC, ct_s1 hC, ct_s2 hC, ct_s3 hC, ct_s4 hC, ct_s5 hC, ct_s6 hC, ct_s7 hC, cn_p hN, cn_m hN, cn_l hN, cn_t hN, e1, h6]
  · simp (disch := omega) only [jb_some, jli, jif, jd_q, jd_K0, jpi_s, jpi_l, jpi_p, jpl_s, jpl_i, jpl_p, if_true, if_false, if_pos, if_neg, not_true_eq_false, not_false_eq_true, ite_true, ite_false, Nat.not_lt_zero, eq_self, Nat.le_refl, Nat.lt_irrefl, Bool.false_eq_true, or0, nI_add, nI_leI, nI_ltI, nI_eq, pk_mul, abs_nI, max_nI, min_nI, nI_m1, nI_m2, nI_le1, m1_lt, m2_lt, and_nI, or_nI, an_nI, has_nI, bit_nI, bc_nI, bits_nI, lx0, lx1, lx2, lx3, lx4, lx5, lx6, lx7, lx8, lx9, lx10, lx11, lx16, lx20, lx40, lx60, lx90, lx99, lx100, lx200, lx900, lx999, lx9999, jo_32 hW, jo_33 hW, jo_35 hW, jo_40 hW, jo_41 hW, jo_56 hW, jo_97 hW, jo_100 hW, jo_104 hW, jo_106 hW, jo_108 hW, ja_34 hW, ja_36 hW, ja_37 hW, ja_38 hW, ja_39 hW, ja_42 hW, ja_43 hW, ja_44 hW, ja_45 hW, ja_46 hW, ja_98 hW, ja_99 hW, ja_101 hW, ja_102 hW, ja_103 hW, wr_32_0 hW, wr_32_1 hW, wr_32_2 hW, wr_32_3 hW, wr_32_4 hW, wr_32_5 hW, wr_32_6 hW, wr_32_7 hW, wr_32_8 hW, wr_33_0 hW, wr_35_0 hW, wr_35_1 hW, wr_35_2 hW, wr_35_3 hW, wr_35_4 hW, wr_40_0 hW, wr_40_1 hW, wr_40_2 hW, wr_40_3 hW, wr_40_4 hW, wr_41_0 hW, wr_56_0 hW, wr_56_1 hW, wr_97_0 hW, wr_97_1 hW, wr_100_0 hW, wr_100_1 hW, wr_100_2 hW, wr_104_0 hW, wr_106_0 hW, joT hW hT, jaT1 hW hT, jaT2 hW hT, jaT3 hW hT, jaT4 hW hT, jaT5 hW hT, jaT6 hW hT, jaT7 hW hT, jaT8 hW hT, wrT0 hW hT, wrT1 hW hT, wrT2 hW hT, wrT3 hW hT, wrT4 hW hT, wrT5 hW hT, wrT6 hW hT, wrT7 hW hT, hS, ct_a0 hC, ct_a1 hC, ct_a2 hC, ct_a3 hC, ct_a4 hC, ct_a5 hC, ct_a6 hC, ct_a7 hC, ct_s0 hC, ct_s1 hC, ct_s2 hC, ct_s3 hC, ct_s4 hC, ct_s5 hC, ct_s6 hC, ct_s7 hC, cn_p hN, cn_m hN, cn_l hN, cn_t hN]
    rfl
set_option maxHeartbeats 1000000 in
theorem x_isCovering (h : CX B N T σ) (hb : bOk B) {s : Nat} (hs : s < 64) : m_X6_isCovering 40 (nI s) σ = some (if covC B N s then nI 1 else nI 0, σ) := by
  have hh := h
  have hbb := hb
  obtain ⟨⟨hW, hT, hS, hC, hN⟩, hD⟩ := h
  obtain ⟨b1, b2, b3, b4, b5, b6, b7, b8, b9, b10, bp⟩ := hb
  unfold m_X6_isCovering
  rw [jlp_p (B 8 4) (fun i => ((nI (orN (fun q => if s.testBit q then reach B N q else 0) i), nI i) : Int32 × Int32)) (nI (cov B N s)) (jfu (by omega)) ?_ ?_ ?_]
  · have e1 := sinkers_64 hbb N
    have e2 := cov_64 hbb N s
    have e3 := and_64 (63 ^^^ cov B N s) e1
    unfold covC
    by_cases hc : sinkers B N &&& (63 ^^^ cov B N s) = 0
    · simp (disch := omega) only [jb_some, jli, jif, jd_q, jd_K0, jpi_s, jpi_l, jpi_p, jpl_s, jpl_i, jpl_p, if_true, if_false, if_pos, if_neg, not_true_eq_false, not_false_eq_true, ite_true, ite_false, Nat.not_lt_zero, eq_self, Nat.le_refl, Nat.lt_irrefl, Bool.false_eq_true, or0, nI_add, nI_leI, nI_ltI, nI_eq, pk_mul, abs_nI, max_nI, min_nI, nI_m1, nI_m2, nI_le1, m1_lt, m2_lt, and_nI, or_nI, an_nI, has_nI, bit_nI, bc_nI, bits_nI, lx0, lx1, lx2, lx3, lx4, lx5, lx6, lx7, lx8, lx9, lx10, lx11, lx16, lx20, lx40, lx60, lx90, lx99, lx100, lx200, lx900, lx999, lx9999, jo_32 hW, jo_33 hW, jo_35 hW, jo_40 hW, jo_41 hW, jo_56 hW, jo_97 hW, jo_100 hW, jo_104 hW, jo_106 hW, jo_108 hW, ja_34 hW, ja_36 hW, ja_37 hW, ja_38 hW, ja_39 hW, ja_42 hW, ja_43 hW, ja_44 hW, ja_45 hW, ja_46 hW, ja_98 hW, ja_99 hW, ja_101 hW, ja_102 hW, ja_103 hW, wr_32_0 hW, wr_32_1 hW, wr_32_2 hW, wr_32_3 hW, wr_32_4 hW, wr_32_5 hW, wr_32_6 hW, wr_32_7 hW, wr_32_8 hW, wr_33_0 hW, wr_35_0 hW, wr_35_1 hW, wr_35_2 hW, wr_35_3 hW, wr_35_4 hW, wr_40_0 hW, wr_40_1 hW, wr_40_2 hW, wr_40_3 hW, wr_40_4 hW, wr_41_0 hW, wr_56_0 hW, wr_56_1 hW, wr_97_0 hW, wr_97_1 hW, wr_100_0 hW, wr_100_1 hW, wr_100_2 hW, wr_104_0 hW, wr_106_0 hW, joT hW hT, jaT1 hW hT, jaT2 hW hT, jaT3 hW hT, jaT4 hW hT, jaT5 hW hT, jaT6 hW hT, jaT7 hW hT, jaT8 hW hT, wrT0 hW hT, wrT1 hW hT, wrT2 hW hT, wrT3 hW hT, wrT4 hW hT, wrT5 hW hT, wrT6 hW hT, wrT7 hW hT, hS, ct_a0 hC, ct_a1 hC, ct_a2 hC, ct_a3 hC, ct_a4 hC, ct_a5 hC, ct_a6 hC, ct_a7 hC, ct_s0 hC, ct_s1 hC, ct_s2 hC, ct_s3 hC, ct_s4 hC, ct_s5 hC, ct_s6 hC, ct_s7 hC, cn_p hN, cn_m hN, cn_l hN, cn_t hN, cd_n hD, cd_s hD, cd_r hD, cd_b hD, cd_c hD, hc, decide_true]
    · simp (disch := omega) only [jb_some, jli, jif, jd_q, jd_K0, jpi_s, jpi_l, jpi_p, jpl_s, jpl_i, jpl_p, if_true, if_false, if_pos, if_neg, not_true_eq_false, not_false_eq_true, ite_true, ite_false, Nat.not_lt_zero, eq_self, Nat.le_refl, Nat.lt_irrefl, Bool.false_eq_true, or0, nI_add, nI_leI, nI_ltI, nI_eq, pk_mul, abs_nI, max_nI, min_nI, nI_m1, nI_m2, nI_le1, m1_lt, m2_lt, and_nI, or_nI, an_nI, has_nI, bit_nI, bc_nI, bits_nI, lx0, lx1, lx2, lx3, lx4, lx5, lx6, lx7, lx8, lx9, lx10, lx11, lx16, lx20, lx40, lx60, lx90, lx99, lx100, lx200, lx900, lx999, lx9999, jo_32 hW, jo_33 hW, jo_35 hW, jo_40 hW, jo_41 hW, jo_56 hW, jo_97 hW, jo_100 hW, jo_104 hW, jo_106 hW, jo_108 hW, ja_34 hW, ja_36 hW, ja_37 hW, ja_38 hW, ja_39 hW, ja_42 hW, ja_43 hW, ja_44 hW, ja_45 hW, ja_46 hW, ja_98 hW, ja_99 hW, ja_101 hW, ja_102 hW, ja_103 hW, wr_32_0 hW, wr_32_1 hW, wr_32_2 hW, wr_32_3 hW, wr_32_4 hW, wr_32_5 hW, wr_32_6 hW, wr_32_7 hW, wr_32_8 hW, wr_33_0 hW, wr_35_0 hW, wr_35_1 hW, wr_35_2 hW, wr_35_3 hW, wr_35_4 hW, wr_40_0 hW, wr_40_1 hW, wr_40_2 hW, wr_40_3 hW, wr_40_4 hW, wr_41_0 hW, wr_56_0 hW, wr_56_1 hW, wr_97_0 hW, wr_97_1 hW, wr_100_0 hW, wr_100_1 hW, wr_100_2 hW, wr_104_0 hW, wr_106_0 hW, joT hW hT, jaT1 hW hT, jaT2 hW hT, jaT3 hW hT, jaT4 hW hT, jaT5 hW hT, jaT6 hW hT, jaT7 hW hT, jaT8 hW hT, wrT0 hW hT, wrT1 hW hT, wrT2 hW hT, wrT3 hW hT, wrT4 hW hT, wrT5 hW hT, wrT6 hW hT, wrT7 hW hT, hS, ct_a0 hC, ct_a1 hC, ct_a2 hC, ct_a3 hC, ct_a4 hC, ct_a5 hC, ct_a6 hC, ct_a7 hC, ct_s0 hC, ct_s1 hC, ct_s2 hC, ct_s3 hC, ct_s4 hC, ct_s5 hC, ct_s6 hC, ct_s7 hC, cn_p hN, cn_m hN, cn_l hN, cn_t hN, cd_n hD, cd_s hD, cd_r hD, cd_b hD, cd_c hD, hc, decide_false]
  · rfl
  · intro i hi
    have e3 := reach_64 hbb N i
    have e4 := orN_64 (f := fun q => if s.testBit q then reach B N q else 0) (fun q => by
      show (if s.testBit q then reach B N q else 0) < 64
      split
      · exact reach_64 hbb N q
      · decide) i
    by_cases h2 : s.testBit i = true
    · simp (disch := omega) only [jb_some, jli, jif, jd_q, jd_K0, jpi_s, jpi_l, jpi_p, jpl_s, jpl_i, jpl_p, if_true, if_false, if_pos, if_neg, not_true_eq_false, not_false_eq_true, ite_true, ite_false, Nat.not_lt_zero, eq_self, Nat.le_refl, Nat.lt_irrefl, Bool.false_eq_true, or0, nI_add, nI_leI, nI_ltI, nI_eq, pk_mul, abs_nI, max_nI, min_nI, nI_m1, nI_m2, nI_le1, m1_lt, m2_lt, and_nI, or_nI, an_nI, has_nI, bit_nI, bc_nI, bits_nI, lx0, lx1, lx2, lx3, lx4, lx5, lx6, lx7, lx8, lx9, lx10, lx11, lx16, lx20, lx40, lx60, lx90, lx99, lx100, lx200, lx900, lx999, lx9999, jo_32 hW, jo_33 hW, jo_35 hW, jo_40 hW, jo_41 hW, jo_56 hW, jo_97 hW, jo_100 hW, jo_104 hW, jo_106 hW, jo_108 hW, ja_34 hW, ja_36 hW, ja_37 hW, ja_38 hW, ja_39 hW, ja_42 hW, ja_43 hW, ja_44 hW, ja_45 hW, ja_46 hW, ja_98 hW, ja_99 hW, ja_101 hW, ja_102 hW, ja_103 hW, wr_32_0 hW, wr_32_1 hW, wr_32_2 hW, wr_32_3 hW, wr_32_4 hW, wr_32_5 hW, wr_32_6 hW, wr_32_7 hW, wr_32_8 hW, wr_33_0 hW, wr_35_0 hW, wr_35_1 hW, wr_35_2 hW, wr_35_3 hW, wr_35_4 hW, wr_40_0 hW, wr_40_1 hW, wr_40_2 hW, wr_40_3 hW, wr_40_4 hW, wr_41_0 hW, wr_56_0 hW, wr_56_1 hW, wr_97_0 hW, wr_97_1 hW, wr_100_0 hW, wr_100_1 hW, wr_100_2 hW, wr_104_0 hW, wr_106_0 hW, joT hW hT, jaT1 hW hT, jaT2 hW hT, jaT3 hW hT, jaT4 hW hT, jaT5 hW hT, jaT6 hW hT, jaT7 hW hT, jaT8 hW hT, wrT0 hW hT, wrT1 hW hT, wrT2 hW hT, wrT3 hW hT, wrT4 hW hT, wrT5 hW hT, wrT6 hW hT, wrT7 hW hT, hS, ct_a0 hC, ct_a1 hC, ct_a2 hC, ct_a3 hC, ct_a4 hC, ct_a5 hC, ct_a6 hC, ct_a7 hC, ct_s0 hC, ct_s1 hC, ct_s2 hC, ct_s3 hC, ct_s4 hC, ct_s5 hC, ct_s6 hC, ct_s7 hC, cn_p hN, cn_m hN, cn_l hN, cn_t hN, cd_n hD, cd_s hD, cd_r hD, cd_b hD, cd_c hD, h2, orN]
    · rw [Bool.not_eq_true] at h2
      simp (disch := omega) only [jb_some, jli, jif, jd_q, jd_K0, jpi_s, jpi_l, jpi_p, jpl_s, jpl_i, jpl_p, if_true, if_false, if_pos, if_neg, not_true_eq_false, not_false_eq_true, ite_true, ite_false, Nat.not_lt_zero, eq_self, Nat.le_refl, Nat.lt_irrefl, Bool.false_eq_true, or0, nI_add, nI_leI, nI_ltI, nI_eq, pk_mul, abs_nI, max_nI, min_nI, nI_m1, nI_m2, nI_le1, m1_lt, m2_lt, and_nI, or_nI, an_nI, has_nI, bit_nI, bc_nI, bits_nI, lx0, lx1, lx2, lx3, lx4, lx5, lx6, lx7, lx8, lx9, lx10, lx11, lx16, lx20, lx40, lx60, lx90, lx99, lx100, lx200, lx900, lx999, lx9999, jo_32 hW, jo_33 hW, jo_35 hW, jo_40 hW, jo_41 hW, jo_56 hW, jo_97 hW, jo_100 hW, jo_104 hW, jo_106 hW, jo_108 hW, ja_34 hW, ja_36 hW, ja_37 hW, ja_38 hW, ja_39 hW, ja_42 hW, ja_43 hW, ja_44 hW, ja_45 hW, ja_46 hW, ja_98 hW, ja_99 hW, ja_101 hW, ja_102 hW, ja_103 hW, wr_32_0 hW, wr_32_1 hW, wr_32_2 hW, wr_32_3 hW, wr_32_4 hW, wr_32_5 hW, wr_32_6 hW, wr_32_7 hW, wr_32_8 hW, wr_33_0 hW, wr_35_0 hW, wr_35_1 hW, wr_35_2 hW, wr_35_3 hW, wr_35_4 hW, wr_40_0 hW, wr_40_1 hW, wr_40_2 hW, wr_40_3 hW, wr_40_4 hW, wr_41_0 hW, wr_56_0 hW, wr_56_1 hW, wr_97_0 hW, wr_97_1 hW, wr_100_0 hW, wr_100_1 hW, wr_100_2 hW, wr_104_0 hW, wr_106_0 hW, joT hW hT, jaT1 hW hT, jaT2 hW hT, jaT3 hW hT, jaT4 hW hT, jaT5 hW hT, jaT6 hW hT, jaT7 hW hT, jaT8 hW hT, wrT0 hW hT, wrT1 hW hT, wrT2 hW hT, wrT3 hW hT, wrT4 hW hT, wrT5 hW hT, wrT6 hW hT, wrT7 hW hT, hS, ct_a0 hC, ct_a1 hC, ct_a2 hC, ct_a3 hC, ct_a4 hC, ct_a5 hC, ct_a6 hC, ct_a7 hC, ct_s0 hC, ct_s1 hC, ct_s2 hC, ct_s3 hC, ct_s4 hC, ct_s5 hC, ct_s6 hC, ct_s7 hC, cn_p hN, cn_m hN, cn_l hN, cn_t hN, cd_n hD, cd_s hD, cd_r hD, cd_b hD, cd_c hD, h2, orN, Nat.or_zero]
  · simp (disch := omega) only [jb_some, jli, jif, jd_q, jd_K0, jpi_s, jpi_l, jpi_p, jpl_s, jpl_i, jpl_p, if_true, if_false, if_pos, if_neg, not_true_eq_false, not_false_eq_true, ite_true, ite_false, Nat.not_lt_zero, eq_self, Nat.le_refl, Nat.lt_irrefl, Bool.false_eq_true, or0, nI_add, nI_leI, nI_ltI, nI_eq, pk_mul, abs_nI, max_nI, min_nI, nI_m1, nI_m2, nI_le1, m1_lt, m2_lt, and_nI, or_nI, an_nI, has_nI, bit_nI, bc_nI, bits_nI, lx0, lx1, lx2, lx3, lx4, lx5, lx6, lx7, lx8, lx9, lx10, lx11, lx16, lx20, lx40, lx60, lx90, lx99, lx100, lx200, lx900, lx999, lx9999, jo_32 hW, jo_33 hW, jo_35 hW, jo_40 hW, jo_41 hW, jo_56 hW, jo_97 hW, jo_100 hW, jo_104 hW, jo_106 hW, jo_108 hW, ja_34 hW, ja_36 hW, ja_37 hW, ja_38 hW, ja_39 hW, ja_42 hW, ja_43 hW, ja_44 hW, ja_45 hW, ja_46 hW, ja_98 hW, ja_99 hW, ja_101 hW, ja_102 hW, ja_103 hW, wr_32_0 hW, wr_32_1 hW, wr_32_2 hW, wr_32_3 hW, wr_32_4 hW, wr_32_5 hW, wr_32_6 hW, wr_32_7 hW, wr_32_8 hW, wr_33_0 hW, wr_35_0 hW, wr_35_1 hW, wr_35_2 hW, wr_35_3 hW, wr_35_4 hW, wr_40_0 hW, wr_40_1 hW, wr_40_2 hW, wr_40_3 hW, wr_40_4 hW, wr_41_0 hW, wr_56_0 hW, wr_56_1 hW, wr_97_0 hW, wr_97_1 hW, wr_100_0 hW, wr_100_1 hW, wr_100_2 hW, wr_104_0 hW, wr_106_0 hW, joT hW hT, jaT1 hW hT, jaT2 hW hT, jaT3 hW hT, jaT4 hW hT, jaT5 hW hT, jaT6 hW hT, jaT7 hW hT, jaT8 hW hT, wrT0 hW hT, wrT1 hW hT, wrT2 hW hT, wrT3 hW hT, wrT4 hW hT, wrT5 hW hT, wrT6 hW hT, wrT7 hW hT, hS, ct_a0 hC, ct_a1 hC, ct_a2 hC, ct_a3 hC, ct_a4 hC, ct_a5 hC, ct_a6 hC, ct_a7 hC, ct_s0 hC, ct_s1 hC, ct_s2 hC, ct_s3 hC, ct_s4 hC, ct_s5 hC, ct_s6 hC, ct_s7 hC, cn_p hN, cn_m hN, cn_l hN, cn_t hN]
    rfl
theorem pow5 {n : Nat} (h : n ≤ 5) : 2 ^ n ≤ 32 := Nat.pow_le_pow_right (n := 2) (j := 5) (by decide) h
set_option maxHeartbeats 1000000 in
theorem x_fewestPosts (h : CX B N T σ) (hb : bOk B) : m_X6_fewestPosts 40 σ = some (sI (argS (covC B N) (2 ^ B 8 4)), σ) := by
  have hh := h
  have hbb := hb
  obtain ⟨⟨hW, hT, hS, hC, hN⟩, hD⟩ := h
  obtain ⟨b1, b2, b3, b4, b5, b6, b7, b8, b9, b10, bp⟩ := hb
  have e0 := pow5 b3
  unfold m_X6_fewestPosts
  rw [jlp_p (2 ^ B 8 4) (fun i => ((sI (argS (covC B N) i), nI i) : Int32 × Int32)) (sI (argS (covC B N) (2 ^ B 8 4))) (jfu (by omega)) ?_ ?_ ?_]
  · rfl
  · rfl
  · intro i hi
    have e1 := x_isCovering hh hbb (s := i) (by omega)
    by_cases hc : covC B N i = true
    · rw [if_pos hc] at e1
      rcases hg : argS (covC B N) i with _ | b
      · have e2 : argS (covC B N) (i + 1) = some i := by simp [argS, hc, hg]
        rw [e2]
        simp (disch := omega) only [jb_some, jli, jif, jd_q, jd_K0, jpi_s, jpi_l, jpi_p, jpl_s, jpl_i, jpl_p, if_true, if_false, if_pos, if_neg, not_true_eq_false, not_false_eq_true, ite_true, ite_false, Nat.not_lt_zero, eq_self, Nat.le_refl, Nat.lt_irrefl, Bool.false_eq_true, or0, nI_add, nI_leI, nI_ltI, nI_eq, pk_mul, abs_nI, max_nI, min_nI, nI_m1, nI_m2, nI_le1, m1_lt, m2_lt, and_nI, or_nI, an_nI, has_nI, bit_nI, bc_nI, bits_nI, lx0, lx1, lx2, lx3, lx4, lx5, lx6, lx7, lx8, lx9, lx10, lx11, lx16, lx20, lx40, lx60, lx90, lx99, lx100, lx200, lx900, lx999, lx9999, jo_32 hW, jo_33 hW, jo_35 hW, jo_40 hW, jo_41 hW, jo_56 hW, jo_97 hW, jo_100 hW, jo_104 hW, jo_106 hW, jo_108 hW, ja_34 hW, ja_36 hW, ja_37 hW, ja_38 hW, ja_39 hW, ja_42 hW, ja_43 hW, ja_44 hW, ja_45 hW, ja_46 hW, ja_98 hW, ja_99 hW, ja_101 hW, ja_102 hW, ja_103 hW, wr_32_0 hW, wr_32_1 hW, wr_32_2 hW, wr_32_3 hW, wr_32_4 hW, wr_32_5 hW, wr_32_6 hW, wr_32_7 hW, wr_32_8 hW, wr_33_0 hW, wr_35_0 hW, wr_35_1 hW, wr_35_2 hW, wr_35_3 hW, wr_35_4 hW, wr_40_0 hW, wr_40_1 hW, wr_40_2 hW, wr_40_3 hW, wr_40_4 hW, wr_41_0 hW, wr_56_0 hW, wr_56_1 hW, wr_97_0 hW, wr_97_1 hW, wr_100_0 hW, wr_100_1 hW, wr_100_2 hW, wr_104_0 hW, wr_106_0 hW, joT hW hT, jaT1 hW hT, jaT2 hW hT, jaT3 hW hT, jaT4 hW hT, jaT5 hW hT, jaT6 hW hT, jaT7 hW hT, jaT8 hW hT, wrT0 hW hT, wrT1 hW hT, wrT2 hW hT, wrT3 hW hT, wrT4 hW hT, wrT5 hW hT, wrT6 hW hT, wrT7 hW hT, hS, ct_a0 hC, ct_a1 hC, ct_a2 hC, ct_a3 hC, ct_a4 hC, ct_a5 hC, ct_a6 hC, ct_a7 hC, ct_s0 hC, ct_s1 hC, ct_s2 hC, ct_s3 hC, ct_s4 hC, ct_s5 hC, ct_s6 hC, ct_s7 hC, cn_p hN, cn_m hN, cn_l hN, cn_t hN, e1, sh_nI, sI, Option.elim]
      · have e3 := argS_lt hg
        have e4 := pc_le i
        have e5 := pc_le b
        by_cases hk : pc b ≤ pc i
        · have e2 : argS (covC B N) (i + 1) = some b := by simp [argS, hc, hg, hk]
          rw [e2]
          simp (disch := omega) only [jb_some, jli, jif, jd_q, jd_K0, jpi_s, jpi_l, jpi_p, jpl_s, jpl_i, jpl_p, if_true, if_false, if_pos, if_neg, not_true_eq_false, not_false_eq_true, ite_true, ite_false, Nat.not_lt_zero, eq_self, Nat.le_refl, Nat.lt_irrefl, Bool.false_eq_true, or0, nI_add, nI_leI, nI_ltI, nI_eq, pk_mul, abs_nI, max_nI, min_nI, nI_m1, nI_m2, nI_le1, m1_lt, m2_lt, and_nI, or_nI, an_nI, has_nI, bit_nI, bc_nI, bits_nI, lx0, lx1, lx2, lx3, lx4, lx5, lx6, lx7, lx8, lx9, lx10, lx11, lx16, lx20, lx40, lx60, lx90, lx99, lx100, lx200, lx900, lx999, lx9999, jo_32 hW, jo_33 hW, jo_35 hW, jo_40 hW, jo_41 hW, jo_56 hW, jo_97 hW, jo_100 hW, jo_104 hW, jo_106 hW, jo_108 hW, ja_34 hW, ja_36 hW, ja_37 hW, ja_38 hW, ja_39 hW, ja_42 hW, ja_43 hW, ja_44 hW, ja_45 hW, ja_46 hW, ja_98 hW, ja_99 hW, ja_101 hW, ja_102 hW, ja_103 hW, wr_32_0 hW, wr_32_1 hW, wr_32_2 hW, wr_32_3 hW, wr_32_4 hW, wr_32_5 hW, wr_32_6 hW, wr_32_7 hW, wr_32_8 hW, wr_33_0 hW, wr_35_0 hW, wr_35_1 hW, wr_35_2 hW, wr_35_3 hW, wr_35_4 hW, wr_40_0 hW, wr_40_1 hW, wr_40_2 hW, wr_40_3 hW, wr_40_4 hW, wr_41_0 hW, wr_56_0 hW, wr_56_1 hW, wr_97_0 hW, wr_97_1 hW, wr_100_0 hW, wr_100_1 hW, wr_100_2 hW, wr_104_0 hW, wr_106_0 hW, joT hW hT, jaT1 hW hT, jaT2 hW hT, jaT3 hW hT, jaT4 hW hT, jaT5 hW hT, jaT6 hW hT, jaT7 hW hT, jaT8 hW hT, wrT0 hW hT, wrT1 hW hT, wrT2 hW hT, wrT3 hW hT, wrT4 hW hT, wrT5 hW hT, wrT6 hW hT, wrT7 hW hT, hS, ct_a0 hC, ct_a1 hC, ct_a2 hC, ct_a3 hC, ct_a4 hC, ct_a5 hC, ct_a6 hC, ct_a7 hC, ct_s0 hC, ct_s1 hC, ct_s2 hC, ct_s3 hC, ct_s4 hC, ct_s5 hC, ct_s6 hC, ct_s7 hC, cn_p hN, cn_m hN, cn_l hN, cn_t hN, e1, sh_nI, sI, Option.elim, hk]
        · have e2 : argS (covC B N) (i + 1) = some i := by simp [argS, hc, hg, hk]
          rw [e2]
          simp (disch := omega) only [jb_some, jli, jif, jd_q, jd_K0, jpi_s, jpi_l, jpi_p, jpl_s, jpl_i, jpl_p, if_true, if_false, if_pos, if_neg, not_true_eq_false, not_false_eq_true, ite_true, ite_false, Nat.not_lt_zero, eq_self, Nat.le_refl, Nat.lt_irrefl, Bool.false_eq_true, or0, nI_add, nI_leI, nI_ltI, nI_eq, pk_mul, abs_nI, max_nI, min_nI, nI_m1, nI_m2, nI_le1, m1_lt, m2_lt, and_nI, or_nI, an_nI, has_nI, bit_nI, bc_nI, bits_nI, lx0, lx1, lx2, lx3, lx4, lx5, lx6, lx7, lx8, lx9, lx10, lx11, lx16, lx20, lx40, lx60, lx90, lx99, lx100, lx200, lx900, lx999, lx9999, jo_32 hW, jo_33 hW, jo_35 hW, jo_40 hW, jo_41 hW, jo_56 hW, jo_97 hW, jo_100 hW, jo_104 hW, jo_106 hW, jo_108 hW, ja_34 hW, ja_36 hW, ja_37 hW, ja_38 hW, ja_39 hW, ja_42 hW, ja_43 hW, ja_44 hW, ja_45 hW, ja_46 hW, ja_98 hW, ja_99 hW, ja_101 hW, ja_102 hW, ja_103 hW, wr_32_0 hW, wr_32_1 hW, wr_32_2 hW, wr_32_3 hW, wr_32_4 hW, wr_32_5 hW, wr_32_6 hW, wr_32_7 hW, wr_32_8 hW, wr_33_0 hW, wr_35_0 hW, wr_35_1 hW, wr_35_2 hW, wr_35_3 hW, wr_35_4 hW, wr_40_0 hW, wr_40_1 hW, wr_40_2 hW, wr_40_3 hW, wr_40_4 hW, wr_41_0 hW, wr_56_0 hW, wr_56_1 hW, wr_97_0 hW, wr_97_1 hW, wr_100_0 hW, wr_100_1 hW, wr_100_2 hW, wr_104_0 hW, wr_106_0 hW, joT hW hT, jaT1 hW hT, jaT2 hW hT, jaT3 hW hT, jaT4 hW hT, jaT5 hW hT, jaT6 hW hT, jaT7 hW hT, jaT8 hW hT, wrT0 hW hT, wrT1 hW hT, wrT2 hW hT, wrT3 hW hT, wrT4 hW hT, wrT5 hW hT, wrT6 hW hT, wrT7 hW hT, hS, ct_a0 hC, ct_a1 hC, ct_a2 hC, ct_a3 hC, ct_a4 hC, ct_a5 hC, ct_a6 hC, ct_a7 hC, ct_s0 hC, ct_s1 hC, ct_s2 hC, ct_s3 hC, ct_s4 hC, ct_s5 hC, ct_s6 hC, ct_s7 hC, cn_p hN, cn_m hN, cn_l hN, cn_t hN, e1, sh_nI, sI, Option.elim, hk]
    · rw [if_neg hc] at e1
      have e2 : argS (covC B N) (i + 1) = argS (covC B N) i := by simp [argS, hc]
      rw [e2]
      simp (disch := omega) only [jb_some, jli, jif, jd_q, jd_K0, jpi_s, jpi_l, jpi_p, jpl_s, jpl_i, jpl_p, if_true, if_false, if_pos, if_neg, not_true_eq_false, not_false_eq_true, ite_true, ite_false, Nat.not_lt_zero, eq_self, Nat.le_refl, Nat.lt_irrefl, Bool.false_eq_true, or0, nI_add, nI_leI, nI_ltI, nI_eq, pk_mul, abs_nI, max_nI, min_nI, nI_m1, nI_m2, nI_le1, m1_lt, m2_lt, and_nI, or_nI, an_nI, has_nI, bit_nI, bc_nI, bits_nI, lx0, lx1, lx2, lx3, lx4, lx5, lx6, lx7, lx8, lx9, lx10, lx11, lx16, lx20, lx40, lx60, lx90, lx99, lx100, lx200, lx900, lx999, lx9999, jo_32 hW, jo_33 hW, jo_35 hW, jo_40 hW, jo_41 hW, jo_56 hW, jo_97 hW, jo_100 hW, jo_104 hW, jo_106 hW, jo_108 hW, ja_34 hW, ja_36 hW, ja_37 hW, ja_38 hW, ja_39 hW, ja_42 hW, ja_43 hW, ja_44 hW, ja_45 hW, ja_46 hW, ja_98 hW, ja_99 hW, ja_101 hW, ja_102 hW, ja_103 hW, wr_32_0 hW, wr_32_1 hW, wr_32_2 hW, wr_32_3 hW, wr_32_4 hW, wr_32_5 hW, wr_32_6 hW, wr_32_7 hW, wr_32_8 hW, wr_33_0 hW, wr_35_0 hW, wr_35_1 hW, wr_35_2 hW, wr_35_3 hW, wr_35_4 hW, wr_40_0 hW, wr_40_1 hW, wr_40_2 hW, wr_40_3 hW, wr_40_4 hW, wr_41_0 hW, wr_56_0 hW, wr_56_1 hW, wr_97_0 hW, wr_97_1 hW, wr_100_0 hW, wr_100_1 hW, wr_100_2 hW, wr_104_0 hW, wr_106_0 hW, joT hW hT, jaT1 hW hT, jaT2 hW hT, jaT3 hW hT, jaT4 hW hT, jaT5 hW hT, jaT6 hW hT, jaT7 hW hT, jaT8 hW hT, wrT0 hW hT, wrT1 hW hT, wrT2 hW hT, wrT3 hW hT, wrT4 hW hT, wrT5 hW hT, wrT6 hW hT, wrT7 hW hT, hS, ct_a0 hC, ct_a1 hC, ct_a2 hC, ct_a3 hC, ct_a4 hC, ct_a5 hC, ct_a6 hC, ct_a7 hC, ct_s0 hC, ct_s1 hC, ct_s2 hC, ct_s3 hC, ct_s4 hC, ct_s5 hC, ct_s6 hC, ct_s7 hC, cn_p hN, cn_m hN, cn_l hN, cn_t hN, e1, sh_nI]
  · simp (disch := omega) only [jb_some, jli, jif, jd_q, jd_K0, jpi_s, jpi_l, jpi_p, jpl_s, jpl_i, jpl_p, if_true, if_false, if_pos, if_neg, not_true_eq_false, not_false_eq_true, ite_true, ite_false, Nat.not_lt_zero, eq_self, Nat.le_refl, Nat.lt_irrefl, Bool.false_eq_true, or0, nI_add, nI_leI, nI_ltI, nI_eq, pk_mul, abs_nI, max_nI, min_nI, nI_m1, nI_m2, nI_le1, m1_lt, m2_lt, and_nI, or_nI, an_nI, has_nI, bit_nI, bc_nI, bits_nI, lx0, lx1, lx2, lx3, lx4, lx5, lx6, lx7, lx8, lx9, lx10, lx11, lx16, lx20, lx40, lx60, lx90, lx99, lx100, lx200, lx900, lx999, lx9999, jo_32 hW, jo_33 hW, jo_35 hW, jo_40 hW, jo_41 hW, jo_56 hW, jo_97 hW, jo_100 hW, jo_104 hW, jo_106 hW, jo_108 hW, ja_34 hW, ja_36 hW, ja_37 hW, ja_38 hW, ja_39 hW, ja_42 hW, ja_43 hW, ja_44 hW, ja_45 hW, ja_46 hW, ja_98 hW, ja_99 hW, ja_101 hW, ja_102 hW, ja_103 hW, wr_32_0 hW, wr_32_1 hW, wr_32_2 hW, wr_32_3 hW, wr_32_4 hW, wr_32_5 hW, wr_32_6 hW, wr_32_7 hW, wr_32_8 hW, wr_33_0 hW, wr_35_0 hW, wr_35_1 hW, wr_35_2 hW, wr_35_3 hW, wr_35_4 hW, wr_40_0 hW, wr_40_1 hW, wr_40_2 hW, wr_40_3 hW, wr_40_4 hW, wr_41_0 hW, wr_56_0 hW, wr_56_1 hW, wr_97_0 hW, wr_97_1 hW, wr_100_0 hW, wr_100_1 hW, wr_100_2 hW, wr_104_0 hW, wr_106_0 hW, joT hW hT, jaT1 hW hT, jaT2 hW hT, jaT3 hW hT, jaT4 hW hT, jaT5 hW hT, jaT6 hW hT, jaT7 hW hT, jaT8 hW hT, wrT0 hW hT, wrT1 hW hT, wrT2 hW hT, wrT3 hW hT, wrT4 hW hT, wrT5 hW hT, wrT6 hW hT, wrT7 hW hT, hS, ct_a0 hC, ct_a1 hC, ct_a2 hC, ct_a3 hC, ct_a4 hC, ct_a5 hC, ct_a6 hC, ct_a7 hC, ct_s0 hC, ct_s1 hC, ct_s2 hC, ct_s3 hC, ct_s4 hC, ct_s5 hC, ct_s6 hC, ct_s7 hC, cn_p hN, cn_m hN, cn_l hN, cn_t hN, sh_nI]
set_option maxHeartbeats 1000000 in
theorem x_coveringSets (h : CX B N T σ) (hb : bOk B) : m_X6_coveringSets 40 σ = some (nI (cnt (covC B N) (2 ^ B 8 4)), σ) := by
  have hh := h
  have hbb := hb
  obtain ⟨⟨hW, hT, hS, hC, hN⟩, hD⟩ := h
  obtain ⟨b1, b2, b3, b4, b5, b6, b7, b8, b9, b10, bp⟩ := hb
  have e0 := pow5 b3
  unfold m_X6_coveringSets
  rw [jlp_p (2 ^ B 8 4) (fun i => ((nI (cnt (covC B N) i), nI i) : Int32 × Int32)) (nI (cnt (covC B N) (2 ^ B 8 4))) (jfu (by omega)) ?_ ?_ ?_]
  · rfl
  · rfl
  · intro i hi
    have e1 := x_isCovering hh hbb (s := i) (by omega)
    by_cases hc : covC B N i = true
    · rw [if_pos hc] at e1
      rw [cnt_t hc]
      simp (disch := omega) only [jb_some, jli, jif, jd_q, jd_K0, jpi_s, jpi_l, jpi_p, jpl_s, jpl_i, jpl_p, if_true, if_false, if_pos, if_neg, not_true_eq_false, not_false_eq_true, ite_true, ite_false, Nat.not_lt_zero, eq_self, Nat.le_refl, Nat.lt_irrefl, Bool.false_eq_true, or0, nI_add, nI_leI, nI_ltI, nI_eq, pk_mul, abs_nI, max_nI, min_nI, nI_m1, nI_m2, nI_le1, m1_lt, m2_lt, and_nI, or_nI, an_nI, has_nI, bit_nI, bc_nI, bits_nI, lx0, lx1, lx2, lx3, lx4, lx5, lx6, lx7, lx8, lx9, lx10, lx11, lx16, lx20, lx40, lx60, lx90, lx99, lx100, lx200, lx900, lx999, lx9999, jo_32 hW, jo_33 hW, jo_35 hW, jo_40 hW, jo_41 hW, jo_56 hW, jo_97 hW, jo_100 hW, jo_104 hW, jo_106 hW, jo_108 hW, ja_34 hW, ja_36 hW, ja_37 hW, ja_38 hW, ja_39 hW, ja_42 hW, ja_43 hW, ja_44 hW, ja_45 hW, ja_46 hW, ja_98 hW, ja_99 hW, ja_101 hW, ja_102 hW, ja_103 hW, wr_32_0 hW, wr_32_1 hW, wr_32_2 hW, wr_32_3 hW, wr_32_4 hW, wr_32_5 hW, wr_32_6 hW, wr_32_7 hW, wr_32_8 hW, wr_33_0 hW, wr_35_0 hW, wr_35_1 hW, wr_35_2 hW, wr_35_3 hW, wr_35_4 hW, wr_40_0 hW, wr_40_1 hW, wr_40_2 hW, wr_40_3 hW, wr_40_4 hW, wr_41_0 hW, wr_56_0 hW, wr_56_1 hW, wr_97_0 hW, wr_97_1 hW, wr_100_0 hW, wr_100_1 hW, wr_100_2 hW, wr_104_0 hW, wr_106_0 hW, joT hW hT, jaT1 hW hT, jaT2 hW hT, jaT3 hW hT, jaT4 hW hT, jaT5 hW hT, jaT6 hW hT, jaT7 hW hT, jaT8 hW hT, wrT0 hW hT, wrT1 hW hT, wrT2 hW hT, wrT3 hW hT, wrT4 hW hT, wrT5 hW hT, wrT6 hW hT, wrT7 hW hT, hS, ct_a0 hC, ct_a1 hC, ct_a2 hC, ct_a3 hC, ct_a4 hC, ct_a5 hC, ct_a6 hC, ct_a7 hC, ct_s0 hC, ct_s1 hC, ct_s2 hC, ct_s3 hC, ct_s4 hC, ct_s5 hC, ct_s6 hC, ct_s7 hC, cn_p hN, cn_m hN, cn_l hN, cn_t hN, e1, sh_nI]
    · rw [if_neg hc] at e1
      rw [Bool.not_eq_true] at hc
      rw [cnt_f hc]
      simp (disch := omega) only [jb_some, jli, jif, jd_q, jd_K0, jpi_s, jpi_l, jpi_p, jpl_s, jpl_i, jpl_p, if_true, if_false, if_pos, if_neg, not_true_eq_false, not_false_eq_true, ite_true, ite_false, Nat.not_lt_zero, eq_self, Nat.le_refl, Nat.lt_irrefl, Bool.false_eq_true, or0, nI_add, nI_leI, nI_ltI, nI_eq, pk_mul, abs_nI, max_nI, min_nI, nI_m1, nI_m2, nI_le1, m1_lt, m2_lt, and_nI, or_nI, an_nI, has_nI, bit_nI, bc_nI, bits_nI, lx0, lx1, lx2, lx3, lx4, lx5, lx6, lx7, lx8, lx9, lx10, lx11, lx16, lx20, lx40, lx60, lx90, lx99, lx100, lx200, lx900, lx999, lx9999, jo_32 hW, jo_33 hW, jo_35 hW, jo_40 hW, jo_41 hW, jo_56 hW, jo_97 hW, jo_100 hW, jo_104 hW, jo_106 hW, jo_108 hW, ja_34 hW, ja_36 hW, ja_37 hW, ja_38 hW, ja_39 hW, ja_42 hW, ja_43 hW, ja_44 hW, ja_45 hW, ja_46 hW, ja_98 hW, ja_99 hW, ja_101 hW, ja_102 hW, ja_103 hW, wr_32_0 hW, wr_32_1 hW, wr_32_2 hW, wr_32_3 hW, wr_32_4 hW, wr_32_5 hW, wr_32_6 hW, wr_32_7 hW, wr_32_8 hW, wr_33_0 hW, wr_35_0 hW, wr_35_1 hW, wr_35_2 hW, wr_35_3 hW, wr_35_4 hW, wr_40_0 hW, wr_40_1 hW, wr_40_2 hW, wr_40_3 hW, wr_40_4 hW, wr_41_0 hW, wr_56_0 hW, wr_56_1 hW, wr_97_0 hW, wr_97_1 hW, wr_100_0 hW, wr_100_1 hW, wr_100_2 hW, wr_104_0 hW, wr_106_0 hW, joT hW hT, jaT1 hW hT, jaT2 hW hT, jaT3 hW hT, jaT4 hW hT, jaT5 hW hT, jaT6 hW hT, jaT7 hW hT, jaT8 hW hT, wrT0 hW hT, wrT1 hW hT, wrT2 hW hT, wrT3 hW hT, wrT4 hW hT, wrT5 hW hT, wrT6 hW hT, wrT7 hW hT, hS, ct_a0 hC, ct_a1 hC, ct_a2 hC, ct_a3 hC, ct_a4 hC, ct_a5 hC, ct_a6 hC, ct_a7 hC, ct_s0 hC, ct_s1 hC, ct_s2 hC, ct_s3 hC, ct_s4 hC, ct_s5 hC, ct_s6 hC, ct_s7 hC, cn_p hN, cn_m hN, cn_l hN, cn_t hN, e1, sh_nI]
  · simp (disch := omega) only [jb_some, jli, jif, jd_q, jd_K0, jpi_s, jpi_l, jpi_p, jpl_s, jpl_i, jpl_p, if_true, if_false, if_pos, if_neg, not_true_eq_false, not_false_eq_true, ite_true, ite_false, Nat.not_lt_zero, eq_self, Nat.le_refl, Nat.lt_irrefl, Bool.false_eq_true, or0, nI_add, nI_leI, nI_ltI, nI_eq, pk_mul, abs_nI, max_nI, min_nI, nI_m1, nI_m2, nI_le1, m1_lt, m2_lt, and_nI, or_nI, an_nI, has_nI, bit_nI, bc_nI, bits_nI, lx0, lx1, lx2, lx3, lx4, lx5, lx6, lx7, lx8, lx9, lx10, lx11, lx16, lx20, lx40, lx60, lx90, lx99, lx100, lx200, lx900, lx999, lx9999, jo_32 hW, jo_33 hW, jo_35 hW, jo_40 hW, jo_41 hW, jo_56 hW, jo_97 hW, jo_100 hW, jo_104 hW, jo_106 hW, jo_108 hW, ja_34 hW, ja_36 hW, ja_37 hW, ja_38 hW, ja_39 hW, ja_42 hW, ja_43 hW, ja_44 hW, ja_45 hW, ja_46 hW, ja_98 hW, ja_99 hW, ja_101 hW, ja_102 hW, ja_103 hW, wr_32_0 hW, wr_32_1 hW, wr_32_2 hW, wr_32_3 hW, wr_32_4 hW, wr_32_5 hW, wr_32_6 hW, wr_32_7 hW, wr_32_8 hW, wr_33_0 hW, wr_35_0 hW, wr_35_1 hW, wr_35_2 hW, wr_35_3 hW, wr_35_4 hW, wr_40_0 hW, wr_40_1 hW, wr_40_2 hW, wr_40_3 hW, wr_40_4 hW, wr_41_0 hW, wr_56_0 hW, wr_56_1 hW, wr_97_0 hW, wr_97_1 hW, wr_100_0 hW, wr_100_1 hW, wr_100_2 hW, wr_104_0 hW, wr_106_0 hW, joT hW hT, jaT1 hW hT, jaT2 hW hT, jaT3 hW hT, jaT4 hW hT, jaT5 hW hT, jaT6 hW hT, jaT7 hW hT, jaT8 hW hT, wrT0 hW hT, wrT1 hW hT, wrT2 hW hT, wrT3 hW hT, wrT4 hW hT, wrT5 hW hT, wrT6 hW hT, wrT7 hW hT, hS, ct_a0 hC, ct_a1 hC, ct_a2 hC, ct_a3 hC, ct_a4 hC, ct_a5 hC, ct_a6 hC, ct_a7 hC, ct_s0 hC, ct_s1 hC, ct_s2 hC, ct_s3 hC, ct_s4 hC, ct_s5 hC, ct_s6 hC, ct_s7 hC, cn_p hN, cn_m hN, cn_l hN, cn_t hN, sh_nI]
set_option maxHeartbeats 1000000 in
theorem x_postOfMostMore (h : CX B N T σ) (hb : bOk B) : m_X6_postOfMostMore 40 σ = some (oI (argP (moreF B N) (B 8 4)), σ) := by
  have hh := h
  have hbb := hb
  obtain ⟨⟨hW, hT, hS, hC, hN⟩, hD⟩ := h
  obtain ⟨b1, b2, b3, b4, b5, b6, b7, b8, b9, b10, bp⟩ := hb
  unfold m_X6_postOfMostMore
  rw [jlp_p (B 8 4) (fun i => ((oI (argP (moreF B N) i), nI ((argP (moreF B N) i).elim 0 Prod.snd), nI i) : Int32 × Int32 × Int32)) (oI (argP (moreF B N) (B 8 4))) (jfu (by omega)) ?_ ?_ ?_]
  · rfl
  · rfl
  · intro i hi
    have e1 := sinkers_64 hbb N
    have e2 := reach_64 hbb N i
    have e3 := cov_64 hbb N (N 6)
    have e4 := and_64 (reach B N i) e1
    have e5 := and_64 (63 ^^^ cov B N (N 6)) e4
    have e6 : pc ((sinkers B N &&& reach B N i) &&& (63 ^^^ cov B N (N 6))) = moreF B N i := rfl
    have e7 : moreF B N i ≤ 6 := pc_le _
    have e8 := argP_le (f := moreF B N) (m := 6) (fun i => pc_le _) i
    by_cases hk : moreF B N i ≤ (argP (moreF B N) i).elim 0 Prod.snd
    · rw [argP_t hk]
      simp (disch := omega) only [jb_some, jli, jif, jd_q, jd_K0, jpi_s, jpi_l, jpi_p, jpl_s, jpl_i, jpl_p, if_true, if_false, if_pos, if_neg, not_true_eq_false, not_false_eq_true, ite_true, ite_false, Nat.not_lt_zero, eq_self, Nat.le_refl, Nat.lt_irrefl, Bool.false_eq_true, or0, nI_add, nI_leI, nI_ltI, nI_eq, pk_mul, abs_nI, max_nI, min_nI, nI_m1, nI_m2, nI_le1, m1_lt, m2_lt, and_nI, or_nI, an_nI, has_nI, bit_nI, bc_nI, bits_nI, lx0, lx1, lx2, lx3, lx4, lx5, lx6, lx7, lx8, lx9, lx10, lx11, lx16, lx20, lx40, lx60, lx90, lx99, lx100, lx200, lx900, lx999, lx9999, jo_32 hW, jo_33 hW, jo_35 hW, jo_40 hW, jo_41 hW, jo_56 hW, jo_97 hW, jo_100 hW, jo_104 hW, jo_106 hW, jo_108 hW, ja_34 hW, ja_36 hW, ja_37 hW, ja_38 hW, ja_39 hW, ja_42 hW, ja_43 hW, ja_44 hW, ja_45 hW, ja_46 hW, ja_98 hW, ja_99 hW, ja_101 hW, ja_102 hW, ja_103 hW, wr_32_0 hW, wr_32_1 hW, wr_32_2 hW, wr_32_3 hW, wr_32_4 hW, wr_32_5 hW, wr_32_6 hW, wr_32_7 hW, wr_32_8 hW, wr_33_0 hW, wr_35_0 hW, wr_35_1 hW, wr_35_2 hW, wr_35_3 hW, wr_35_4 hW, wr_40_0 hW, wr_40_1 hW, wr_40_2 hW, wr_40_3 hW, wr_40_4 hW, wr_41_0 hW, wr_56_0 hW, wr_56_1 hW, wr_97_0 hW, wr_97_1 hW, wr_100_0 hW, wr_100_1 hW, wr_100_2 hW, wr_104_0 hW, wr_106_0 hW, joT hW hT, jaT1 hW hT, jaT2 hW hT, jaT3 hW hT, jaT4 hW hT, jaT5 hW hT, jaT6 hW hT, jaT7 hW hT, jaT8 hW hT, wrT0 hW hT, wrT1 hW hT, wrT2 hW hT, wrT3 hW hT, wrT4 hW hT, wrT5 hW hT, wrT6 hW hT, wrT7 hW hT, hS, ct_a0 hC, ct_a1 hC, ct_a2 hC, ct_a3 hC, ct_a4 hC, ct_a5 hC, ct_a6 hC, ct_a7 hC, ct_s0 hC, ct_s1 hC, ct_s2 hC, ct_s3 hC, ct_s4 hC, ct_s5 hC, ct_s6 hC, ct_s7 hC, cn_p hN, cn_m hN, cn_l hN, cn_t hN, cd_n hD, cd_s hD, cd_r hD, cd_b hD, cd_c hD, e6, hk]
    · rw [argP_f hk]
      simp (disch := omega) only [jb_some, jli, jif, jd_q, jd_K0, jpi_s, jpi_l, jpi_p, jpl_s, jpl_i, jpl_p, if_true, if_false, if_pos, if_neg, not_true_eq_false, not_false_eq_true, ite_true, ite_false, Nat.not_lt_zero, eq_self, Nat.le_refl, Nat.lt_irrefl, Bool.false_eq_true, or0, nI_add, nI_leI, nI_ltI, nI_eq, pk_mul, abs_nI, max_nI, min_nI, nI_m1, nI_m2, nI_le1, m1_lt, m2_lt, and_nI, or_nI, an_nI, has_nI, bit_nI, bc_nI, bits_nI, lx0, lx1, lx2, lx3, lx4, lx5, lx6, lx7, lx8, lx9, lx10, lx11, lx16, lx20, lx40, lx60, lx90, lx99, lx100, lx200, lx900, lx999, lx9999, jo_32 hW, jo_33 hW, jo_35 hW, jo_40 hW, jo_41 hW, jo_56 hW, jo_97 hW, jo_100 hW, jo_104 hW, jo_106 hW, jo_108 hW, ja_34 hW, ja_36 hW, ja_37 hW, ja_38 hW, ja_39 hW, ja_42 hW, ja_43 hW, ja_44 hW, ja_45 hW, ja_46 hW, ja_98 hW, ja_99 hW, ja_101 hW, ja_102 hW, ja_103 hW, wr_32_0 hW, wr_32_1 hW, wr_32_2 hW, wr_32_3 hW, wr_32_4 hW, wr_32_5 hW, wr_32_6 hW, wr_32_7 hW, wr_32_8 hW, wr_33_0 hW, wr_35_0 hW, wr_35_1 hW, wr_35_2 hW, wr_35_3 hW, wr_35_4 hW, wr_40_0 hW, wr_40_1 hW, wr_40_2 hW, wr_40_3 hW, wr_40_4 hW, wr_41_0 hW, wr_56_0 hW, wr_56_1 hW, wr_97_0 hW, wr_97_1 hW, wr_100_0 hW, wr_100_1 hW, wr_100_2 hW, wr_104_0 hW, wr_106_0 hW, joT hW hT, jaT1 hW hT, jaT2 hW hT, jaT3 hW hT, jaT4 hW hT, jaT5 hW hT, jaT6 hW hT, jaT7 hW hT, jaT8 hW hT, wrT0 hW hT, wrT1 hW hT, wrT2 hW hT, wrT3 hW hT, wrT4 hW hT, wrT5 hW hT, wrT6 hW hT, wrT7 hW hT, hS, ct_a0 hC, ct_a1 hC, ct_a2 hC, ct_a3 hC, ct_a4 hC, ct_a5 hC, ct_a6 hC, ct_a7 hC, ct_s0 hC, ct_s1 hC, ct_s2 hC, ct_s3 hC, ct_s4 hC, ct_s5 hC, ct_s6 hC, ct_s7 hC, cn_p hN, cn_m hN, cn_l hN, cn_t hN, cd_n hD, cd_s hD, cd_r hD, cd_b hD, cd_c hD, e6, hk]
      rfl
  · simp (disch := omega) only [jb_some, jli, jif, jd_q, jd_K0, jpi_s, jpi_l, jpi_p, jpl_s, jpl_i, jpl_p, if_true, if_false, if_pos, if_neg, not_true_eq_false, not_false_eq_true, ite_true, ite_false, Nat.not_lt_zero, eq_self, Nat.le_refl, Nat.lt_irrefl, Bool.false_eq_true, or0, nI_add, nI_leI, nI_ltI, nI_eq, pk_mul, abs_nI, max_nI, min_nI, nI_m1, nI_m2, nI_le1, m1_lt, m2_lt, and_nI, or_nI, an_nI, has_nI, bit_nI, bc_nI, bits_nI, lx0, lx1, lx2, lx3, lx4, lx5, lx6, lx7, lx8, lx9, lx10, lx11, lx16, lx20, lx40, lx60, lx90, lx99, lx100, lx200, lx900, lx999, lx9999, jo_32 hW, jo_33 hW, jo_35 hW, jo_40 hW, jo_41 hW, jo_56 hW, jo_97 hW, jo_100 hW, jo_104 hW, jo_106 hW, jo_108 hW, ja_34 hW, ja_36 hW, ja_37 hW, ja_38 hW, ja_39 hW, ja_42 hW, ja_43 hW, ja_44 hW, ja_45 hW, ja_46 hW, ja_98 hW, ja_99 hW, ja_101 hW, ja_102 hW, ja_103 hW, wr_32_0 hW, wr_32_1 hW, wr_32_2 hW, wr_32_3 hW, wr_32_4 hW, wr_32_5 hW, wr_32_6 hW, wr_32_7 hW, wr_32_8 hW, wr_33_0 hW, wr_35_0 hW, wr_35_1 hW, wr_35_2 hW, wr_35_3 hW, wr_35_4 hW, wr_40_0 hW, wr_40_1 hW, wr_40_2 hW, wr_40_3 hW, wr_40_4 hW, wr_41_0 hW, wr_56_0 hW, wr_56_1 hW, wr_97_0 hW, wr_97_1 hW, wr_100_0 hW, wr_100_1 hW, wr_100_2 hW, wr_104_0 hW, wr_106_0 hW, joT hW hT, jaT1 hW hT, jaT2 hW hT, jaT3 hW hT, jaT4 hW hT, jaT5 hW hT, jaT6 hW hT, jaT7 hW hT, jaT8 hW hT, wrT0 hW hT, wrT1 hW hT, wrT2 hW hT, wrT3 hW hT, wrT4 hW hT, wrT5 hW hT, wrT6 hW hT, wrT7 hW hT, hS, ct_a0 hC, ct_a1 hC, ct_a2 hC, ct_a3 hC, ct_a4 hC, ct_a5 hC, ct_a6 hC, ct_a7 hC, ct_s0 hC, ct_s1 hC, ct_s2 hC, ct_s3 hC, ct_s4 hC, ct_s5 hC, ct_s6 hC, ct_s7 hC, cn_p hN, cn_m hN, cn_l hN, cn_t hN]
theorem plc_le (off p : Nat) : cnt (plcC B N off p) (B 8 3) ≤ B 8 3 := cnt_le _ _
set_option maxHeartbeats 1000000 in
theorem x_placeOfMostReached (h : CX B N T σ) (hb : bOk B) (hn : nOk B N) {f : Nat} (hf : f ≤ 40) : m_X6_placeOfMostReached 40 (nI f) σ = some (nI (argM (fun a => cnt (plcC B N f a) (B 8 3)) nP).1, σ) := by
  have hh := h
  have hbb := hb
  obtain ⟨⟨hW, hT, hS, hC, hN⟩, hD⟩ := h
  obtain ⟨b1, b2, b3, b4, b5, b6, b7, b8, b9, b10, bp⟩ := hb
  have hM := nP_eq
  generalize nP = M at *
  have hM2 : 99 < M := by omega
  unfold m_X6_placeOfMostReached
  rw [jlp_p M (fun i => ((nI (argM (fun a => cnt (plcC B N f a) (B 8 3)) i).1, nI (argM (fun a => cnt (plcC B N f a) (B 8 3)) i).2, nI i) : Int32 × Int32 × Int32)) (nI (argM (fun a => cnt (plcC B N f a) (B 8 3)) M).1) (jfu (by omega)) ?_ ?_ ?_]
  · rfl
  · rfl
  · intro m hm
    have e6 : ¬ 99 < m := by omega
    have c1 := plc_le (B := B) (N := N) f m
    have e4 := argM_le (f := fun a => cnt (plcC B N f a) (B 8 3)) (m := B 8 3) (fun i => cnt_le _ _) m
    simp (disch := omega) only [jb_some, jli, jif, jd_q, jd_K0, jpi_s, jpi_l, jpi_p, jpl_s, jpl_i, jpl_p, if_true, if_false, if_pos, if_neg, not_true_eq_false, not_false_eq_true, ite_true, ite_false, Nat.not_lt_zero, eq_self, Nat.le_refl, Nat.lt_irrefl, Bool.false_eq_true, or0, nI_add, nI_leI, nI_ltI, nI_eq, pk_mul, abs_nI, max_nI, min_nI, nI_m1, nI_m2, nI_le1, m1_lt, m2_lt, and_nI, or_nI, an_nI, has_nI, bit_nI, bc_nI, bits_nI, lx0, lx1, lx2, lx3, lx4, lx5, lx6, lx7, lx8, lx9, lx10, lx11, lx16, lx20, lx40, lx60, lx90, lx99, lx100, lx200, lx900, lx999, lx9999, jo_32 hW, jo_33 hW, jo_35 hW, jo_40 hW, jo_41 hW, jo_56 hW, jo_97 hW, jo_100 hW, jo_104 hW, jo_106 hW, jo_108 hW, ja_34 hW, ja_36 hW, ja_37 hW, ja_38 hW, ja_39 hW, ja_42 hW, ja_43 hW, ja_44 hW, ja_45 hW, ja_46 hW, ja_98 hW, ja_99 hW, ja_101 hW, ja_102 hW, ja_103 hW, wr_32_0 hW, wr_32_1 hW, wr_32_2 hW, wr_32_3 hW, wr_32_4 hW, wr_32_5 hW, wr_32_6 hW, wr_32_7 hW, wr_32_8 hW, wr_33_0 hW, wr_35_0 hW, wr_35_1 hW, wr_35_2 hW, wr_35_3 hW, wr_35_4 hW, wr_40_0 hW, wr_40_1 hW, wr_40_2 hW, wr_40_3 hW, wr_40_4 hW, wr_41_0 hW, wr_56_0 hW, wr_56_1 hW, wr_97_0 hW, wr_97_1 hW, wr_100_0 hW, wr_100_1 hW, wr_100_2 hW, wr_104_0 hW, wr_106_0 hW, joT hW hT, jaT1 hW hT, jaT2 hW hT, jaT3 hW hT, jaT4 hW hT, jaT5 hW hT, jaT6 hW hT, jaT7 hW hT, jaT8 hW hT, wrT0 hW hT, wrT1 hW hT, wrT2 hW hT, wrT3 hW hT, wrT4 hW hT, wrT5 hW hT, wrT6 hW hT, wrT7 hW hT, hS, ct_a0 hC, ct_a1 hC, ct_a2 hC, ct_a3 hC, ct_a4 hC, ct_a5 hC, ct_a6 hC, ct_a7 hC, ct_s0 hC, ct_s1 hC, ct_s2 hC, ct_s3 hC, ct_s4 hC, ct_s5 hC, ct_s6 hC, ct_s7 hC, cn_p hN, cn_m hN, cn_l hN, cn_t hN, e6]
    rw [jlp_p (B 8 3) (fun i => ((nI (cnt (plcC B N f m) i), nI i) : Int32 × Int32)) (nI (cnt (plcC B N f m) (B 8 3))) (jfu (by omega)) ?_ ?_ ?_]
    · by_cases hk : cnt (plcC B N f m) (B 8 3) ≤ (argM (fun a => cnt (plcC B N f a) (B 8 3)) m).2
      · rw [argM_t (f := fun a => cnt (plcC B N f a) (B 8 3)) hk, jb_some, if_pos ((nI_leI (by omega) (by omega)).mpr hk)]
      · rw [argM_f (f := fun a => cnt (plcC B N f a) (B 8 3)) hk, jb_some, if_neg (fun h => hk ((nI_leI (by omega) (by omega)).mp h))]
    · rfl
    · intro i hi
      have n1 := hn.1 i (by omega)
      have n2 := dist_le (a := m) (b := N i) (c := 99) (by omega) n1
      rcases hs : sink B N i with _ | t
      · have e1 := x_sk0 hh hbb hi hs
        rw [cnt_f (by simp [plcC, skC, hs])]
        simp (disch := omega) only [jb_some, jli, jif, jd_q, jd_K0, jpi_s, jpi_l, jpi_p, jpl_s, jpl_i, jpl_p, if_true, if_false, if_pos, if_neg, not_true_eq_false, not_false_eq_true, ite_true, ite_false, Nat.not_lt_zero, eq_self, Nat.le_refl, Nat.lt_irrefl, Bool.false_eq_true, or0, nI_add, nI_leI, nI_ltI, nI_eq, pk_mul, abs_nI, max_nI, min_nI, nI_m1, nI_m2, nI_le1, m1_lt, m2_lt, and_nI, or_nI, an_nI, has_nI, bit_nI, bc_nI, bits_nI, lx0, lx1, lx2, lx3, lx4, lx5, lx6, lx7, lx8, lx9, lx10, lx11, lx16, lx20, lx40, lx60, lx90, lx99, lx100, lx200, lx900, lx999, lx9999, jo_32 hW, jo_33 hW, jo_35 hW, jo_40 hW, jo_41 hW, jo_56 hW, jo_97 hW, jo_100 hW, jo_104 hW, jo_106 hW, jo_108 hW, ja_34 hW, ja_36 hW, ja_37 hW, ja_38 hW, ja_39 hW, ja_42 hW, ja_43 hW, ja_44 hW, ja_45 hW, ja_46 hW, ja_98 hW, ja_99 hW, ja_101 hW, ja_102 hW, ja_103 hW, wr_32_0 hW, wr_32_1 hW, wr_32_2 hW, wr_32_3 hW, wr_32_4 hW, wr_32_5 hW, wr_32_6 hW, wr_32_7 hW, wr_32_8 hW, wr_33_0 hW, wr_35_0 hW, wr_35_1 hW, wr_35_2 hW, wr_35_3 hW, wr_35_4 hW, wr_40_0 hW, wr_40_1 hW, wr_40_2 hW, wr_40_3 hW, wr_40_4 hW, wr_41_0 hW, wr_56_0 hW, wr_56_1 hW, wr_97_0 hW, wr_97_1 hW, wr_100_0 hW, wr_100_1 hW, wr_100_2 hW, wr_104_0 hW, wr_106_0 hW, joT hW hT, jaT1 hW hT, jaT2 hW hT, jaT3 hW hT, jaT4 hW hT, jaT5 hW hT, jaT6 hW hT, jaT7 hW hT, jaT8 hW hT, wrT0 hW hT, wrT1 hW hT, wrT2 hW hT, wrT3 hW hT, wrT4 hW hT, wrT5 hW hT, wrT6 hW hT, wrT7 hW hT, hS, ct_a0 hC, ct_a1 hC, ct_a2 hC, ct_a3 hC, ct_a4 hC, ct_a5 hC, ct_a6 hC, ct_a7 hC, ct_s0 hC, ct_s1 hC, ct_s2 hC, ct_s3 hC, ct_s4 hC, ct_s5 hC, ct_s6 hC, ct_s7 hC, cn_p hN, cn_m hN, cn_l hN, cn_t hN, e1]
      · have e1 := x_sk1 hh hbb hi hs
        by_cases h1 : B 8 0 < dist m (N i) + f
        · rw [cnt_f (by simp [plcC, skC, hs]; omega)]
          simp (disch := omega) only [jb_some, jli, jif, jd_q, jd_K0, jpi_s, jpi_l, jpi_p, jpl_s, jpl_i, jpl_p, if_true, if_false, if_pos, if_neg, not_true_eq_false, not_false_eq_true, ite_true, ite_false, Nat.not_lt_zero, eq_self, Nat.le_refl, Nat.lt_irrefl, Bool.false_eq_true, or0, nI_add, nI_leI, nI_ltI, nI_eq, pk_mul, abs_nI, max_nI, min_nI, nI_m1, nI_m2, nI_le1, m1_lt, m2_lt, and_nI, or_nI, an_nI, has_nI, bit_nI, bc_nI, bits_nI, lx0, lx1, lx2, lx3, lx4, lx5, lx6, lx7, lx8, lx9, lx10, lx11, lx16, lx20, lx40, lx60, lx90, lx99, lx100, lx200, lx900, lx999, lx9999, jo_32 hW, jo_33 hW, jo_35 hW, jo_40 hW, jo_41 hW, jo_56 hW, jo_97 hW, jo_100 hW, jo_104 hW, jo_106 hW, jo_108 hW, ja_34 hW, ja_36 hW, ja_37 hW, ja_38 hW, ja_39 hW, ja_42 hW, ja_43 hW, ja_44 hW, ja_45 hW, ja_46 hW, ja_98 hW, ja_99 hW, ja_101 hW, ja_102 hW, ja_103 hW, wr_32_0 hW, wr_32_1 hW, wr_32_2 hW, wr_32_3 hW, wr_32_4 hW, wr_32_5 hW, wr_32_6 hW, wr_32_7 hW, wr_32_8 hW, wr_33_0 hW, wr_35_0 hW, wr_35_1 hW, wr_35_2 hW, wr_35_3 hW, wr_35_4 hW, wr_40_0 hW, wr_40_1 hW, wr_40_2 hW, wr_40_3 hW, wr_40_4 hW, wr_41_0 hW, wr_56_0 hW, wr_56_1 hW, wr_97_0 hW, wr_97_1 hW, wr_100_0 hW, wr_100_1 hW, wr_100_2 hW, wr_104_0 hW, wr_106_0 hW, joT hW hT, jaT1 hW hT, jaT2 hW hT, jaT3 hW hT, jaT4 hW hT, jaT5 hW hT, jaT6 hW hT, jaT7 hW hT, jaT8 hW hT, wrT0 hW hT, wrT1 hW hT, wrT2 hW hT, wrT3 hW hT, wrT4 hW hT, wrT5 hW hT, wrT6 hW hT, wrT7 hW hT, hS, ct_a0 hC, ct_a1 hC, ct_a2 hC, ct_a3 hC, ct_a4 hC, ct_a5 hC, ct_a6 hC, ct_a7 hC, ct_s0 hC, ct_s1 hC, ct_s2 hC, ct_s3 hC, ct_s4 hC, ct_s5 hC, ct_s6 hC, ct_s7 hC, cn_p hN, cn_m hN, cn_l hN, cn_t hN, e1, h1]
        · rw [cnt_t (by simp [plcC, skC, hs]; omega)]
          simp (disch := omega) only [jb_some, jli, jif, jd_q, jd_K0, jpi_s, jpi_l, jpi_p, jpl_s, jpl_i, jpl_p, if_true, if_false, if_pos, if_neg, not_true_eq_false, not_false_eq_true, ite_true, ite_false, Nat.not_lt_zero, eq_self, Nat.le_refl, Nat.lt_irrefl, Bool.false_eq_true, or0, nI_add, nI_leI, nI_ltI, nI_eq, pk_mul, abs_nI, max_nI, min_nI, nI_m1, nI_m2, nI_le1, m1_lt, m2_lt, and_nI, or_nI, an_nI, has_nI, bit_nI, bc_nI, bits_nI, lx0, lx1, lx2, lx3, lx4, lx5, lx6, lx7, lx8, lx9, lx10, lx11, lx16, lx20, lx40, lx60, lx90, lx99, lx100, lx200, lx900, lx999, lx9999, jo_32 hW, jo_33 hW, jo_35 hW, jo_40 hW, jo_41 hW, jo_56 hW, jo_97 hW, jo_100 hW, jo_104 hW, jo_106 hW, jo_108 hW, ja_34 hW, ja_36 hW, ja_37 hW, ja_38 hW, ja_39 hW, ja_42 hW, ja_43 hW, ja_44 hW, ja_45 hW, ja_46 hW, ja_98 hW, ja_99 hW, ja_101 hW, ja_102 hW, ja_103 hW, wr_32_0 hW, wr_32_1 hW, wr_32_2 hW, wr_32_3 hW, wr_32_4 hW, wr_32_5 hW, wr_32_6 hW, wr_32_7 hW, wr_32_8 hW, wr_33_0 hW, wr_35_0 hW, wr_35_1 hW, wr_35_2 hW, wr_35_3 hW, wr_35_4 hW, wr_40_0 hW, wr_40_1 hW, wr_40_2 hW, wr_40_3 hW, wr_40_4 hW, wr_41_0 hW, wr_56_0 hW, wr_56_1 hW, wr_97_0 hW, wr_97_1 hW, wr_100_0 hW, wr_100_1 hW, wr_100_2 hW, wr_104_0 hW, wr_106_0 hW, joT hW hT, jaT1 hW hT, jaT2 hW hT, jaT3 hW hT, jaT4 hW hT, jaT5 hW hT, jaT6 hW hT, jaT7 hW hT, jaT8 hW hT, wrT0 hW hT, wrT1 hW hT, wrT2 hW hT, wrT3 hW hT, wrT4 hW hT, wrT5 hW hT, wrT6 hW hT, wrT7 hW hT, hS, ct_a0 hC, ct_a1 hC, ct_a2 hC, ct_a3 hC, ct_a4 hC, ct_a5 hC, ct_a6 hC, ct_a7 hC, ct_s0 hC, ct_s1 hC, ct_s2 hC, ct_s3 hC, ct_s4 hC, ct_s5 hC, ct_s6 hC, ct_s7 hC, cn_p hN, cn_m hN, cn_l hN, cn_t hN, e1, h1]
    · simp (disch := omega) only [jb_some, jli, jif, jd_q, jd_K0, jpi_s, jpi_l, jpi_p, jpl_s, jpl_i, jpl_p, if_true, if_false, if_pos, if_neg, not_true_eq_false, not_false_eq_true, ite_true, ite_false, Nat.not_lt_zero, eq_self, Nat.le_refl, Nat.lt_irrefl, Bool.false_eq_true, or0, nI_add, nI_leI, nI_ltI, nI_eq, pk_mul, abs_nI, max_nI, min_nI, nI_m1, nI_m2, nI_le1, m1_lt, m2_lt, and_nI, or_nI, an_nI, has_nI, bit_nI, bc_nI, bits_nI, lx0, lx1, lx2, lx3, lx4, lx5, lx6, lx7, lx8, lx9, lx10, lx11, lx16, lx20, lx40, lx60, lx90, lx99, lx100, lx200, lx900, lx999, lx9999, jo_32 hW, jo_33 hW, jo_35 hW, jo_40 hW, jo_41 hW, jo_56 hW, jo_97 hW, jo_100 hW, jo_104 hW, jo_106 hW, jo_108 hW, ja_34 hW, ja_36 hW, ja_37 hW, ja_38 hW, ja_39 hW, ja_42 hW, ja_43 hW, ja_44 hW, ja_45 hW, ja_46 hW, ja_98 hW, ja_99 hW, ja_101 hW, ja_102 hW, ja_103 hW, wr_32_0 hW, wr_32_1 hW, wr_32_2 hW, wr_32_3 hW, wr_32_4 hW, wr_32_5 hW, wr_32_6 hW, wr_32_7 hW, wr_32_8 hW, wr_33_0 hW, wr_35_0 hW, wr_35_1 hW, wr_35_2 hW, wr_35_3 hW, wr_35_4 hW, wr_40_0 hW, wr_40_1 hW, wr_40_2 hW, wr_40_3 hW, wr_40_4 hW, wr_41_0 hW, wr_56_0 hW, wr_56_1 hW, wr_97_0 hW, wr_97_1 hW, wr_100_0 hW, wr_100_1 hW, wr_100_2 hW, wr_104_0 hW, wr_106_0 hW, joT hW hT, jaT1 hW hT, jaT2 hW hT, jaT3 hW hT, jaT4 hW hT, jaT5 hW hT, jaT6 hW hT, jaT7 hW hT, jaT8 hW hT, wrT0 hW hT, wrT1 hW hT, wrT2 hW hT, wrT3 hW hT, wrT4 hW hT, wrT5 hW hT, wrT6 hW hT, wrT7 hW hT, hS, ct_a0 hC, ct_a1 hC, ct_a2 hC, ct_a3 hC, ct_a4 hC, ct_a5 hC, ct_a6 hC, ct_a7 hC, ct_s0 hC, ct_s1 hC, ct_s2 hC, ct_s3 hC, ct_s4 hC, ct_s5 hC, ct_s6 hC, ct_s7 hC, cn_p hN, cn_m hN, cn_l hN, cn_t hN]
  · simp (disch := omega) only [jb_some, jli, jif, jd_q, jd_K0, jpi_s, jpi_l, jpi_p, jpl_s, jpl_i, jpl_p, if_true, if_false, if_pos, if_neg, not_true_eq_false, not_false_eq_true, ite_true, ite_false, Nat.not_lt_zero, eq_self, Nat.le_refl, Nat.lt_irrefl, Bool.false_eq_true, or0, nI_add, nI_leI, nI_ltI, nI_eq, pk_mul, abs_nI, max_nI, min_nI, nI_m1, nI_m2, nI_le1, m1_lt, m2_lt, and_nI, or_nI, an_nI, has_nI, bit_nI, bc_nI, bits_nI, lx0, lx1, lx2, lx3, lx4, lx5, lx6, lx7, lx8, lx9, lx10, lx11, lx16, lx20, lx40, lx60, lx90, lx99, lx100, lx200, lx900, lx999, lx9999, jo_32 hW, jo_33 hW, jo_35 hW, jo_40 hW, jo_41 hW, jo_56 hW, jo_97 hW, jo_100 hW, jo_104 hW, jo_106 hW, jo_108 hW, ja_34 hW, ja_36 hW, ja_37 hW, ja_38 hW, ja_39 hW, ja_42 hW, ja_43 hW, ja_44 hW, ja_45 hW, ja_46 hW, ja_98 hW, ja_99 hW, ja_101 hW, ja_102 hW, ja_103 hW, wr_32_0 hW, wr_32_1 hW, wr_32_2 hW, wr_32_3 hW, wr_32_4 hW, wr_32_5 hW, wr_32_6 hW, wr_32_7 hW, wr_32_8 hW, wr_33_0 hW, wr_35_0 hW, wr_35_1 hW, wr_35_2 hW, wr_35_3 hW, wr_35_4 hW, wr_40_0 hW, wr_40_1 hW, wr_40_2 hW, wr_40_3 hW, wr_40_4 hW, wr_41_0 hW, wr_56_0 hW, wr_56_1 hW, wr_97_0 hW, wr_97_1 hW, wr_100_0 hW, wr_100_1 hW, wr_100_2 hW, wr_104_0 hW, wr_106_0 hW, joT hW hT, jaT1 hW hT, jaT2 hW hT, jaT3 hW hT, jaT4 hW hT, jaT5 hW hT, jaT6 hW hT, jaT7 hW hT, jaT8 hW hT, wrT0 hW hT, wrT1 hW hT, wrT2 hW hT, wrT3 hW hT, wrT4 hW hT, wrT5 hW hT, wrT6 hW hT, wrT7 hW hT, hS, ct_a0 hC, ct_a1 hC, ct_a2 hC, ct_a3 hC, ct_a4 hC, ct_a5 hC, ct_a6 hC, ct_a7 hC, ct_s0 hC, ct_s1 hC, ct_s2 hC, ct_s3 hC, ct_s4 hC, ct_s5 hC, ct_s6 hC, ct_s7 hC, cn_p hN, cn_m hN, cn_l hN, cn_t hN, hM2]
theorem nr_le (hb : bOk B) (hn : nOk B N) {p : Nat} (hp : p < B 8 3) {x : Nat × Nat} (h : nrO B N p = some x) : x.1 < B 8 4 ∧ x.2 = time B N x.1 p ∧ x.2 ≤ 139 := by
  have b2 := hb.2.1
  have e5 := argO_spec h
  have h2 := e5.2
  unfold nrC at h2
  split at h2
  · injection h2 with h2
    exact ⟨e5.1, h2.symm, by rw [← h2]; exact time_le hb (hn.1 p (by omega)) _⟩
  · exact absurd h2 (by simp)
theorem nr_none (h : N 6 = 0) (p : Nat) : nrO B N p = none := argO_none.mpr fun i _ => by simp [nrC, h]
theorem nr_some (hb : bOk B) (hn : nOk B N) (h : N 6 ≠ 0) (p : Nat) : ∃ x, nrO B N p = some x := by
  rcases hg : nrO B N p with _ | x
  · exfalso
    have h1 := argO_none.mp hg
    apply h
    refine Nat.eq_of_testBit_eq fun i => ?_
    rw [Nat.zero_testBit]
    by_cases hi : i < B 8 4
    · have h2 := h1 i hi
      unfold nrC at h2
      rcases hq : (N 6).testBit i with _ | _
      · rfl
      · rw [hq] at h2
        exact absurd h2 (by simp)
    · exact Nat.testBit_lt_two_pow (Nat.lt_of_lt_of_le hn.2.1 (Nat.pow_le_pow_right (by decide) (by omega)))
  · exact ⟨x, rfl⟩
theorem lim_le (hb : bOk B) (hn : nOk B N) : ∀ {n : Nat}, n ≤ B 8 3 → limN B N n ≤ 139
  | 0, _ => by show 1 ≤ 139; decide
  | n + 1, h => by
    have ih := lim_le hb hn (n := n) (by omega)
    show (if skC B N n then max (limN B N n) ((nrO B N n).elim 0 Prod.snd) else limN B N n) ≤ 139
    split
    · rcases hx : nrO B N n with _ | x
      · show max _ 0 ≤ 139
        omega
      · have := (nr_le hb hn (by omega) hx).2.2
        show max _ x.2 ≤ 139
        omega
    · exact ih
set_option maxHeartbeats 1000000 in
theorem x_leastLimit (h : CX B N T σ) (hb : bOk B) (hn : nOk B N) : m_X6_leastLimit 40 σ = some (if N 6 = 0 then - nI 2 else nI (limN B N (B 8 3)), σ) := by
  have hh := h
  have hbb := hb
  obtain ⟨⟨hW, hT, hS, hC, hN⟩, hD⟩ := h
  obtain ⟨b1, b2, b3, b4, b5, b6, b7, b8, b9, b10, bp⟩ := hb
  unfold m_X6_leastLimit
  by_cases h6 : N 6 = 0
  · have e1 := x_nearest hh hbb hn (p := 0) (by omega)
    rw [nr_none h6] at e1
    have e2 : ¬ B 8 3 ≤ 0 := by omega
    have e3 : (nI 0 ≤ - nI 2) = False := by decide +kernel
    rw [jlp_1 (t := Sum.inr (- nI 2)) (σ' := σ) (by decide) ?_]
    · rw [if_pos h6]
      rfl
    · simp (disch := omega) only [jb_some, jli, jif, jd_q, jd_K0, jpi_s, jpi_l, jpi_p, jpl_s, jpl_i, jpl_p, if_true, if_false, if_pos, if_neg, not_true_eq_false, not_false_eq_true, ite_true, ite_false, Nat.not_lt_zero, eq_self, Nat.le_refl, Nat.lt_irrefl, Bool.false_eq_true, or0, nI_add, nI_leI, nI_ltI, nI_eq, pk_mul, abs_nI, max_nI, min_nI, nI_m1, nI_m2, nI_le1, m1_lt, m2_lt, and_nI, or_nI, an_nI, has_nI, bit_nI, bc_nI, bits_nI, lx0, lx1, lx2, lx3, lx4, lx5, lx6, lx7, lx8, lx9, lx10, lx11, lx16, lx20, lx40, lx60, lx90, lx99, lx100, lx200, lx900, lx999, lx9999, jo_32 hW, jo_33 hW, jo_35 hW, jo_40 hW, jo_41 hW, jo_56 hW, jo_97 hW, jo_100 hW, jo_104 hW, jo_106 hW, jo_108 hW, ja_34 hW, ja_36 hW, ja_37 hW, ja_38 hW, ja_39 hW, ja_42 hW, ja_43 hW, ja_44 hW, ja_45 hW, ja_46 hW, ja_98 hW, ja_99 hW, ja_101 hW, ja_102 hW, ja_103 hW, wr_32_0 hW, wr_32_1 hW, wr_32_2 hW, wr_32_3 hW, wr_32_4 hW, wr_32_5 hW, wr_32_6 hW, wr_32_7 hW, wr_32_8 hW, wr_33_0 hW, wr_35_0 hW, wr_35_1 hW, wr_35_2 hW, wr_35_3 hW, wr_35_4 hW, wr_40_0 hW, wr_40_1 hW, wr_40_2 hW, wr_40_3 hW, wr_40_4 hW, wr_41_0 hW, wr_56_0 hW, wr_56_1 hW, wr_97_0 hW, wr_97_1 hW, wr_100_0 hW, wr_100_1 hW, wr_100_2 hW, wr_104_0 hW, wr_106_0 hW, joT hW hT, jaT1 hW hT, jaT2 hW hT, jaT3 hW hT, jaT4 hW hT, jaT5 hW hT, jaT6 hW hT, jaT7 hW hT, jaT8 hW hT, wrT0 hW hT, wrT1 hW hT, wrT2 hW hT, wrT3 hW hT, wrT4 hW hT, wrT5 hW hT, wrT6 hW hT, wrT7 hW hT, hS, ct_a0 hC, ct_a1 hC, ct_a2 hC, ct_a3 hC, ct_a4 hC, ct_a5 hC, ct_a6 hC, ct_a7 hC, ct_s0 hC, ct_s1 hC, ct_s2 hC, ct_s3 hC, ct_s4 hC, ct_s5 hC, ct_s6 hC, ct_s7 hC, cn_p hN, cn_m hN, cn_l hN, cn_t hN, e1, e2, e3, oI, Option.elim]
  · rw [jlp_p (B 8 3) (fun i => ((nI (limN B N i), nI i) : Int32 × Int32)) (Sum.inl (nI (limN B N (B 8 3)))) (jfu (by omega)) ?_ ?_ ?_]
    · rw [if_neg h6]
      rfl
    · rfl
    · intro i hi
      obtain ⟨x, hx⟩ := nr_some hbb hn h6 i
      have e1 := x_nearest hh hbb hn hi
      rw [hx] at e1
      obtain ⟨r1, r2, r3⟩ := nr_le hbb hn hi hx
      have e2 := x_timeTo hh.1 hbb hn r1 hi
      rw [← r2] at e2
      have e4 := lim_le hbb hn (n := i) (by omega)
      rcases hs : sink B N i with _ | t
      · have e3 := x_sk0 hh hbb hi hs
        have e5 : limN B N (i + 1) = limN B N i := by simp [limN, skC, hs]
        rw [e5]
        simp (disch := omega) only [jb_some, jli, jif, jd_q, jd_K0, jpi_s, jpi_l, jpi_p, jpl_s, jpl_i, jpl_p, if_true, if_false, if_pos, if_neg, not_true_eq_false, not_false_eq_true, ite_true, ite_false, Nat.not_lt_zero, eq_self, Nat.le_refl, Nat.lt_irrefl, Bool.false_eq_true, or0, nI_add, nI_leI, nI_ltI, nI_eq, pk_mul, abs_nI, max_nI, min_nI, nI_m1, nI_m2, nI_le1, m1_lt, m2_lt, and_nI, or_nI, an_nI, has_nI, bit_nI, bc_nI, bits_nI, lx0, lx1, lx2, lx3, lx4, lx5, lx6, lx7, lx8, lx9, lx10, lx11, lx16, lx20, lx40, lx60, lx90, lx99, lx100, lx200, lx900, lx999, lx9999, jo_32 hW, jo_33 hW, jo_35 hW, jo_40 hW, jo_41 hW, jo_56 hW, jo_97 hW, jo_100 hW, jo_104 hW, jo_106 hW, jo_108 hW, ja_34 hW, ja_36 hW, ja_37 hW, ja_38 hW, ja_39 hW, ja_42 hW, ja_43 hW, ja_44 hW, ja_45 hW, ja_46 hW, ja_98 hW, ja_99 hW, ja_101 hW, ja_102 hW, ja_103 hW, wr_32_0 hW, wr_32_1 hW, wr_32_2 hW, wr_32_3 hW, wr_32_4 hW, wr_32_5 hW, wr_32_6 hW, wr_32_7 hW, wr_32_8 hW, wr_33_0 hW, wr_35_0 hW, wr_35_1 hW, wr_35_2 hW, wr_35_3 hW, wr_35_4 hW, wr_40_0 hW, wr_40_1 hW, wr_40_2 hW, wr_40_3 hW, wr_40_4 hW, wr_41_0 hW, wr_56_0 hW, wr_56_1 hW, wr_97_0 hW, wr_97_1 hW, wr_100_0 hW, wr_100_1 hW, wr_100_2 hW, wr_104_0 hW, wr_106_0 hW, joT hW hT, jaT1 hW hT, jaT2 hW hT, jaT3 hW hT, jaT4 hW hT, jaT5 hW hT, jaT6 hW hT, jaT7 hW hT, jaT8 hW hT, wrT0 hW hT, wrT1 hW hT, wrT2 hW hT, wrT3 hW hT, wrT4 hW hT, wrT5 hW hT, wrT6 hW hT, wrT7 hW hT, hS, ct_a0 hC, ct_a1 hC, ct_a2 hC, ct_a3 hC, ct_a4 hC, ct_a5 hC, ct_a6 hC, ct_a7 hC, ct_s0 hC, ct_s1 hC, ct_s2 hC, ct_s3 hC, ct_s4 hC, ct_s5 hC, ct_s6 hC, ct_s7 hC, cn_p hN, cn_m hN, cn_l hN, cn_t hN, e1, e2, e3, oI, Option.elim, Nat.zero_le]
      · have e3 := x_sk1 hh hbb hi hs
        have e5 : limN B N (i + 1) = max (limN B N i) x.2 := by simp [limN, skC, hs, hx]
        rw [e5]
        simp (disch := omega) only [jb_some, jli, jif, jd_q, jd_K0, jpi_s, jpi_l, jpi_p, jpl_s, jpl_i, jpl_p, if_true, if_false, if_pos, if_neg, not_true_eq_false, not_false_eq_true, ite_true, ite_false, Nat.not_lt_zero, eq_self, Nat.le_refl, Nat.lt_irrefl, Bool.false_eq_true, or0, nI_add, nI_leI, nI_ltI, nI_eq, pk_mul, abs_nI, max_nI, min_nI, nI_m1, nI_m2, nI_le1, m1_lt, m2_lt, and_nI, or_nI, an_nI, has_nI, bit_nI, bc_nI, bits_nI, lx0, lx1, lx2, lx3, lx4, lx5, lx6, lx7, lx8, lx9, lx10, lx11, lx16, lx20, lx40, lx60, lx90, lx99, lx100, lx200, lx900, lx999, lx9999, jo_32 hW, jo_33 hW, jo_35 hW, jo_40 hW, jo_41 hW, jo_56 hW, jo_97 hW, jo_100 hW, jo_104 hW, jo_106 hW, jo_108 hW, ja_34 hW, ja_36 hW, ja_37 hW, ja_38 hW, ja_39 hW, ja_42 hW, ja_43 hW, ja_44 hW, ja_45 hW, ja_46 hW, ja_98 hW, ja_99 hW, ja_101 hW, ja_102 hW, ja_103 hW, wr_32_0 hW, wr_32_1 hW, wr_32_2 hW, wr_32_3 hW, wr_32_4 hW, wr_32_5 hW, wr_32_6 hW, wr_32_7 hW, wr_32_8 hW, wr_33_0 hW, wr_35_0 hW, wr_35_1 hW, wr_35_2 hW, wr_35_3 hW, wr_35_4 hW, wr_40_0 hW, wr_40_1 hW, wr_40_2 hW, wr_40_3 hW, wr_40_4 hW, wr_41_0 hW, wr_56_0 hW, wr_56_1 hW, wr_97_0 hW, wr_97_1 hW, wr_100_0 hW, wr_100_1 hW, wr_100_2 hW, wr_104_0 hW, wr_106_0 hW, joT hW hT, jaT1 hW hT, jaT2 hW hT, jaT3 hW hT, jaT4 hW hT, jaT5 hW hT, jaT6 hW hT, jaT7 hW hT, jaT8 hW hT, wrT0 hW hT, wrT1 hW hT, wrT2 hW hT, wrT3 hW hT, wrT4 hW hT, wrT5 hW hT, wrT6 hW hT, wrT7 hW hT, hS, ct_a0 hC, ct_a1 hC, ct_a2 hC, ct_a3 hC, ct_a4 hC, ct_a5 hC, ct_a6 hC, ct_a7 hC, ct_s0 hC, ct_s1 hC, ct_s2 hC, ct_s3 hC, ct_s4 hC, ct_s5 hC, ct_s6 hC, ct_s7 hC, cn_p hN, cn_m hN, cn_l hN, cn_t hN, e1, e2, e3, oI, Option.elim, Nat.zero_le]
    · simp (disch := omega) only [jb_some, jli, jif, jd_q, jd_K0, jpi_s, jpi_l, jpi_p, jpl_s, jpl_i, jpl_p, if_true, if_false, if_pos, if_neg, not_true_eq_false, not_false_eq_true, ite_true, ite_false, Nat.not_lt_zero, eq_self, Nat.le_refl, Nat.lt_irrefl, Bool.false_eq_true, or0, nI_add, nI_leI, nI_ltI, nI_eq, pk_mul, abs_nI, max_nI, min_nI, nI_m1, nI_m2, nI_le1, m1_lt, m2_lt, and_nI, or_nI, an_nI, has_nI, bit_nI, bc_nI, bits_nI, lx0, lx1, lx2, lx3, lx4, lx5, lx6, lx7, lx8, lx9, lx10, lx11, lx16, lx20, lx40, lx60, lx90, lx99, lx100, lx200, lx900, lx999, lx9999, jo_32 hW, jo_33 hW, jo_35 hW, jo_40 hW, jo_41 hW, jo_56 hW, jo_97 hW, jo_100 hW, jo_104 hW, jo_106 hW, jo_108 hW, ja_34 hW, ja_36 hW, ja_37 hW, ja_38 hW, ja_39 hW, ja_42 hW, ja_43 hW, ja_44 hW, ja_45 hW, ja_46 hW, ja_98 hW, ja_99 hW, ja_101 hW, ja_102 hW, ja_103 hW, wr_32_0 hW, wr_32_1 hW, wr_32_2 hW, wr_32_3 hW, wr_32_4 hW, wr_32_5 hW, wr_32_6 hW, wr_32_7 hW, wr_32_8 hW, wr_33_0 hW, wr_35_0 hW, wr_35_1 hW, wr_35_2 hW, wr_35_3 hW, wr_35_4 hW, wr_40_0 hW, wr_40_1 hW, wr_40_2 hW, wr_40_3 hW, wr_40_4 hW, wr_41_0 hW, wr_56_0 hW, wr_56_1 hW, wr_97_0 hW, wr_97_1 hW, wr_100_0 hW, wr_100_1 hW, wr_100_2 hW, wr_104_0 hW, wr_106_0 hW, joT hW hT, jaT1 hW hT, jaT2 hW hT, jaT3 hW hT, jaT4 hW hT, jaT5 hW hT, jaT6 hW hT, jaT7 hW hT, jaT8 hW hT, wrT0 hW hT, wrT1 hW hT, wrT2 hW hT, wrT3 hW hT, wrT4 hW hT, wrT5 hW hT, wrT6 hW hT, wrT7 hW hT, hS, ct_a0 hC, ct_a1 hC, ct_a2 hC, ct_a3 hC, ct_a4 hC, ct_a5 hC, ct_a6 hC, ct_a7 hC, ct_s0 hC, ct_s1 hC, ct_s2 hC, ct_s3 hC, ct_s4 hC, ct_s5 hC, ct_s6 hC, ct_s7 hC, cn_p hN, cn_m hN, cn_l hN, cn_t hN]
end
