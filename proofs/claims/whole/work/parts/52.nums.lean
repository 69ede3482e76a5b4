/-! P (2): numbers, sets of bits, loops -/
def dist (a b : Nat) : Nat := if a ≤ b then b - a else a - b
theorem dist_comm (a b : Nat) : dist a b = dist b a := by
  unfold dist
  split <;> split <;> omega
theorem dist_le {a b c : Nat} (ha : a ≤ c) (hb : b ≤ c) : dist a b ≤ c := by
  unfold dist
  split <;> omega
theorem nI_sub {a b : Nat} (h : b ≤ a) : nI a - nI b = nI (a - b) := pk_sub h
theorem abs_nI {a b : Nat} (ha : a < 2 ^ 30) (hb : b < 2 ^ 30) : jd_abs (nI a - nI b) = nI (dist a b) := by
  unfold jd_abs dist
  by_cases h : b ≤ a
  · rw [nI_sub h, if_pos (nI_pos' (by omega))]
    by_cases h2 : a ≤ b
    · rw [if_pos h2]
      congr 1
      omega
    · rw [if_neg h2]
  · have h3 : nI a - nI b < 0 := pk_sneg hb (by omega)
    rw [if_neg (Int32.not_le.mpr h3), if_pos (by omega), ← nI_sub (by omega)]
    rw [Int32.zero_sub, Int32.neg_sub]
theorem lx0 : (0 : Int32) = nI 0 := rfl
theorem lx1 : (1 : Int32) = nI 1 := rfl
theorem lx2 : (2 : Int32) = nI 2 := rfl
theorem lx3 : (3 : Int32) = nI 3 := rfl
theorem lx4 : (4 : Int32) = nI 4 := rfl
theorem lx5 : (5 : Int32) = nI 5 := rfl
theorem lx6 : (6 : Int32) = nI 6 := rfl
theorem lx7 : (7 : Int32) = nI 7 := rfl
theorem lx8 : (8 : Int32) = nI 8 := rfl
theorem lx9 : (9 : Int32) = nI 9 := rfl
theorem lx10 : (10 : Int32) = nI 10 := rfl
theorem lx11 : (11 : Int32) = nI 11 := rfl
theorem lx16 : (16 : Int32) = nI 16 := rfl
theorem lx20 : (20 : Int32) = nI 20 := rfl
theorem lx40 : (40 : Int32) = nI 40 := rfl
theorem lx60 : (60 : Int32) = nI 60 := rfl
theorem lx90 : (90 : Int32) = nI 90 := rfl
theorem lx99 : (99 : Int32) = nI 99 := rfl
theorem lx100 : (100 : Int32) = nI 100 := rfl
theorem lx200 : (200 : Int32) = nI 200 := rfl
theorem lx900 : (900 : Int32) = nI 900 := rfl
theorem lx999 : (999 : Int32) = nI 999 := rfl
theorem lx9999 : (9999 : Int32) = nI 9999 := rfl
theorem jif {α : Type} {c : Prop} [Decidable c] {A B : Option (α × jd_Hp)} : jd_if c A B = if c then A else B := id rfl
theorem jnz {α : Type} {c : Prop} [Decidable c] {A : Option (α × jd_Hp)} : jd_nz c A = if c then none else A := id rfl
theorem max_nI {a b : Nat} (ha : a < 2 ^ 31) (hb : b < 2 ^ 31) : jd_max (nI a) (nI b) = nI (max a b) := by
  unfold jd_max
  by_cases h : a < b
  · rw [if_pos (nI_lt h hb), Nat.max_eq_right (by omega)]
  · rw [if_neg (nI_nlt (by omega) ha), Nat.max_eq_left (by omega)]
theorem min_nI {a b : Nat} (ha : a < 2 ^ 31) (hb : b < 2 ^ 31) : jd_min (nI a) (nI b) = nI (min a b) := by
  unfold jd_min
  by_cases h : b < a
  · rw [if_pos (nI_lt h ha), Nat.min_eq_right (by omega)]
  · rw [if_neg (nI_nlt (by omega) hb), Nat.min_eq_left (by omega)]
theorem max_sub {a b : Nat} (ha : a < 2 ^ 30) (hb : b < 2 ^ 30) : jd_max (nI a - nI b) (nI 0) = nI (a - b) := by
  by_cases h : b ≤ a
  · rw [nI_sub h, max_nI (by omega) (by omega), Nat.max_eq_left (by omega)]
  · unfold jd_max
    have h3 : nI a - nI b < nI 0 := pk_sneg hb (by omega)
    rw [if_pos h3]
    congr 1
    omega
theorem nI_neg {a b : Nat} (ha : a < 2 ^ 31) (hb : 0 < b) (hb2 : b < 2 ^ 31) : ¬ nI a = - nI b := by
  intro h
  have h1 := congrArg Int32.toInt h
  rw [Int32.toInt_neg, nI_toInt ha, nI_toInt hb2] at h1
  have h2 : (-(b : Int)).bmod (2 ^ 32) = -(b : Int) := Int.bmod_eq_of_le (by omega) (by omega)
  rw [h2] at h1
  omega
theorem nI_m1 {a : Nat} (ha : a < 2 ^ 31) : (nI a = - nI 1) = False := eq_false (nI_neg (b := 1) ha (by decide) (by decide))
theorem nI_m2 {a : Nat} (ha : a < 2 ^ 31) : (nI a = - nI 2) = False := eq_false (nI_neg (b := 2) ha (by decide) (by decide))
theorem m2_lt : (- nI 2 < nI 0) = True := by decide +kernel
theorem m1_lt : (- nI 1 < nI 0) = True := by decide +kernel
theorem nI_le1 {a : Nat} (ha : a < 2 ^ 31) : (nI a ≤ - nI 1) = False := by
  refine eq_false fun h => ?_
  have h1 := Int32.le_iff_toInt_le.mp h
  rw [nI_toInt ha] at h1
  have : (- nI 1).toInt = -1 := by decide +kernel
  omega
/-! sets of bits -/
def bN (c : Nat → Bool) : Nat → Nat
  | 0 => 0
  | n + 1 => if c n then bN c n + 2 ^ n else bN c n
theorem bN_lt (c : Nat → Bool) : ∀ n, bN c n < 2 ^ n
  | 0 => Nat.one_pos
  | n + 1 => by
    have := bN_lt c n
    have h2 : 2 ^ (n + 1) = 2 ^ n + 2 ^ n := by rw [Nat.pow_succ]; omega
    show (if c n then bN c n + 2 ^ n else bN c n) < _
    split <;> omega
theorem pow6 {n : Nat} (h : n ≤ 6) : 2 ^ n ≤ 64 := Nat.pow_le_pow_right (by decide) h
theorem bN_64 (c : Nat → Bool) {n : Nat} (h : n ≤ 6) : bN c n < 64 := Nat.lt_of_lt_of_le (bN_lt c n) (pow6 h)
theorem bN_congr {c d : Nat → Bool} : ∀ {n : Nat}, (∀ i, i < n → c i = d i) → bN c n = bN d n
  | 0, _ => rfl
  | n + 1, h => by
    show (if c n then bN c n + 2 ^ n else bN c n) = (if d n then bN d n + 2 ^ n else bN d n)
    rw [bN_congr (fun i hi => h i (by omega)), h n (by omega)]
theorem fin_or : ∀ n, n < 6 → ∀ x, x < 2 ^ n → nI x ||| (1 <<< (nI n &&& 31)) = nI (x + 2 ^ n) := by decide +kernel
theorem or1 {n x : Nat} (hn : n < 6) (hx : x < 2 ^ n) : nI x ||| (1 <<< (nI n &&& 31)) = nI (x + 2 ^ n) := fin_or n hn x hx
theorem bN_or (c : Nat → Bool) {n : Nat} (hn : n < 6) : nI (bN c n) ||| (nI 1 <<< (nI n &&& 31)) = nI (bN c n + 2 ^ n) := or1 hn (bN_lt c n)
theorem or0 (x : Int32) : x ||| nI 0 = x := Int32.or_zero
theorem bN_t {c : Nat → Bool} {n : Nat} (h : c n = true) : bN c (n + 1) = bN c n + 2 ^ n := by
  show (if c n then bN c n + 2 ^ n else bN c n) = _
  rw [if_pos h]
theorem bN_f {c : Nat → Bool} {n : Nat} (h : c n = false) : bN c (n + 1) = bN c n := by
  show (if c n then bN c n + 2 ^ n else bN c n) = _
  rw [h]
  rfl
theorem fin_tb : ∀ n, n < 6 → ∀ x, x < 2 ^ n → ∀ p, p < 6 → (x + 2 ^ n).testBit p = (x.testBit p || decide (p = n)) := by decide +kernel
theorem bN_test (c : Nat → Bool) : ∀ {n : Nat}, n ≤ 6 → ∀ {p : Nat}, p < 6 → (bN c n).testBit p = (decide (p < n) && c p)
  | 0, _, p, _ => by
    show Nat.testBit 0 p = _
    rw [Nat.zero_testBit]
    simp
  | n + 1, hn, p, hp => by
    have ih := bN_test c (n := n) (by omega) hp
    show (if c n then bN c n + 2 ^ n else bN c n).testBit p = _
    by_cases hc : c n = true
    · rw [if_pos hc, fin_tb n (by omega) _ (bN_lt c n) p hp, ih]
      by_cases h1 : p = n
      · subst h1
        simp [hc]
      · have : (p < n + 1) = (p < n) := propext ⟨fun h => by omega, fun h => by omega⟩
        simp [h1, this]
    · rw [if_neg hc, ih]
      by_cases h1 : p = n
      · subst h1
        simp [hc]
      · have : (p < n + 1) = (p < n) := propext ⟨fun h => by omega, fun h => by omega⟩
        simp [this]
theorem fin_has : ∀ x, x < 64 → ∀ p, p < 6 → (nI x >>> (nI p &&& 31)) &&& 1 = if x.testBit p then 1 else 0 := by decide +kernel
theorem has_nI {x p : Nat} (hx : x < 64) (hp : p < 6) {σ : jd_Hp} : m_X11_has (nI x) (nI p) σ = some (if x.testBit p then 1 else 0, σ) := by
  unfold m_X11_has
  rw [fin_has x hx p hp]
  split <;> rfl
theorem bit_nI {x p : Nat} (hx : x < 64) (hp : p < 6) {σ : jd_Hp} : m_X13_bit (nI x) (nI p) σ = some (if x.testBit p then 1 else 0, σ) := by
  unfold m_X13_bit
  rw [fin_has x hx p hp]
  split <;> rfl
def pc (x : Nat) : Nat := (List.range 6).countP (fun p => x.testBit p)
theorem pc_le (x : Nat) : pc x ≤ 6 := by
  have := List.countP_le_length (p := fun p => x.testBit p) (l := List.range 6)
  simpa [pc] using this
def bcI (x0p : Int32) : Int32 :=
  let x1 := (x0p - ((x0p.toUInt32 >>> ((1 : Int32).toUInt32 &&& Int32.toUInt32 31)).toInt32 &&& 1431655765))
  let x2 := ((x1 &&& 858993459) + ((x1.toUInt32 >>> ((2 : Int32).toUInt32 &&& Int32.toUInt32 31)).toInt32 &&& 858993459))
  let x3 := ((x2 + (x2.toUInt32 >>> ((4 : Int32).toUInt32 &&& Int32.toUInt32 31)).toInt32) &&& 252645135)
  let x4 := (x3 + (x3.toUInt32 >>> ((8 : Int32).toUInt32 &&& Int32.toUInt32 31)).toInt32)
  let x5 := (x4 + (x4.toUInt32 >>> ((16 : Int32).toUInt32 &&& Int32.toUInt32 31)).toInt32)
  x5 &&& 63
theorem fin_bc : ∀ x, x < 64 → bcI (nI x) = nI (pc x) := by decide +kernel
theorem bc_nI {x : Nat} (hx : x < 64) {σ : jd_Hp} : m_J6_bitCount_0f7a4 (nI x) σ = some (nI (pc x), σ) := by
  rw [← fin_bc x hx]
  rfl
theorem fin_bs : ∀ x, x < 64 → x ≠ 0 → nI x &&& (nI x - 1) = nI (x &&& (x - 1)) ∧ (x &&& (x - 1)) < x ∧ pc (x &&& (x - 1)) + 1 = pc x := by decide +kernel
theorem bits_lp {σ : jd_Hp} : ∀ (x n acc : Nat), x < 64 → x < n → jd_lp (S := Int32 × Int32) (T := Int32) (fun s1 σ1 =>
jd_if (s1.2 = 0) (
some ((Sum.inr s1.1), σ1)) (
jd_li (s1.2 &&& (s1.2 - 1)) fun x3 =>
some (Sum.inl ((s1.1 + 1), x3), σ1))) n (nI acc, nI x) σ = some (nI (acc + pc x), σ) := by
  intro x
  induction x using Nat.strongRecOn with
  | ind x ih =>
    intro n acc hx hn
    obtain ⟨n', rfl⟩ : ∃ n', n = n' + 1 := ⟨n - 1, by omega⟩
    by_cases h0 : x = 0
    · subst h0
      show jd_b (jd_if _ _ _) _ = _
      rw [jif, if_pos (show nI 0 = 0 from rfl)]
      rfl
    · obtain ⟨h1, h2, h3⟩ := fin_bs x hx h0
      show jd_b (jd_if _ _ _) _ = _
      rw [jif, if_neg (nI_ne0 (by omega) (by omega))]
      show jd_lp _ n' (nI acc + 1, nI x &&& (nI x - 1)) σ = _
      rw [h1, nI_1, ih _ h2 n' (acc + 1) (by omega) (by omega), ← h3]
      congr 3
      omega
theorem bits_nI {x : Nat} (hx : x < 64) {σ : jd_Hp} : m_X13_bits (nI x) σ = some (nI (pc x), σ) := by
  unfold m_X13_bits
  rw [show ((0, nI x) : Int32 × Int32) = (nI 0, nI x) from rfl, bits_lp x jd_fu 0 hx (jfu (by omega)), Nat.zero_add]
  rfl
theorem fin_and : ∀ x, x < 64 → ∀ y, y < 64 → nI x &&& nI y = nI (x &&& y) ∧ nI x ||| nI y = nI (x ||| y) ∧ nI x &&& (nI y ^^^ (-1)) = nI (x &&& (63 ^^^ y)) := by decide +kernel
theorem and_nI {x y : Nat} (hx : x < 64) (hy : y < 64) : nI x &&& nI y = nI (x &&& y) := (fin_and x hx y hy).1
theorem or_nI {x y : Nat} (hx : x < 64) (hy : y < 64) : nI x ||| nI y = nI (x ||| y) := (fin_and x hx y hy).2.1
theorem an_nI {x y : Nat} (hx : x < 64) (hy : y < 64) : nI x &&& (nI y ^^^ (- nI 1)) = nI (x &&& (63 ^^^ y)) := (fin_and x hx y hy).2.2
theorem and_64 {x : Nat} (y : Nat) (hx : x < 64) : x &&& y < 64 := Nat.lt_of_le_of_lt Nat.and_le_left hx
theorem or_64 {x y : Nat} (hx : x < 64) (hy : y < 64) : x ||| y < 64 := Nat.or_lt_two_pow (n := 6) hx hy
theorem fin_63 : ∀ y, y < 64 → ∀ p, p < 6 → (63 ^^^ y).testBit p = ! y.testBit p := by decide +kernel
theorem fin_ext : ∀ x, x < 64 → ∀ y, y < 64 → (∀ p, p < 6 → x.testBit p = y.testBit p) → x = y := by
  intro x hx y hy h
  refine Nat.eq_of_testBit_eq fun i => ?_
  by_cases hi : i < 6
  · exact h i hi
  · rw [Nat.testBit_lt_two_pow (Nat.lt_of_lt_of_le hx (Nat.pow_le_pow_right (n := 2) (by decide) (show 6 ≤ i by omega))), Nat.testBit_lt_two_pow (Nat.lt_of_lt_of_le hy (Nat.pow_le_pow_right (n := 2) (by decide) (show 6 ≤ i by omega)))]
/-- a loop by what holds at each step -/
theorem jlp_inv {S T : Type} {body : S → jd_Hp → Option ((S ⊕ T) × jd_Hp)} (N : Nat) (I : Nat → S → jd_Hp → Prop) (Q : T → jd_Hp → Prop)
    (hs : ∀ i s σ, i < N → I i s σ → ∃ s' σ', body s σ = some (.inl s', σ') ∧ I (i + 1) s' σ')
    (hx : ∀ s σ, I N s σ → ∃ t σ', body s σ = some (.inr t, σ') ∧ Q t σ') (n : Nat) (hn : N < n) (s : S) (σ : jd_Hp) (h0 : I 0 s σ) :
    ∃ t σ', jd_lp body n s σ = some (t, σ') ∧ Q t σ' := by
  have key : ∀ (d i n : Nat) (s : S) (σ : jd_Hp), i + d = N → d < n → I i s σ → ∃ t σ', jd_lp body n s σ = some (t, σ') ∧ Q t σ' := by
    intro d
    induction d with
    | zero =>
      intro i n s σ hi hn h
      have : i = N := by omega
      subst this
      obtain ⟨n', rfl⟩ : ∃ n', n = n' + 1 := ⟨n - 1, by omega⟩
      obtain ⟨t, σ', h1, h2⟩ := hx s σ h
      refine ⟨t, σ', ?_, h2⟩
      show jd_b (body s σ) _ = _
      rw [h1]
      rfl
    | succ d ih =>
      intro i n s σ hi hn h
      obtain ⟨n', rfl⟩ : ∃ n', n = n' + 1 := ⟨n - 1, by omega⟩
      obtain ⟨s', σ', h1, h2⟩ := hs i s σ (by omega) h
      obtain ⟨t, σt, h3, h4⟩ := ih (i + 1) n' s' σ' (by omega) (by omega) h2
      refine ⟨t, σt, ?_, h4⟩
      show jd_b (body s σ) _ = _
      rw [h1]
      exact h3
  exact key N 0 n s σ (by omega) hn h0
/-- a loop that counts and leaves the heap -/
theorem jlp_p {S T : Type} {body : S → jd_Hp → Option ((S ⊕ T) × jd_Hp)} {σ : jd_Hp} (N : Nat) (st : Nat → S) (t : T) {s0 : S} {n : Nat} (hn : N < n) (h0 : s0 = st 0)
    (hs : ∀ i, i < N → body (st i) σ = some (.inl (st (i + 1)), σ)) (hx : body (st N) σ = some (.inr t, σ)) : jd_lp body n s0 σ = some (t, σ) := by
  subst h0
  exact jlp_for N st (fun _ => σ) hs hx n hn
/-- .. and may end ahead -/
theorem jlp_e {S T : Type} {body : S → jd_Hp → Option ((S ⊕ T) × jd_Hp)} {σ : jd_Hp} (N : Nat) (st : Nat → S) (c : Nat → Bool) (r : Nat → T) (t : T) {s0 : S} {n : Nat} (hn : N < n) (h0 : s0 = st 0)
    (hs : ∀ i, i < N → body (st i) σ = if c i then some (.inr (r i), σ) else some (.inl (st (i + 1)), σ)) (hx : body (st N) σ = some (.inr t, σ)) :
    jd_lp body n s0 σ = some (((List.range N).find? c).elim t r, σ) := by
  subst h0
  have key : ∀ (d i n : Nat), i + d = N → d < n → jd_lp body n (st i) σ = some (((List.range' i d).find? c).elim t r, σ) := by
    intro d
    induction d with
    | zero =>
      intro i n hi hn
      have : i = N := by omega
      subst this
      obtain ⟨n', rfl⟩ : ∃ n', n = n' + 1 := ⟨n - 1, by omega⟩
      show jd_b (body (st i) σ) _ = _
      rw [hx]
      rfl
    | succ d ih =>
      intro i n hi hn
      obtain ⟨n', rfl⟩ : ∃ n', n = n' + 1 := ⟨n - 1, by omega⟩
      show jd_b (body (st i) σ) _ = _
      rw [hs i (by omega), List.range'_succ]
      by_cases hc : c i = true
      · rw [if_pos hc, List.find?_cons_of_pos hc]
        rfl
      · rw [if_neg hc, List.find?_cons_of_neg hc, ← ih (i + 1) n' (by omega) (by omega)]
        rfl
  rw [List.range_eq_range', key N 0 n (by omega) hn]
/-! what a run leaves as it was: D the ints, L the longs that it may write -/
def Fr (D : Nat → Nat → Prop) (L : Nat → Prop) (σ σ' : jd_Hp) : Prop := σ'.1 = σ.1 ∧ σ'.2.2.2 = σ.2.2.2 ∧ (∀ a k, ¬ D a k → σ'.2.1 a k = σ.2.1 a k) ∧ ∀ a k, ¬ L a → σ'.2.2.1 a k = σ.2.2.1 a k
section
variable {D D' : Nat → Nat → Prop} {L L' : Nat → Prop} {σ σ' σ'' : jd_Hp}
theorem Fr_refl (σ : jd_Hp) : Fr D L σ σ := ⟨rfl, rfl, fun _ _ _ => rfl, fun _ _ _ => rfl⟩
theorem Fr_tr (h : Fr D L σ σ') (g : Fr D L σ' σ'') : Fr D L σ σ'' := ⟨g.1.trans h.1, g.2.1.trans h.2.1, fun a k n => (g.2.2.1 a k n).trans (h.2.2.1 a k n), fun a k n => (g.2.2.2 a k n).trans (h.2.2.2 a k n)⟩
theorem Fr_mono (h : Fr D L σ σ') (hd : ∀ a k, D a k → D' a k) (hl : ∀ a, L a → L' a) : Fr D' L' σ σ' := ⟨h.1, h.2.1, fun a k n => h.2.2.1 a k fun c => n (hd a k c), fun a k n => h.2.2.2 a k fun c => n (hl a c)⟩
theorem Fr_pi (h : Fr D L σ σ') {a k : Nat} {v : Int32} (hd : D a k) : Fr D L σ (jd_pi σ' a k v) := ⟨h.1, h.2.1, fun b j n => by
  rw [jpi_r, ← h.2.2.1 b j n]
  by_cases h1 : b = a
  · rw [if_pos h1, if_neg (fun h2 => n (by rw [h1, h2]; exact hd))]
  · rw [if_neg h1], h.2.2.2⟩
theorem Fr_pl (h : Fr D L σ σ') {a k : Nat} {v : Int64} (hd : L a) : Fr D L σ (jd_pl σ' a k v) := ⟨h.1, h.2.1, h.2.2.1, fun b j n => by
  rw [jpl_r, ← h.2.2.2 b j n, if_neg (fun h1 => n (by rw [h1]; exact hd))]⟩
theorem Fr_Wd (h : Fr D L σ σ') (hW : Wd σ) : Wd σ' := by
  unfold Wd
  rw [h.1, h.2.1]
  exact hW
end
theorem pi_eq (σ : jd_Hp) (a k : Nat) (v : Int32) : (jd_pi σ a k v).2.1 a k = v := by rw [jpi_r, if_pos rfl, if_pos rfl]
theorem pi_ne (σ : jd_Hp) {a k b j : Nat} (v : Int32) (h : ¬ (b = a ∧ j = k)) : (jd_pi σ a k v).2.1 b j = σ.2.1 b j := by
  rw [jpi_r]
  by_cases h1 : b = a
  · rw [if_pos h1, if_neg (fun h2 => h ⟨h1, h2⟩)]
  · rw [if_neg h1]
/-- a row of cells, filled from the left -/
def cpy (σ : jd_Hp) (a : Nat) (f : Nat → Int32) (n : Nat) : jd_Hp := (σ.1, fun b k => if b = a ∧ k < n then f k else σ.2.1 b k, σ.2.2.1, σ.2.2.2)
theorem cpy_0 (σ : jd_Hp) (a : Nat) (f : Nat → Int32) : cpy σ a f 0 = σ := by
  have : (fun b k => if b = a ∧ k < 0 then f k else σ.2.1 b k) = σ.2.1 := by
    funext b k
    rw [if_neg (by omega)]
  unfold cpy
  rw [this]
theorem cpy_s (σ : jd_Hp) (a : Nat) (f : Nat → Int32) (n : Nat) : jd_pi (cpy σ a f n) a n (f n) = cpy σ a f (n + 1) := by
  unfold cpy jd_pi jd_u
  have : (fun b j => if b = a then (if j = n then f n else if b = a ∧ j < n then f j else σ.2.1 b j) else if b = a ∧ j < n then f j else σ.2.1 b j) = (fun b k => if b = a ∧ k < n + 1 then f k else σ.2.1 b k) := by
    funext b k
    by_cases h1 : b = a
    · rw [if_pos h1]
      by_cases h2 : k = n
      · rw [if_pos h2, if_pos ⟨h1, by omega⟩, h2]
      · rw [if_neg h2]
        by_cases h3 : k < n
        · rw [if_pos ⟨h1, h3⟩, if_pos ⟨h1, by omega⟩]
        · rw [if_neg (by omega), if_neg (by omega)]
    · rw [if_neg h1, if_neg (by simp [h1]), if_neg (by simp [h1])]
  show (σ.1, (fun b j => if b = a then (if j = n then f n else if b = a ∧ j < n then f j else σ.2.1 b j) else if b = a ∧ j < n then f j else σ.2.1 b j), σ.2.2.1, σ.2.2.2) = _
  rw [this]
theorem cpy_1 (σ : jd_Hp) (a : Nat) (f : Nat → Int32) (n : Nat) : (cpy σ a f n).1 = σ.1 := rfl
theorem cpy_i (σ : jd_Hp) (a : Nat) (f : Nat → Int32) (n b k : Nat) : (cpy σ a f n).2.1 b k = if b = a ∧ k < n then f k else σ.2.1 b k := rfl
theorem cpy_l (σ : jd_Hp) (a : Nat) (f : Nat → Int32) (n : Nat) : (cpy σ a f n).2.2.1 = σ.2.2.1 := rfl
theorem cpy_r (σ : jd_Hp) (a : Nat) (f : Nat → Int32) (n : Nat) : (cpy σ a f n).2.2.2 = σ.2.2.2 := rfl
theorem Wd_cpy (σ : jd_Hp) (a : Nat) (f : Nat → Int32) (n : Nat) : Wd (cpy σ a f n) = Wd σ := rfl
