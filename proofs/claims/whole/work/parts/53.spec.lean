/-! P (3): what is meant: a beach, how all is now -/
abbrev Bch : Type := Nat → Nat → Nat
abbrev Nw : Type := Nat → Nat
def bOk (B : Bch) : Prop := 1 ≤ B 8 3 ∧ B 8 3 ≤ 6 ∧ B 8 4 ≤ 5 ∧ 1 ≤ B 8 0 ∧ B 8 0 ≤ 60 ∧ B 8 1 ≤ 9 ∧ B 8 2 ≤ 100 ∧ B 8 5 < 2 ^ B 8 4 ∧ B 8 6 ≤ 9 ∧ B 8 7 ≤ 6 ∧ ∀ p, B 0 p ≤ 3 ∧ B 1 p ≤ 99 ∧ B 2 p ≤ 99 ∧ B 3 p ≤ 100 ∧ B 4 p < 2 ^ B 8 3 ∧ B 5 p ≤ 2 ∧ B 6 p ≤ 99 ∧ B 7 p ≤ 40
def nOk (B : Bch) (N : Nw) : Prop := (∀ p, p < 6 → N p ≤ 99) ∧ N 6 < 2 ^ B 8 4 ∧ N 7 < 2 ^ B 8 3 ∧ N 8 ≤ 999
theorem nOk6 {B : Bch} {N : Nw} (hb : bOk B) (hn : nOk B N) : N 6 < 32 := Nat.lt_of_lt_of_le hn.2.1 (Nat.pow_le_pow_right (n := 2) (j := 5) (by decide) hb.2.2.1)
theorem nOk7 {B : Bch} {N : Nw} (hb : bOk B) (hn : nOk B N) : N 7 < 64 := Nat.lt_of_lt_of_le hn.2.2.1 (pow6 hb.2.1)
def nearC (N : Nw) (p q : Nat) : Bool := decide (q ≠ p ∧ dist (N q) (N p) ≤ 5)
def nearN (B : Bch) (N : Nw) (p : Nat) : Nat := bN (nearC N p) (B 8 3)
def sinkM (B : Bch) (p k : Nat) : Option Nat := if B 0 p = 3 ∧ 0 < k then none else some ((if B 0 p = 1 then B 2 p + 3 * k else if B 0 p = 2 then B 2 p / 2 else B 2 p) - B 8 1)
def sink (B : Bch) (N : Nw) (p : Nat) : Option Nat := if (N 7).testBit p then none else sinkM B p (pc (nearN B N p))
def cs (o : Option Nat) : Int32 := o.elim (-2) nI
def mz (o : Option Nat) : Nat := o.elim 9999 id
def skC (B : Bch) (N : Nw) (p : Nat) : Bool := (sink B N p).isSome
def sinkers (B : Bch) (N : Nw) : Nat := bN (skC B N) (B 8 3)
def time (B : Bch) (N : Nw) (q p : Nat) : Nat := dist (B 6 q) (N p) + B 7 q
def reachC (B : Bch) (N : Nw) (q p : Nat) : Bool := decide (time B N q p ≤ B 8 0)
def reach (B : Bch) (N : Nw) (q : Nat) : Nat := bN (reachC B N q) (B 8 3)
def orN (f : Nat → Nat) : Nat → Nat
  | 0 => 0
  | n + 1 => orN f n ||| f n
def cov (B : Bch) (N : Nw) (set : Nat) : Nat := orN (fun q => if set.testBit q then reach B N q else 0) (B 8 4)
def underC (B : Bch) (N : Nw) (m p : Nat) : Bool := (sink B N p).elim false fun t => decide (t ≤ m ∧ m < t + B 8 0)
def lostC (B : Bch) (N : Nw) (m p : Nat) : Bool := (sink B N p).elim false fun t => decide (t + B 8 0 ≤ m)
def unr (B : Bch) (N : Nw) : Nat := sinkers B N &&& (63 ^^^ cov B N (N 6))
theorem sinkM_le {B : Bch} (hb : bOk B) {p k t : Nat} (hk : k ≤ 6) (h : sinkM B p k = some t) : t ≤ 117 := by
  unfold sinkM at h
  have h2 := (hb.2.2.2.2.2.2.2.2.2.2 p).2.2.1
  split at h
  · exact absurd h (by simp)
  · injection h with h
    split at h
    · omega
    · split at h
      · omega
      · omega
theorem sink_le {B : Bch} (hb : bOk B) {N : Nw} {p t : Nat} (h : sink B N p = some t) : t ≤ 117 := by
  unfold sink at h
  split at h
  · exact absurd h (by simp)
  · exact sinkM_le hb (pc_le _) h
theorem near_64 {B : Bch} (hb : bOk B) (N : Nw) (p : Nat) : nearN B N p < 64 := bN_64 _ hb.2.1
theorem sinkers_64 {B : Bch} (hb : bOk B) (N : Nw) : sinkers B N < 64 := bN_64 _ hb.2.1
theorem reach_64 {B : Bch} (hb : bOk B) (N : Nw) (q : Nat) : reach B N q < 64 := bN_64 _ hb.2.1
theorem orN_64 {f : Nat → Nat} (h : ∀ i, f i < 64) : ∀ n, orN f n < 64
  | 0 => (by decide : 0 < 64)
  | n + 1 => or_64 (orN_64 h n) (h n)
theorem cov_64 {B : Bch} (hb : bOk B) (N : Nw) (s : Nat) : cov B N s < 64 := orN_64 (fun q => by
  show (if s.testBit q then reach B N q else 0) < 64
  split
  · exact reach_64 hb N q
  · decide) _
theorem time_le {B : Bch} (hb : bOk B) {N : Nw} {p : Nat} (hn : N p ≤ 99) (q : Nat) : time B N q p ≤ 139 := by
  have h1 := (hb.2.2.2.2.2.2.2.2.2.2 q).2.2.2.2.2.2
  have h2 := dist_le h1.1 hn
  unfold time
  omega
theorem unr_64 {B : Bch} (hb : bOk B) (N : Nw) : unr B N < 64 := and_64 _ (sinkers_64 hb N)
theorem sinkers_test {B : Bch} (hb : bOk B) {N : Nw} {p : Nat} (hp : p < B 8 3) : (sinkers B N).testBit p = skC B N p := by
  unfold sinkers
  rw [bN_test _ hb.2.1 (by have := hb.2.1; omega)]
  simp [hp]
theorem reach_test {B : Bch} (hb : bOk B) {N : Nw} {p q : Nat} (hp : p < B 8 3) : (reach B N q).testBit p = reachC B N q p := by
  unfold reach
  rw [bN_test _ hb.2.1 (by have := hb.2.1; omega)]
  simp [hp]
/-! the class's cells -/
def CT (B : Bch) (T : Nat) (σ : jd_Hp) : Prop := (∀ i, i < 8 → σ.2.1 T (8 + i) = nI (B 8 i)) ∧ (∀ k p, k < 6 → p < B 8 3 → σ.2.1 (T + (k + 1)) p = nI (B k p)) ∧ ∀ k q, k < 2 → q < B 8 4 → σ.2.1 (T + (k + 7)) q = nI (B (k + 6) q)
def CN (B : Bch) (N : Nw) (σ : jd_Hp) : Prop := (∀ p, p < B 8 3 → σ.2.1 42 p = nI (N p)) ∧ σ.2.1 41 1 = nI (N 6) ∧ σ.2.1 41 2 = nI (N 7) ∧ σ.2.1 41 3 = nI (N 8)
def CA (B : Bch) (N : Nw) (T : Nat) (σ : jd_Hp) : Prop := Wd σ ∧ (T = 47 ∨ T = 109) ∧ σ.2.2.2 40 5 = some T ∧ CT B T σ ∧ CN B N σ
section
variable {α : Type} {B : Bch} {N : Nw} {T : Nat} {σ : jd_Hp} {A : Nat → Option (α × jd_Hp)} {A2 : Nat → Nat → Option (α × jd_Hp)} {j : Nat}
theorem joT (hW : Wd σ) (hT : T = 47 ∨ T = 109) : jd_o σ (10, 16) (some T) A = A T := by
  rcases hT with rfl | rfl
  · exact jo_47 hW
  · exact jo_109 hW
theorem jaT1 (hW : Wd σ) (hT : T = 47 ∨ T = 109) (hj : j < 6) : jd_ia σ 20 (some (T + 1)) (nI j) A2 = A2 (T + 1) j := by
  rcases hT with rfl | rfl
  · exact ja_48 hW hj
  · exact ja_110 hW hj
theorem wrT0 (hW : Wd σ) (hT : T = 47 ∨ T = 109) : σ.2.2.2 T 0 = some (T + 1) := by
  rcases hT with rfl | rfl
  · exact wr_47_0 hW
  · exact wr_109_0 hW
theorem jaT2 (hW : Wd σ) (hT : T = 47 ∨ T = 109) (hj : j < 6) : jd_ia σ 20 (some (T + 2)) (nI j) A2 = A2 (T + 2) j := by
  rcases hT with rfl | rfl
  · exact ja_49 hW hj
  · exact ja_111 hW hj
theorem wrT1 (hW : Wd σ) (hT : T = 47 ∨ T = 109) : σ.2.2.2 T 1 = some (T + 2) := by
  rcases hT with rfl | rfl
  · exact wr_47_1 hW
  · exact wr_109_1 hW
theorem jaT3 (hW : Wd σ) (hT : T = 47 ∨ T = 109) (hj : j < 6) : jd_ia σ 20 (some (T + 3)) (nI j) A2 = A2 (T + 3) j := by
  rcases hT with rfl | rfl
  · exact ja_50 hW hj
  · exact ja_112 hW hj
theorem wrT2 (hW : Wd σ) (hT : T = 47 ∨ T = 109) : σ.2.2.2 T 2 = some (T + 3) := by
  rcases hT with rfl | rfl
  · exact wr_47_2 hW
  · exact wr_109_2 hW
theorem jaT4 (hW : Wd σ) (hT : T = 47 ∨ T = 109) (hj : j < 6) : jd_ia σ 20 (some (T + 4)) (nI j) A2 = A2 (T + 4) j := by
  rcases hT with rfl | rfl
  · exact ja_51 hW hj
  · exact ja_113 hW hj
theorem wrT3 (hW : Wd σ) (hT : T = 47 ∨ T = 109) : σ.2.2.2 T 3 = some (T + 4) := by
  rcases hT with rfl | rfl
  · exact wr_47_3 hW
  · exact wr_109_3 hW
theorem jaT5 (hW : Wd σ) (hT : T = 47 ∨ T = 109) (hj : j < 6) : jd_ia σ 20 (some (T + 5)) (nI j) A2 = A2 (T + 5) j := by
  rcases hT with rfl | rfl
  · exact ja_52 hW hj
  · exact ja_114 hW hj
theorem wrT4 (hW : Wd σ) (hT : T = 47 ∨ T = 109) : σ.2.2.2 T 4 = some (T + 5) := by
  rcases hT with rfl | rfl
  · exact wr_47_4 hW
  · exact wr_109_4 hW
theorem jaT6 (hW : Wd σ) (hT : T = 47 ∨ T = 109) (hj : j < 6) : jd_ia σ 20 (some (T + 6)) (nI j) A2 = A2 (T + 6) j := by
  rcases hT with rfl | rfl
  · exact ja_53 hW hj
  · exact ja_115 hW hj
theorem wrT5 (hW : Wd σ) (hT : T = 47 ∨ T = 109) : σ.2.2.2 T 5 = some (T + 6) := by
  rcases hT with rfl | rfl
  · exact wr_47_5 hW
  · exact wr_109_5 hW
theorem jaT7 (hW : Wd σ) (hT : T = 47 ∨ T = 109) (hj : j < 5) : jd_ia σ 20 (some (T + 7)) (nI j) A2 = A2 (T + 7) j := by
  rcases hT with rfl | rfl
  · exact ja_54 hW hj
  · exact ja_116 hW hj
theorem wrT6 (hW : Wd σ) (hT : T = 47 ∨ T = 109) : σ.2.2.2 T 6 = some (T + 7) := by
  rcases hT with rfl | rfl
  · exact wr_47_6 hW
  · exact wr_109_6 hW
theorem jaT8 (hW : Wd σ) (hT : T = 47 ∨ T = 109) (hj : j < 5) : jd_ia σ 20 (some (T + 8)) (nI j) A2 = A2 (T + 8) j := by
  rcases hT with rfl | rfl
  · exact ja_55 hW hj
  · exact ja_117 hW hj
theorem wrT7 (hW : Wd σ) (hT : T = 47 ∨ T = 109) : σ.2.2.2 T 7 = some (T + 8) := by
  rcases hT with rfl | rfl
  · exact wr_47_7 hW
  · exact wr_109_7 hW
theorem ct_s0 (h : CT B T σ) : σ.2.1 T 8 = nI (B 8 0) := h.1 0 (by decide)
theorem ct_a0 (h : CT B T σ) (hp : j < B 8 3) : σ.2.1 (T + 1) j = nI (B 0 j) := h.2.1 0 j (by decide) hp
theorem ct_s1 (h : CT B T σ) : σ.2.1 T 9 = nI (B 8 1) := h.1 1 (by decide)
theorem ct_a1 (h : CT B T σ) (hp : j < B 8 3) : σ.2.1 (T + 2) j = nI (B 1 j) := h.2.1 1 j (by decide) hp
theorem ct_s2 (h : CT B T σ) : σ.2.1 T 10 = nI (B 8 2) := h.1 2 (by decide)
theorem ct_a2 (h : CT B T σ) (hp : j < B 8 3) : σ.2.1 (T + 3) j = nI (B 2 j) := h.2.1 2 j (by decide) hp
theorem ct_s3 (h : CT B T σ) : σ.2.1 T 11 = nI (B 8 3) := h.1 3 (by decide)
theorem ct_a3 (h : CT B T σ) (hp : j < B 8 3) : σ.2.1 (T + 4) j = nI (B 3 j) := h.2.1 3 j (by decide) hp
theorem ct_s4 (h : CT B T σ) : σ.2.1 T 12 = nI (B 8 4) := h.1 4 (by decide)
theorem ct_a4 (h : CT B T σ) (hp : j < B 8 3) : σ.2.1 (T + 5) j = nI (B 4 j) := h.2.1 4 j (by decide) hp
theorem ct_s5 (h : CT B T σ) : σ.2.1 T 13 = nI (B 8 5) := h.1 5 (by decide)
theorem ct_a5 (h : CT B T σ) (hp : j < B 8 3) : σ.2.1 (T + 6) j = nI (B 5 j) := h.2.1 5 j (by decide) hp
theorem ct_s6 (h : CT B T σ) : σ.2.1 T 14 = nI (B 8 6) := h.1 6 (by decide)
theorem ct_a6 (h : CT B T σ) (hp : j < B 8 4) : σ.2.1 (T + 7) j = nI (B 6 j) := h.2.2 0 j (by decide) hp
theorem ct_s7 (h : CT B T σ) : σ.2.1 T 15 = nI (B 8 7) := h.1 7 (by decide)
theorem ct_a7 (h : CT B T σ) (hp : j < B 8 4) : σ.2.1 (T + 8) j = nI (B 7 j) := h.2.2 1 j (by decide) hp
theorem cn_p (h : CN B N σ) (hp : j < B 8 3) : σ.2.1 42 j = nI (N j) := h.1 j hp
theorem cn_m (h : CN B N σ) : σ.2.1 41 1 = nI (N 6) := h.2.1
theorem cn_l (h : CN B N σ) : σ.2.1 41 2 = nI (N 7) := h.2.2.1
theorem cn_t (h : CN B N σ) : σ.2.1 41 3 = nI (N 8) := h.2.2.2
end
/-! the reference's cells -/
def MT (B : Bch) (b : Nat) (σ : jd_Hp) : Prop := 131 ≤ b ∧ σ.1[b]? = some (12, 20) ∧ (∀ i, i < 6 → σ.1[b + (i + 1)]? = some (20, 6)) ∧ (∀ i, i < 2 → σ.1[b + (i + 7)]? = some (20, 5)) ∧ (∀ i, i < 8 → σ.2.2.2 b (i + 9) = some (b + (i + 1))) ∧ (∀ i, i < 8 → σ.2.1 b i = nI (B 8 i)) ∧ (∀ k p, k < 6 → p < B 8 3 → σ.2.1 (b + (k + 1)) p = nI (B k p)) ∧ ∀ k q, k < 2 → q < B 8 4 → σ.2.1 (b + (k + 7)) q = nI (B (k + 6) q)
def MX (B : Bch) (X : Nw) (σ : jd_Hp) : Prop := (∀ p, p < B 8 3 → σ.2.1 121 p = nI (X p)) ∧ σ.2.1 121 6 = nI (X 6) ∧ σ.2.1 121 7 = nI (X 7) ∧ σ.2.1 121 8 = nI (X 8)
def MV (B : Bch) (N : Nw) (σ : jd_Hp) : Prop := (∀ p, p < B 8 3 → σ.2.1 120 p = nI (N p)) ∧ σ.2.1 120 6 = nI (N 6) ∧ σ.2.1 120 7 = nI (N 7) ∧ σ.2.1 120 8 = nI (N 8)
def MA (B : Bch) (X : Nw) (b : Nat) (σ : jd_Hp) : Prop := Wd σ ∧ σ.2.2.2 118 3 = some b ∧ MT B b σ ∧ MX B X σ
section
variable {α : Type} {B : Bch} {N X : Nw} {b : Nat} {σ : jd_Hp} {A : Nat → Option (α × jd_Hp)} {A2 : Nat → Nat → Option (α × jd_Hp)} {j : Nat}
theorem mb_o (h : MT B b σ) : jd_o σ (12, 20) (some b) A = A b := jo_of h.2.1
theorem mx_p (h : MX B X σ) (hp : j < B 8 3) : σ.2.1 121 j = nI (X j) := h.1 j hp
theorem mx_6 (h : MX B X σ) : σ.2.1 121 6 = nI (X 6) := h.2.1
theorem mx_7 (h : MX B X σ) : σ.2.1 121 7 = nI (X 7) := h.2.2.1
theorem mx_8 (h : MX B X σ) : σ.2.1 121 8 = nI (X 8) := h.2.2.2
theorem mv_p (h : MV B X σ) (hp : j < B 8 3) : σ.2.1 120 j = nI (X j) := h.1 j hp
theorem mv_6 (h : MV B X σ) : σ.2.1 120 6 = nI (X 6) := h.2.1
theorem mv_7 (h : MV B X σ) : σ.2.1 120 7 = nI (X 7) := h.2.2.1
theorem mv_8 (h : MV B X σ) : σ.2.1 120 8 = nI (X 8) := h.2.2.2
theorem mb_j0 (h : MT B b σ) (hj : j < 6) : jd_ia σ 20 (some (b + 1)) (nI j) A2 = A2 (b + 1) j := jia_of (h.2.2.1 0 (by decide)) hj (by decide)
theorem mb_r0 (h : MT B b σ) : σ.2.2.2 b 9 = some (b + 1) := h.2.2.2.2.1 0 (by decide)
theorem mb_s0 (h : MT B b σ) : σ.2.1 b 0 = nI (B 8 0) := h.2.2.2.2.2.1 0 (by decide)
theorem mb_a0 (h : MT B b σ) (hp : j < B 8 3) : σ.2.1 (b + 1) j = nI (B 0 j) := h.2.2.2.2.2.2.1 0 j (by decide) hp
theorem mb_j1 (h : MT B b σ) (hj : j < 6) : jd_ia σ 20 (some (b + 2)) (nI j) A2 = A2 (b + 2) j := jia_of (h.2.2.1 1 (by decide)) hj (by decide)
theorem mb_r1 (h : MT B b σ) : σ.2.2.2 b 10 = some (b + 2) := h.2.2.2.2.1 1 (by decide)
theorem mb_s1 (h : MT B b σ) : σ.2.1 b 1 = nI (B 8 1) := h.2.2.2.2.2.1 1 (by decide)
theorem mb_a1 (h : MT B b σ) (hp : j < B 8 3) : σ.2.1 (b + 2) j = nI (B 1 j) := h.2.2.2.2.2.2.1 1 j (by decide) hp
theorem mb_j2 (h : MT B b σ) (hj : j < 6) : jd_ia σ 20 (some (b + 3)) (nI j) A2 = A2 (b + 3) j := jia_of (h.2.2.1 2 (by decide)) hj (by decide)
theorem mb_r2 (h : MT B b σ) : σ.2.2.2 b 11 = some (b + 3) := h.2.2.2.2.1 2 (by decide)
theorem mb_s2 (h : MT B b σ) : σ.2.1 b 2 = nI (B 8 2) := h.2.2.2.2.2.1 2 (by decide)
theorem mb_a2 (h : MT B b σ) (hp : j < B 8 3) : σ.2.1 (b + 3) j = nI (B 2 j) := h.2.2.2.2.2.2.1 2 j (by decide) hp
theorem mb_j3 (h : MT B b σ) (hj : j < 6) : jd_ia σ 20 (some (b + 4)) (nI j) A2 = A2 (b + 4) j := jia_of (h.2.2.1 3 (by decide)) hj (by decide)
theorem mb_r3 (h : MT B b σ) : σ.2.2.2 b 12 = some (b + 4) := h.2.2.2.2.1 3 (by decide)
theorem mb_s3 (h : MT B b σ) : σ.2.1 b 3 = nI (B 8 3) := h.2.2.2.2.2.1 3 (by decide)
theorem mb_a3 (h : MT B b σ) (hp : j < B 8 3) : σ.2.1 (b + 4) j = nI (B 3 j) := h.2.2.2.2.2.2.1 3 j (by decide) hp
theorem mb_j4 (h : MT B b σ) (hj : j < 6) : jd_ia σ 20 (some (b + 5)) (nI j) A2 = A2 (b + 5) j := jia_of (h.2.2.1 4 (by decide)) hj (by decide)
theorem mb_r4 (h : MT B b σ) : σ.2.2.2 b 13 = some (b + 5) := h.2.2.2.2.1 4 (by decide)
theorem mb_s4 (h : MT B b σ) : σ.2.1 b 4 = nI (B 8 4) := h.2.2.2.2.2.1 4 (by decide)
theorem mb_a4 (h : MT B b σ) (hp : j < B 8 3) : σ.2.1 (b + 5) j = nI (B 4 j) := h.2.2.2.2.2.2.1 4 j (by decide) hp
theorem mb_j5 (h : MT B b σ) (hj : j < 6) : jd_ia σ 20 (some (b + 6)) (nI j) A2 = A2 (b + 6) j := jia_of (h.2.2.1 5 (by decide)) hj (by decide)
theorem mb_r5 (h : MT B b σ) : σ.2.2.2 b 14 = some (b + 6) := h.2.2.2.2.1 5 (by decide)
theorem mb_s5 (h : MT B b σ) : σ.2.1 b 5 = nI (B 8 5) := h.2.2.2.2.2.1 5 (by decide)
theorem mb_a5 (h : MT B b σ) (hp : j < B 8 3) : σ.2.1 (b + 6) j = nI (B 5 j) := h.2.2.2.2.2.2.1 5 j (by decide) hp
theorem mb_j6 (h : MT B b σ) (hj : j < 5) : jd_ia σ 20 (some (b + 7)) (nI j) A2 = A2 (b + 7) j := jia_of (h.2.2.2.1 0 (by decide)) hj (by decide)
theorem mb_r6 (h : MT B b σ) : σ.2.2.2 b 15 = some (b + 7) := h.2.2.2.2.1 6 (by decide)
theorem mb_s6 (h : MT B b σ) : σ.2.1 b 6 = nI (B 8 6) := h.2.2.2.2.2.1 6 (by decide)
theorem mb_a6 (h : MT B b σ) (hp : j < B 8 4) : σ.2.1 (b + 7) j = nI (B 6 j) := h.2.2.2.2.2.2.2 0 j (by decide) hp
theorem mb_j7 (h : MT B b σ) (hj : j < 5) : jd_ia σ 20 (some (b + 8)) (nI j) A2 = A2 (b + 8) j := jia_of (h.2.2.2.1 1 (by decide)) hj (by decide)
theorem mb_r7 (h : MT B b σ) : σ.2.2.2 b 16 = some (b + 8) := h.2.2.2.2.1 7 (by decide)
theorem mb_s7 (h : MT B b σ) : σ.2.1 b 7 = nI (B 8 7) := h.2.2.2.2.2.1 7 (by decide)
theorem mb_a7 (h : MT B b σ) (hp : j < B 8 4) : σ.2.1 (b + 8) j = nI (B 7 j) := h.2.2.2.2.2.2.2 1 j (by decide) hp
end
