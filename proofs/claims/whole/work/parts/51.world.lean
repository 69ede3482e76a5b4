/-! P (1): the world behind the constructors; how a run is evaluated -/
def wS : List (Nat × Nat) := [(31, 0), (31, 0), (31, 0), (31, 0), (31, 0), (31, 0), (31, 0), (31, 0), (31, 0), (31, 0), (31, 0), (31, 0), (31, 0), (31, 0), (31, 0), (31, 0), (31, 0), (31, 0), (31, 0), (31, 0), (31, 0), (31, 0), (31, 0), (31, 0), (31, 0), (31, 0), (31, 0), (31, 0), (31, 0), (31, 0), (31, 0), (31, 0), (11, 12), (8, 2), (21, 900), (9, 16), (20, 11), (20, 11), (20, 11), (22, 11), (6, 8), (4, 4), (20, 6), (20, 6), (20, 6), (20, 5), (20, 6), (10, 16), (20, 6), (20, 6), (20, 6), (20, 6), (20, 6), (20, 6), (20, 5), (20, 5), (2, 5), (24, 16), (24, 3), (4, 4), (20, 6), (4, 4), (20, 6), (4, 4), (20, 6), (4, 4), (20, 6), (4, 4), (20, 6), (4, 4), (20, 6), (4, 4), (20, 6), (4, 4), (20, 6), (4, 4), (20, 6), (4, 4), (20, 6), (4, 4), (20, 6), (4, 4), (20, 6), (4, 4), (20, 6), (4, 4), (20, 6), (4, 4), (20, 6), (4, 4), (20, 6), (4, 4), (20, 6), (4, 4), (20, 6), (4, 4), (20, 6), (0, 4), (20, 6), (20, 6), (5, 4), (20, 6), (20, 6), (20, 6), (7, 3), (23, 6), (1, 2), (23, 7), (3, 2), (10, 16), (20, 6), (20, 6), (20, 6), (20, 6), (20, 6), (20, 6), (20, 5), (20, 5), (13, 29), (21, 900), (20, 9), (20, 9), (20, 144), (20, 27), (20, 7), (20, 7), (20, 6), (20, 6), (20, 6), (20, 6), (23, 1)]
def wR : List (Nat × Nat × Nat) := [(32, 0, 33), (32, 1, 35), (32, 2, 40), (32, 3, 56), (32, 4, 97), (32, 5, 100), (32, 6, 104), (32, 7, 106), (32, 8, 108), (33, 0, 34), (35, 0, 34), (35, 1, 36), (35, 2, 37), (35, 3, 38), (35, 4, 39), (40, 0, 41), (40, 1, 43), (40, 2, 44), (40, 3, 45), (40, 4, 46), (41, 0, 42), (47, 0, 48), (47, 1, 49), (47, 2, 50), (47, 3, 51), (47, 4, 52), (47, 5, 53), (47, 6, 54), (47, 7, 55), (56, 0, 57), (56, 1, 58), (57, 0, 59), (57, 1, 61), (57, 2, 63), (57, 3, 65), (57, 4, 67), (57, 5, 69), (57, 6, 71), (57, 7, 73), (57, 8, 75), (57, 9, 77), (57, 10, 79), (57, 11, 81), (57, 12, 83), (57, 13, 85), (57, 14, 87), (57, 15, 89), (58, 0, 91), (58, 1, 93), (58, 2, 95), (59, 0, 60), (61, 0, 62), (63, 0, 64), (65, 0, 66), (67, 0, 68), (69, 0, 70), (71, 0, 72), (73, 0, 74), (75, 0, 76), (77, 0, 78), (79, 0, 80), (81, 0, 82), (83, 0, 84), (85, 0, 86), (87, 0, 88), (89, 0, 90), (91, 0, 92), (93, 0, 94), (95, 0, 96), (97, 0, 98), (97, 1, 99), (100, 0, 101), (100, 1, 102), (100, 2, 103), (104, 0, 105), (106, 0, 107), (109, 0, 110), (109, 1, 111), (109, 2, 112), (109, 3, 113), (109, 4, 114), (109, 5, 115), (109, 6, 116), (109, 7, 117), (118, 5, 119), (118, 15, 120), (118, 16, 121), (118, 17, 122), (118, 18, 123), (118, 21, 124), (118, 22, 125), (118, 23, 126), (118, 25, 127), (118, 26, 128), (118, 27, 129)]
def Wd (σ : jd_Hp) : Prop := (∀ a, a < 131 → σ.1[a]? = wS[a]?) ∧ ∀ q ∈ wR, σ.2.2.2 q.1 q.2.1 = some q.2.2
theorem wd {σ : jd_Hp} (h : Wd σ) (a : Nat) {x : Nat × Nat} (ha : wS[a]? = some x) : σ.1[a]? = some x := by
  rw [h.1 a (show a < wS.length from (List.getElem?_eq_some_iff.mp ha).1)]
  exact ha
theorem Wd_pi (σ : jd_Hp) (a k : Nat) (v : Int32) : Wd (jd_pi σ a k v) = Wd σ := rfl
theorem Wd_pl (σ : jd_Hp) (a k : Nat) (v : Int64) : Wd (jd_pl σ a k v) = Wd σ := rfl
theorem jo_of {α : Type} {σ : jd_Hp} {x : Nat × Nat} {a : Nat} {A : Nat → Option (α × jd_Hp)} (h : σ.1[a]? = some x) : jd_o σ x (some a) A = A a := by simp [jd_o, h]
theorem jia_of {α : Type} {σ : jd_Hp} {kd n a j : Nat} {A : Nat → Nat → Option (α × jd_Hp)} (h : σ.1[a]? = some (kd, n)) (hj : j < n) (hn : n < 2147483648) : jd_ia σ kd (some a) (nI j) A = A a j := by
  have h1 : ¬ nI j < 0 := nI_pos (by omega)
  have h2 : (nI j).toNatClampNeg = j := nI_clamp (by omega)
  show (match σ.1[a]? with
    | some (k, n) => if k = kd ∧ ¬ nI j < 0 ∧ (nI j).toNatClampNeg < n then A a (nI j).toNatClampNeg else none
    | none => none) = A a j
  rw [h, h2]
  exact if_pos ⟨rfl, h1, hj⟩
theorem jb_some {α β : Type} {a : α} {σ : jd_Hp} {K : α → jd_Hp → Option (β × jd_Hp)} : jd_b (some (a, σ)) K = K a σ := id rfl
theorem jli {α β : Type} {v : α} {A : α → β} : jd_li v A = A v := id rfl
theorem jif_t {α : Type} {c : Prop} [Decidable c] {A B : Option (α × jd_Hp)} (h : c) : jd_if c A B = A := if_pos h
theorem jif_f {α : Type} {c : Prop} [Decidable c] {A B : Option (α × jd_Hp)} (h : ¬ c) : jd_if c A B = B := if_neg h
theorem jpi_r (σ : jd_Hp) (a k : Nat) (v : Int32) (b j : Nat) : (jd_pi σ a k v).2.1 b j = if b = a then (if j = k then v else σ.2.1 b j) else σ.2.1 b j := rfl
theorem jpi_l (σ : jd_Hp) (a k : Nat) (v : Int32) : (jd_pi σ a k v).2.2.1 = σ.2.2.1 := rfl
theorem jpi_p (σ : jd_Hp) (a k : Nat) (v : Int32) : (jd_pi σ a k v).2.2.2 = σ.2.2.2 := rfl
theorem jpi_s (σ : jd_Hp) (a k : Nat) (v : Int32) : (jd_pi σ a k v).1 = σ.1 := rfl
theorem jpl_r (σ : jd_Hp) (a k : Nat) (v : Int64) (b j : Nat) : (jd_pl σ a k v).2.2.1 b j = if b = a then (if j = k then v else σ.2.2.1 b j) else σ.2.2.1 b j := rfl
theorem jpl_i (σ : jd_Hp) (a k : Nat) (v : Int64) : (jd_pl σ a k v).2.1 = σ.2.1 := rfl
theorem jpl_p (σ : jd_Hp) (a k : Nat) (v : Int64) : (jd_pl σ a k v).2.2.2 = σ.2.2.2 := rfl
theorem jpl_s (σ : jd_Hp) (a k : Nat) (v : Int64) : (jd_pl σ a k v).1 = σ.1 := rfl
/-- a loop that counts -/
theorem jlp_for {S T : Type} {body : S → jd_Hp → Option ((S ⊕ T) × jd_Hp)} (N : Nat) (st : Nat → S) (hp : Nat → jd_Hp) {t : T} {σt : jd_Hp} (hs : ∀ i, i < N → body (st i) (hp i) = some (.inl (st (i + 1)), hp (i + 1))) (hx : body (st N) (hp N) = some (.inr t, σt)) : ∀ n, N < n → jd_lp body n (st 0) (hp 0) = some (t, σt) := by
  have key : ∀ (d i n : Nat), i + d = N → d < n → jd_lp body n (st i) (hp i) = some (t, σt) := by
    intro d
    induction d with
    | zero =>
      intro i n hi hn
      have : i = N := by omega
      subst this
      obtain ⟨n', rfl⟩ : ∃ n', n = n' + 1 := ⟨n - 1, by omega⟩
      show jd_b (body (st i) (hp i)) _ = _
      rw [hx]
      rfl
    | succ d ih =>
      intro i n hi hn
      obtain ⟨n', rfl⟩ : ∃ n', n = n' + 1 := ⟨n - 1, by omega⟩
      show jd_b (body (st i) (hp i)) _ = _
      rw [hs i (by omega)]
      exact ih (i + 1) n' (by omega) (by omega)
  intro n hn
  exact key N 0 n (by omega) hn
theorem jfu {N : Nat} (h : N < 100000) : N < jd_fu := h

theorem jo_32 {α : Type} {σ : jd_Hp} {A : Nat → Option (α × jd_Hp)} (h : Wd σ) : jd_o σ (11, 12) (some 32) A = A 32 := jo_of (wd h 32 rfl)
theorem jo_33 {α : Type} {σ : jd_Hp} {A : Nat → Option (α × jd_Hp)} (h : Wd σ) : jd_o σ (8, 2) (some 33) A = A 33 := jo_of (wd h 33 rfl)
theorem ja_34 {α : Type} {σ : jd_Hp} {j : Nat} {A : Nat → Nat → Option (α × jd_Hp)} (h : Wd σ) (hj : j < 900) : jd_ia σ 21 (some 34) (nI j) A = A 34 j := jia_of (wd h 34 rfl) hj (by decide)
theorem jo_35 {α : Type} {σ : jd_Hp} {A : Nat → Option (α × jd_Hp)} (h : Wd σ) : jd_o σ (9, 16) (some 35) A = A 35 := jo_of (wd h 35 rfl)
theorem ja_36 {α : Type} {σ : jd_Hp} {j : Nat} {A : Nat → Nat → Option (α × jd_Hp)} (h : Wd σ) (hj : j < 11) : jd_ia σ 20 (some 36) (nI j) A = A 36 j := jia_of (wd h 36 rfl) hj (by decide)
theorem ja_37 {α : Type} {σ : jd_Hp} {j : Nat} {A : Nat → Nat → Option (α × jd_Hp)} (h : Wd σ) (hj : j < 11) : jd_ia σ 20 (some 37) (nI j) A = A 37 j := jia_of (wd h 37 rfl) hj (by decide)
theorem ja_38 {α : Type} {σ : jd_Hp} {j : Nat} {A : Nat → Nat → Option (α × jd_Hp)} (h : Wd σ) (hj : j < 11) : jd_ia σ 20 (some 38) (nI j) A = A 38 j := jia_of (wd h 38 rfl) hj (by decide)
theorem ja_39 {α : Type} {σ : jd_Hp} {j : Nat} {A : Nat → Nat → Option (α × jd_Hp)} (h : Wd σ) (hj : j < 11) : jd_ia σ 22 (some 39) (nI j) A = A 39 j := jia_of (wd h 39 rfl) hj (by decide)
theorem jo_40 {α : Type} {σ : jd_Hp} {A : Nat → Option (α × jd_Hp)} (h : Wd σ) : jd_o σ (6, 8) (some 40) A = A 40 := jo_of (wd h 40 rfl)
theorem jo_41 {α : Type} {σ : jd_Hp} {A : Nat → Option (α × jd_Hp)} (h : Wd σ) : jd_o σ (4, 4) (some 41) A = A 41 := jo_of (wd h 41 rfl)
theorem ja_42 {α : Type} {σ : jd_Hp} {j : Nat} {A : Nat → Nat → Option (α × jd_Hp)} (h : Wd σ) (hj : j < 6) : jd_ia σ 20 (some 42) (nI j) A = A 42 j := jia_of (wd h 42 rfl) hj (by decide)
theorem ja_43 {α : Type} {σ : jd_Hp} {j : Nat} {A : Nat → Nat → Option (α × jd_Hp)} (h : Wd σ) (hj : j < 6) : jd_ia σ 20 (some 43) (nI j) A = A 43 j := jia_of (wd h 43 rfl) hj (by decide)
theorem ja_44 {α : Type} {σ : jd_Hp} {j : Nat} {A : Nat → Nat → Option (α × jd_Hp)} (h : Wd σ) (hj : j < 6) : jd_ia σ 20 (some 44) (nI j) A = A 44 j := jia_of (wd h 44 rfl) hj (by decide)
theorem ja_45 {α : Type} {σ : jd_Hp} {j : Nat} {A : Nat → Nat → Option (α × jd_Hp)} (h : Wd σ) (hj : j < 5) : jd_ia σ 20 (some 45) (nI j) A = A 45 j := jia_of (wd h 45 rfl) hj (by decide)
theorem ja_46 {α : Type} {σ : jd_Hp} {j : Nat} {A : Nat → Nat → Option (α × jd_Hp)} (h : Wd σ) (hj : j < 6) : jd_ia σ 20 (some 46) (nI j) A = A 46 j := jia_of (wd h 46 rfl) hj (by decide)
theorem jo_47 {α : Type} {σ : jd_Hp} {A : Nat → Option (α × jd_Hp)} (h : Wd σ) : jd_o σ (10, 16) (some 47) A = A 47 := jo_of (wd h 47 rfl)
theorem ja_48 {α : Type} {σ : jd_Hp} {j : Nat} {A : Nat → Nat → Option (α × jd_Hp)} (h : Wd σ) (hj : j < 6) : jd_ia σ 20 (some 48) (nI j) A = A 48 j := jia_of (wd h 48 rfl) hj (by decide)
theorem ja_49 {α : Type} {σ : jd_Hp} {j : Nat} {A : Nat → Nat → Option (α × jd_Hp)} (h : Wd σ) (hj : j < 6) : jd_ia σ 20 (some 49) (nI j) A = A 49 j := jia_of (wd h 49 rfl) hj (by decide)
theorem ja_50 {α : Type} {σ : jd_Hp} {j : Nat} {A : Nat → Nat → Option (α × jd_Hp)} (h : Wd σ) (hj : j < 6) : jd_ia σ 20 (some 50) (nI j) A = A 50 j := jia_of (wd h 50 rfl) hj (by decide)
theorem ja_51 {α : Type} {σ : jd_Hp} {j : Nat} {A : Nat → Nat → Option (α × jd_Hp)} (h : Wd σ) (hj : j < 6) : jd_ia σ 20 (some 51) (nI j) A = A 51 j := jia_of (wd h 51 rfl) hj (by decide)
theorem ja_52 {α : Type} {σ : jd_Hp} {j : Nat} {A : Nat → Nat → Option (α × jd_Hp)} (h : Wd σ) (hj : j < 6) : jd_ia σ 20 (some 52) (nI j) A = A 52 j := jia_of (wd h 52 rfl) hj (by decide)
theorem ja_53 {α : Type} {σ : jd_Hp} {j : Nat} {A : Nat → Nat → Option (α × jd_Hp)} (h : Wd σ) (hj : j < 6) : jd_ia σ 20 (some 53) (nI j) A = A 53 j := jia_of (wd h 53 rfl) hj (by decide)
theorem ja_54 {α : Type} {σ : jd_Hp} {j : Nat} {A : Nat → Nat → Option (α × jd_Hp)} (h : Wd σ) (hj : j < 5) : jd_ia σ 20 (some 54) (nI j) A = A 54 j := jia_of (wd h 54 rfl) hj (by decide)
theorem ja_55 {α : Type} {σ : jd_Hp} {j : Nat} {A : Nat → Nat → Option (α × jd_Hp)} (h : Wd σ) (hj : j < 5) : jd_ia σ 20 (some 55) (nI j) A = A 55 j := jia_of (wd h 55 rfl) hj (by decide)
theorem jo_56 {α : Type} {σ : jd_Hp} {A : Nat → Option (α × jd_Hp)} (h : Wd σ) : jd_o σ (2, 5) (some 56) A = A 56 := jo_of (wd h 56 rfl)
theorem ja_57 {α : Type} {σ : jd_Hp} {j : Nat} {A : Nat → Nat → Option (α × jd_Hp)} (h : Wd σ) (hj : j < 16) : jd_ia σ 24 (some 57) (nI j) A = A 57 j := jia_of (wd h 57 rfl) hj (by decide)
theorem ja_58 {α : Type} {σ : jd_Hp} {j : Nat} {A : Nat → Nat → Option (α × jd_Hp)} (h : Wd σ) (hj : j < 3) : jd_ia σ 24 (some 58) (nI j) A = A 58 j := jia_of (wd h 58 rfl) hj (by decide)
theorem jo_59 {α : Type} {σ : jd_Hp} {A : Nat → Option (α × jd_Hp)} (h : Wd σ) : jd_o σ (4, 4) (some 59) A = A 59 := jo_of (wd h 59 rfl)
theorem ja_60 {α : Type} {σ : jd_Hp} {j : Nat} {A : Nat → Nat → Option (α × jd_Hp)} (h : Wd σ) (hj : j < 6) : jd_ia σ 20 (some 60) (nI j) A = A 60 j := jia_of (wd h 60 rfl) hj (by decide)
theorem jo_61 {α : Type} {σ : jd_Hp} {A : Nat → Option (α × jd_Hp)} (h : Wd σ) : jd_o σ (4, 4) (some 61) A = A 61 := jo_of (wd h 61 rfl)
theorem ja_62 {α : Type} {σ : jd_Hp} {j : Nat} {A : Nat → Nat → Option (α × jd_Hp)} (h : Wd σ) (hj : j < 6) : jd_ia σ 20 (some 62) (nI j) A = A 62 j := jia_of (wd h 62 rfl) hj (by decide)
theorem jo_63 {α : Type} {σ : jd_Hp} {A : Nat → Option (α × jd_Hp)} (h : Wd σ) : jd_o σ (4, 4) (some 63) A = A 63 := jo_of (wd h 63 rfl)
theorem ja_64 {α : Type} {σ : jd_Hp} {j : Nat} {A : Nat → Nat → Option (α × jd_Hp)} (h : Wd σ) (hj : j < 6) : jd_ia σ 20 (some 64) (nI j) A = A 64 j := jia_of (wd h 64 rfl) hj (by decide)
theorem jo_65 {α : Type} {σ : jd_Hp} {A : Nat → Option (α × jd_Hp)} (h : Wd σ) : jd_o σ (4, 4) (some 65) A = A 65 := jo_of (wd h 65 rfl)
theorem ja_66 {α : Type} {σ : jd_Hp} {j : Nat} {A : Nat → Nat → Option (α × jd_Hp)} (h : Wd σ) (hj : j < 6) : jd_ia σ 20 (some 66) (nI j) A = A 66 j := jia_of (wd h 66 rfl) hj (by decide)
theorem jo_67 {α : Type} {σ : jd_Hp} {A : Nat → Option (α × jd_Hp)} (h : Wd σ) : jd_o σ (4, 4) (some 67) A = A 67 := jo_of (wd h 67 rfl)
theorem ja_68 {α : Type} {σ : jd_Hp} {j : Nat} {A : Nat → Nat → Option (α × jd_Hp)} (h : Wd σ) (hj : j < 6) : jd_ia σ 20 (some 68) (nI j) A = A 68 j := jia_of (wd h 68 rfl) hj (by decide)
theorem jo_69 {α : Type} {σ : jd_Hp} {A : Nat → Option (α × jd_Hp)} (h : Wd σ) : jd_o σ (4, 4) (some 69) A = A 69 := jo_of (wd h 69 rfl)
theorem ja_70 {α : Type} {σ : jd_Hp} {j : Nat} {A : Nat → Nat → Option (α × jd_Hp)} (h : Wd σ) (hj : j < 6) : jd_ia σ 20 (some 70) (nI j) A = A 70 j := jia_of (wd h 70 rfl) hj (by decide)
theorem jo_71 {α : Type} {σ : jd_Hp} {A : Nat → Option (α × jd_Hp)} (h : Wd σ) : jd_o σ (4, 4) (some 71) A = A 71 := jo_of (wd h 71 rfl)
theorem ja_72 {α : Type} {σ : jd_Hp} {j : Nat} {A : Nat → Nat → Option (α × jd_Hp)} (h : Wd σ) (hj : j < 6) : jd_ia σ 20 (some 72) (nI j) A = A 72 j := jia_of (wd h 72 rfl) hj (by decide)
theorem jo_73 {α : Type} {σ : jd_Hp} {A : Nat → Option (α × jd_Hp)} (h : Wd σ) : jd_o σ (4, 4) (some 73) A = A 73 := jo_of (wd h 73 rfl)
theorem ja_74 {α : Type} {σ : jd_Hp} {j : Nat} {A : Nat → Nat → Option (α × jd_Hp)} (h : Wd σ) (hj : j < 6) : jd_ia σ 20 (some 74) (nI j) A = A 74 j := jia_of (wd h 74 rfl) hj (by decide)
theorem jo_75 {α : Type} {σ : jd_Hp} {A : Nat → Option (α × jd_Hp)} (h : Wd σ) : jd_o σ (4, 4) (some 75) A = A 75 := jo_of (wd h 75 rfl)
theorem ja_76 {α : Type} {σ : jd_Hp} {j : Nat} {A : Nat → Nat → Option (α × jd_Hp)} (h : Wd σ) (hj : j < 6) : jd_ia σ 20 (some 76) (nI j) A = A 76 j := jia_of (wd h 76 rfl) hj (by decide)
theorem jo_77 {α : Type} {σ : jd_Hp} {A : Nat → Option (α × jd_Hp)} (h : Wd σ) : jd_o σ (4, 4) (some 77) A = A 77 := jo_of (wd h 77 rfl)
theorem ja_78 {α : Type} {σ : jd_Hp} {j : Nat} {A : Nat → Nat → Option (α × jd_Hp)} (h : Wd σ) (hj : j < 6) : jd_ia σ 20 (some 78) (nI j) A = A 78 j := jia_of (wd h 78 rfl) hj (by decide)
theorem jo_79 {α : Type} {σ : jd_Hp} {A : Nat → Option (α × jd_Hp)} (h : Wd σ) : jd_o σ (4, 4) (some 79) A = A 79 := jo_of (wd h 79 rfl)
theorem ja_80 {α : Type} {σ : jd_Hp} {j : Nat} {A : Nat → Nat → Option (α × jd_Hp)} (h : Wd σ) (hj : j < 6) : jd_ia σ 20 (some 80) (nI j) A = A 80 j := jia_of (wd h 80 rfl) hj (by decide)
theorem jo_81 {α : Type} {σ : jd_Hp} {A : Nat → Option (α × jd_Hp)} (h : Wd σ) : jd_o σ (4, 4) (some 81) A = A 81 := jo_of (wd h 81 rfl)
theorem ja_82 {α : Type} {σ : jd_Hp} {j : Nat} {A : Nat → Nat → Option (α × jd_Hp)} (h : Wd σ) (hj : j < 6) : jd_ia σ 20 (some 82) (nI j) A = A 82 j := jia_of (wd h 82 rfl) hj (by decide)
theorem jo_83 {α : Type} {σ : jd_Hp} {A : Nat → Option (α × jd_Hp)} (h : Wd σ) : jd_o σ (4, 4) (some 83) A = A 83 := jo_of (wd h 83 rfl)
theorem ja_84 {α : Type} {σ : jd_Hp} {j : Nat} {A : Nat → Nat → Option (α × jd_Hp)} (h : Wd σ) (hj : j < 6) : jd_ia σ 20 (some 84) (nI j) A = A 84 j := jia_of (wd h 84 rfl) hj (by decide)
theorem jo_85 {α : Type} {σ : jd_Hp} {A : Nat → Option (α × jd_Hp)} (h : Wd σ) : jd_o σ (4, 4) (some 85) A = A 85 := jo_of (wd h 85 rfl)
theorem ja_86 {α : Type} {σ : jd_Hp} {j : Nat} {A : Nat → Nat → Option (α × jd_Hp)} (h : Wd σ) (hj : j < 6) : jd_ia σ 20 (some 86) (nI j) A = A 86 j := jia_of (wd h 86 rfl) hj (by decide)
theorem jo_87 {α : Type} {σ : jd_Hp} {A : Nat → Option (α × jd_Hp)} (h : Wd σ) : jd_o σ (4, 4) (some 87) A = A 87 := jo_of (wd h 87 rfl)
theorem ja_88 {α : Type} {σ : jd_Hp} {j : Nat} {A : Nat → Nat → Option (α × jd_Hp)} (h : Wd σ) (hj : j < 6) : jd_ia σ 20 (some 88) (nI j) A = A 88 j := jia_of (wd h 88 rfl) hj (by decide)
theorem jo_89 {α : Type} {σ : jd_Hp} {A : Nat → Option (α × jd_Hp)} (h : Wd σ) : jd_o σ (4, 4) (some 89) A = A 89 := jo_of (wd h 89 rfl)
theorem ja_90 {α : Type} {σ : jd_Hp} {j : Nat} {A : Nat → Nat → Option (α × jd_Hp)} (h : Wd σ) (hj : j < 6) : jd_ia σ 20 (some 90) (nI j) A = A 90 j := jia_of (wd h 90 rfl) hj (by decide)
theorem jo_91 {α : Type} {σ : jd_Hp} {A : Nat → Option (α × jd_Hp)} (h : Wd σ) : jd_o σ (4, 4) (some 91) A = A 91 := jo_of (wd h 91 rfl)
theorem ja_92 {α : Type} {σ : jd_Hp} {j : Nat} {A : Nat → Nat → Option (α × jd_Hp)} (h : Wd σ) (hj : j < 6) : jd_ia σ 20 (some 92) (nI j) A = A 92 j := jia_of (wd h 92 rfl) hj (by decide)
theorem jo_93 {α : Type} {σ : jd_Hp} {A : Nat → Option (α × jd_Hp)} (h : Wd σ) : jd_o σ (4, 4) (some 93) A = A 93 := jo_of (wd h 93 rfl)
theorem ja_94 {α : Type} {σ : jd_Hp} {j : Nat} {A : Nat → Nat → Option (α × jd_Hp)} (h : Wd σ) (hj : j < 6) : jd_ia σ 20 (some 94) (nI j) A = A 94 j := jia_of (wd h 94 rfl) hj (by decide)
theorem jo_95 {α : Type} {σ : jd_Hp} {A : Nat → Option (α × jd_Hp)} (h : Wd σ) : jd_o σ (4, 4) (some 95) A = A 95 := jo_of (wd h 95 rfl)
theorem ja_96 {α : Type} {σ : jd_Hp} {j : Nat} {A : Nat → Nat → Option (α × jd_Hp)} (h : Wd σ) (hj : j < 6) : jd_ia σ 20 (some 96) (nI j) A = A 96 j := jia_of (wd h 96 rfl) hj (by decide)
theorem jo_97 {α : Type} {σ : jd_Hp} {A : Nat → Option (α × jd_Hp)} (h : Wd σ) : jd_o σ (0, 4) (some 97) A = A 97 := jo_of (wd h 97 rfl)
theorem ja_98 {α : Type} {σ : jd_Hp} {j : Nat} {A : Nat → Nat → Option (α × jd_Hp)} (h : Wd σ) (hj : j < 6) : jd_ia σ 20 (some 98) (nI j) A = A 98 j := jia_of (wd h 98 rfl) hj (by decide)
theorem ja_99 {α : Type} {σ : jd_Hp} {j : Nat} {A : Nat → Nat → Option (α × jd_Hp)} (h : Wd σ) (hj : j < 6) : jd_ia σ 20 (some 99) (nI j) A = A 99 j := jia_of (wd h 99 rfl) hj (by decide)
theorem jo_100 {α : Type} {σ : jd_Hp} {A : Nat → Option (α × jd_Hp)} (h : Wd σ) : jd_o σ (5, 4) (some 100) A = A 100 := jo_of (wd h 100 rfl)
theorem ja_101 {α : Type} {σ : jd_Hp} {j : Nat} {A : Nat → Nat → Option (α × jd_Hp)} (h : Wd σ) (hj : j < 6) : jd_ia σ 20 (some 101) (nI j) A = A 101 j := jia_of (wd h 101 rfl) hj (by decide)
theorem ja_102 {α : Type} {σ : jd_Hp} {j : Nat} {A : Nat → Nat → Option (α × jd_Hp)} (h : Wd σ) (hj : j < 6) : jd_ia σ 20 (some 102) (nI j) A = A 102 j := jia_of (wd h 102 rfl) hj (by decide)
theorem ja_103 {α : Type} {σ : jd_Hp} {j : Nat} {A : Nat → Nat → Option (α × jd_Hp)} (h : Wd σ) (hj : j < 6) : jd_ia σ 20 (some 103) (nI j) A = A 103 j := jia_of (wd h 103 rfl) hj (by decide)
theorem jo_104 {α : Type} {σ : jd_Hp} {A : Nat → Option (α × jd_Hp)} (h : Wd σ) : jd_o σ (7, 3) (some 104) A = A 104 := jo_of (wd h 104 rfl)
theorem ja_105 {α : Type} {σ : jd_Hp} {j : Nat} {A : Nat → Nat → Option (α × jd_Hp)} (h : Wd σ) (hj : j < 6) : jd_ia σ 23 (some 105) (nI j) A = A 105 j := jia_of (wd h 105 rfl) hj (by decide)
theorem jo_106 {α : Type} {σ : jd_Hp} {A : Nat → Option (α × jd_Hp)} (h : Wd σ) : jd_o σ (1, 2) (some 106) A = A 106 := jo_of (wd h 106 rfl)
theorem ja_107 {α : Type} {σ : jd_Hp} {j : Nat} {A : Nat → Nat → Option (α × jd_Hp)} (h : Wd σ) (hj : j < 7) : jd_ia σ 23 (some 107) (nI j) A = A 107 j := jia_of (wd h 107 rfl) hj (by decide)
theorem jo_108 {α : Type} {σ : jd_Hp} {A : Nat → Option (α × jd_Hp)} (h : Wd σ) : jd_o σ (3, 2) (some 108) A = A 108 := jo_of (wd h 108 rfl)
theorem jo_109 {α : Type} {σ : jd_Hp} {A : Nat → Option (α × jd_Hp)} (h : Wd σ) : jd_o σ (10, 16) (some 109) A = A 109 := jo_of (wd h 109 rfl)
theorem ja_110 {α : Type} {σ : jd_Hp} {j : Nat} {A : Nat → Nat → Option (α × jd_Hp)} (h : Wd σ) (hj : j < 6) : jd_ia σ 20 (some 110) (nI j) A = A 110 j := jia_of (wd h 110 rfl) hj (by decide)
theorem ja_111 {α : Type} {σ : jd_Hp} {j : Nat} {A : Nat → Nat → Option (α × jd_Hp)} (h : Wd σ) (hj : j < 6) : jd_ia σ 20 (some 111) (nI j) A = A 111 j := jia_of (wd h 111 rfl) hj (by decide)
theorem ja_112 {α : Type} {σ : jd_Hp} {j : Nat} {A : Nat → Nat → Option (α × jd_Hp)} (h : Wd σ) (hj : j < 6) : jd_ia σ 20 (some 112) (nI j) A = A 112 j := jia_of (wd h 112 rfl) hj (by decide)
theorem ja_113 {α : Type} {σ : jd_Hp} {j : Nat} {A : Nat → Nat → Option (α × jd_Hp)} (h : Wd σ) (hj : j < 6) : jd_ia σ 20 (some 113) (nI j) A = A 113 j := jia_of (wd h 113 rfl) hj (by decide)
theorem ja_114 {α : Type} {σ : jd_Hp} {j : Nat} {A : Nat → Nat → Option (α × jd_Hp)} (h : Wd σ) (hj : j < 6) : jd_ia σ 20 (some 114) (nI j) A = A 114 j := jia_of (wd h 114 rfl) hj (by decide)
theorem ja_115 {α : Type} {σ : jd_Hp} {j : Nat} {A : Nat → Nat → Option (α × jd_Hp)} (h : Wd σ) (hj : j < 6) : jd_ia σ 20 (some 115) (nI j) A = A 115 j := jia_of (wd h 115 rfl) hj (by decide)
theorem ja_116 {α : Type} {σ : jd_Hp} {j : Nat} {A : Nat → Nat → Option (α × jd_Hp)} (h : Wd σ) (hj : j < 5) : jd_ia σ 20 (some 116) (nI j) A = A 116 j := jia_of (wd h 116 rfl) hj (by decide)
theorem ja_117 {α : Type} {σ : jd_Hp} {j : Nat} {A : Nat → Nat → Option (α × jd_Hp)} (h : Wd σ) (hj : j < 5) : jd_ia σ 20 (some 117) (nI j) A = A 117 j := jia_of (wd h 117 rfl) hj (by decide)
theorem jo_118 {α : Type} {σ : jd_Hp} {A : Nat → Option (α × jd_Hp)} (h : Wd σ) : jd_o σ (13, 29) (some 118) A = A 118 := jo_of (wd h 118 rfl)
theorem ja_119 {α : Type} {σ : jd_Hp} {j : Nat} {A : Nat → Nat → Option (α × jd_Hp)} (h : Wd σ) (hj : j < 900) : jd_ia σ 21 (some 119) (nI j) A = A 119 j := jia_of (wd h 119 rfl) hj (by decide)
theorem ja_120 {α : Type} {σ : jd_Hp} {j : Nat} {A : Nat → Nat → Option (α × jd_Hp)} (h : Wd σ) (hj : j < 9) : jd_ia σ 20 (some 120) (nI j) A = A 120 j := jia_of (wd h 120 rfl) hj (by decide)
theorem ja_121 {α : Type} {σ : jd_Hp} {j : Nat} {A : Nat → Nat → Option (α × jd_Hp)} (h : Wd σ) (hj : j < 9) : jd_ia σ 20 (some 121) (nI j) A = A 121 j := jia_of (wd h 121 rfl) hj (by decide)
theorem ja_122 {α : Type} {σ : jd_Hp} {j : Nat} {A : Nat → Nat → Option (α × jd_Hp)} (h : Wd σ) (hj : j < 144) : jd_ia σ 20 (some 122) (nI j) A = A 122 j := jia_of (wd h 122 rfl) hj (by decide)
theorem ja_123 {α : Type} {σ : jd_Hp} {j : Nat} {A : Nat → Nat → Option (α × jd_Hp)} (h : Wd σ) (hj : j < 27) : jd_ia σ 20 (some 123) (nI j) A = A 123 j := jia_of (wd h 123 rfl) hj (by decide)
theorem ja_124 {α : Type} {σ : jd_Hp} {j : Nat} {A : Nat → Nat → Option (α × jd_Hp)} (h : Wd σ) (hj : j < 7) : jd_ia σ 20 (some 124) (nI j) A = A 124 j := jia_of (wd h 124 rfl) hj (by decide)
theorem ja_125 {α : Type} {σ : jd_Hp} {j : Nat} {A : Nat → Nat → Option (α × jd_Hp)} (h : Wd σ) (hj : j < 7) : jd_ia σ 20 (some 125) (nI j) A = A 125 j := jia_of (wd h 125 rfl) hj (by decide)
theorem ja_126 {α : Type} {σ : jd_Hp} {j : Nat} {A : Nat → Nat → Option (α × jd_Hp)} (h : Wd σ) (hj : j < 6) : jd_ia σ 20 (some 126) (nI j) A = A 126 j := jia_of (wd h 126 rfl) hj (by decide)
theorem ja_127 {α : Type} {σ : jd_Hp} {j : Nat} {A : Nat → Nat → Option (α × jd_Hp)} (h : Wd σ) (hj : j < 6) : jd_ia σ 20 (some 127) (nI j) A = A 127 j := jia_of (wd h 127 rfl) hj (by decide)
theorem ja_128 {α : Type} {σ : jd_Hp} {j : Nat} {A : Nat → Nat → Option (α × jd_Hp)} (h : Wd σ) (hj : j < 6) : jd_ia σ 20 (some 128) (nI j) A = A 128 j := jia_of (wd h 128 rfl) hj (by decide)
theorem ja_129 {α : Type} {σ : jd_Hp} {j : Nat} {A : Nat → Nat → Option (α × jd_Hp)} (h : Wd σ) (hj : j < 6) : jd_ia σ 20 (some 129) (nI j) A = A 129 j := jia_of (wd h 129 rfl) hj (by decide)
theorem ja_130 {α : Type} {σ : jd_Hp} {j : Nat} {A : Nat → Nat → Option (α × jd_Hp)} (h : Wd σ) (hj : j < 1) : jd_ia σ 23 (some 130) (nI j) A = A 130 j := jia_of (wd h 130 rfl) hj (by decide)
theorem wr_32_0 {σ : jd_Hp} (h : Wd σ) : σ.2.2.2 32 0 = some 33 := h.2 (32, 0, 33) (List.mem_of_getElem? (i := 0) rfl)
theorem wr_32_1 {σ : jd_Hp} (h : Wd σ) : σ.2.2.2 32 1 = some 35 := h.2 (32, 1, 35) (List.mem_of_getElem? (i := 1) rfl)
theorem wr_32_2 {σ : jd_Hp} (h : Wd σ) : σ.2.2.2 32 2 = some 40 := h.2 (32, 2, 40) (List.mem_of_getElem? (i := 2) rfl)
theorem wr_32_3 {σ : jd_Hp} (h : Wd σ) : σ.2.2.2 32 3 = some 56 := h.2 (32, 3, 56) (List.mem_of_getElem? (i := 3) rfl)
theorem wr_32_4 {σ : jd_Hp} (h : Wd σ) : σ.2.2.2 32 4 = some 97 := h.2 (32, 4, 97) (List.mem_of_getElem? (i := 4) rfl)
theorem wr_32_5 {σ : jd_Hp} (h : Wd σ) : σ.2.2.2 32 5 = some 100 := h.2 (32, 5, 100) (List.mem_of_getElem? (i := 5) rfl)
theorem wr_32_6 {σ : jd_Hp} (h : Wd σ) : σ.2.2.2 32 6 = some 104 := h.2 (32, 6, 104) (List.mem_of_getElem? (i := 6) rfl)
theorem wr_32_7 {σ : jd_Hp} (h : Wd σ) : σ.2.2.2 32 7 = some 106 := h.2 (32, 7, 106) (List.mem_of_getElem? (i := 7) rfl)
theorem wr_32_8 {σ : jd_Hp} (h : Wd σ) : σ.2.2.2 32 8 = some 108 := h.2 (32, 8, 108) (List.mem_of_getElem? (i := 8) rfl)
theorem wr_33_0 {σ : jd_Hp} (h : Wd σ) : σ.2.2.2 33 0 = some 34 := h.2 (33, 0, 34) (List.mem_of_getElem? (i := 9) rfl)
theorem wr_35_0 {σ : jd_Hp} (h : Wd σ) : σ.2.2.2 35 0 = some 34 := h.2 (35, 0, 34) (List.mem_of_getElem? (i := 10) rfl)
theorem wr_35_1 {σ : jd_Hp} (h : Wd σ) : σ.2.2.2 35 1 = some 36 := h.2 (35, 1, 36) (List.mem_of_getElem? (i := 11) rfl)
theorem wr_35_2 {σ : jd_Hp} (h : Wd σ) : σ.2.2.2 35 2 = some 37 := h.2 (35, 2, 37) (List.mem_of_getElem? (i := 12) rfl)
theorem wr_35_3 {σ : jd_Hp} (h : Wd σ) : σ.2.2.2 35 3 = some 38 := h.2 (35, 3, 38) (List.mem_of_getElem? (i := 13) rfl)
theorem wr_35_4 {σ : jd_Hp} (h : Wd σ) : σ.2.2.2 35 4 = some 39 := h.2 (35, 4, 39) (List.mem_of_getElem? (i := 14) rfl)
theorem wr_40_0 {σ : jd_Hp} (h : Wd σ) : σ.2.2.2 40 0 = some 41 := h.2 (40, 0, 41) (List.mem_of_getElem? (i := 15) rfl)
theorem wr_40_1 {σ : jd_Hp} (h : Wd σ) : σ.2.2.2 40 1 = some 43 := h.2 (40, 1, 43) (List.mem_of_getElem? (i := 16) rfl)
theorem wr_40_2 {σ : jd_Hp} (h : Wd σ) : σ.2.2.2 40 2 = some 44 := h.2 (40, 2, 44) (List.mem_of_getElem? (i := 17) rfl)
theorem wr_40_3 {σ : jd_Hp} (h : Wd σ) : σ.2.2.2 40 3 = some 45 := h.2 (40, 3, 45) (List.mem_of_getElem? (i := 18) rfl)
theorem wr_40_4 {σ : jd_Hp} (h : Wd σ) : σ.2.2.2 40 4 = some 46 := h.2 (40, 4, 46) (List.mem_of_getElem? (i := 19) rfl)
theorem wr_41_0 {σ : jd_Hp} (h : Wd σ) : σ.2.2.2 41 0 = some 42 := h.2 (41, 0, 42) (List.mem_of_getElem? (i := 20) rfl)
theorem wr_47_0 {σ : jd_Hp} (h : Wd σ) : σ.2.2.2 47 0 = some 48 := h.2 (47, 0, 48) (List.mem_of_getElem? (i := 21) rfl)
theorem wr_47_1 {σ : jd_Hp} (h : Wd σ) : σ.2.2.2 47 1 = some 49 := h.2 (47, 1, 49) (List.mem_of_getElem? (i := 22) rfl)
theorem wr_47_2 {σ : jd_Hp} (h : Wd σ) : σ.2.2.2 47 2 = some 50 := h.2 (47, 2, 50) (List.mem_of_getElem? (i := 23) rfl)
theorem wr_47_3 {σ : jd_Hp} (h : Wd σ) : σ.2.2.2 47 3 = some 51 := h.2 (47, 3, 51) (List.mem_of_getElem? (i := 24) rfl)
theorem wr_47_4 {σ : jd_Hp} (h : Wd σ) : σ.2.2.2 47 4 = some 52 := h.2 (47, 4, 52) (List.mem_of_getElem? (i := 25) rfl)
theorem wr_47_5 {σ : jd_Hp} (h : Wd σ) : σ.2.2.2 47 5 = some 53 := h.2 (47, 5, 53) (List.mem_of_getElem? (i := 26) rfl)
theorem wr_47_6 {σ : jd_Hp} (h : Wd σ) : σ.2.2.2 47 6 = some 54 := h.2 (47, 6, 54) (List.mem_of_getElem? (i := 27) rfl)
theorem wr_47_7 {σ : jd_Hp} (h : Wd σ) : σ.2.2.2 47 7 = some 55 := h.2 (47, 7, 55) (List.mem_of_getElem? (i := 28) rfl)
theorem wr_56_0 {σ : jd_Hp} (h : Wd σ) : σ.2.2.2 56 0 = some 57 := h.2 (56, 0, 57) (List.mem_of_getElem? (i := 29) rfl)
theorem wr_56_1 {σ : jd_Hp} (h : Wd σ) : σ.2.2.2 56 1 = some 58 := h.2 (56, 1, 58) (List.mem_of_getElem? (i := 30) rfl)
theorem wr_59_0 {σ : jd_Hp} (h : Wd σ) : σ.2.2.2 59 0 = some 60 := h.2 (59, 0, 60) (List.mem_of_getElem? (i := 50) rfl)
theorem wr_61_0 {σ : jd_Hp} (h : Wd σ) : σ.2.2.2 61 0 = some 62 := h.2 (61, 0, 62) (List.mem_of_getElem? (i := 51) rfl)
theorem wr_63_0 {σ : jd_Hp} (h : Wd σ) : σ.2.2.2 63 0 = some 64 := h.2 (63, 0, 64) (List.mem_of_getElem? (i := 52) rfl)
theorem wr_65_0 {σ : jd_Hp} (h : Wd σ) : σ.2.2.2 65 0 = some 66 := h.2 (65, 0, 66) (List.mem_of_getElem? (i := 53) rfl)
theorem wr_67_0 {σ : jd_Hp} (h : Wd σ) : σ.2.2.2 67 0 = some 68 := h.2 (67, 0, 68) (List.mem_of_getElem? (i := 54) rfl)
theorem wr_69_0 {σ : jd_Hp} (h : Wd σ) : σ.2.2.2 69 0 = some 70 := h.2 (69, 0, 70) (List.mem_of_getElem? (i := 55) rfl)
theorem wr_71_0 {σ : jd_Hp} (h : Wd σ) : σ.2.2.2 71 0 = some 72 := h.2 (71, 0, 72) (List.mem_of_getElem? (i := 56) rfl)
theorem wr_73_0 {σ : jd_Hp} (h : Wd σ) : σ.2.2.2 73 0 = some 74 := h.2 (73, 0, 74) (List.mem_of_getElem? (i := 57) rfl)
theorem wr_75_0 {σ : jd_Hp} (h : Wd σ) : σ.2.2.2 75 0 = some 76 := h.2 (75, 0, 76) (List.mem_of_getElem? (i := 58) rfl)
theorem wr_77_0 {σ : jd_Hp} (h : Wd σ) : σ.2.2.2 77 0 = some 78 := h.2 (77, 0, 78) (List.mem_of_getElem? (i := 59) rfl)
theorem wr_79_0 {σ : jd_Hp} (h : Wd σ) : σ.2.2.2 79 0 = some 80 := h.2 (79, 0, 80) (List.mem_of_getElem? (i := 60) rfl)
theorem wr_81_0 {σ : jd_Hp} (h : Wd σ) : σ.2.2.2 81 0 = some 82 := h.2 (81, 0, 82) (List.mem_of_getElem? (i := 61) rfl)
theorem wr_83_0 {σ : jd_Hp} (h : Wd σ) : σ.2.2.2 83 0 = some 84 := h.2 (83, 0, 84) (List.mem_of_getElem? (i := 62) rfl)
theorem wr_85_0 {σ : jd_Hp} (h : Wd σ) : σ.2.2.2 85 0 = some 86 := h.2 (85, 0, 86) (List.mem_of_getElem? (i := 63) rfl)
theorem wr_87_0 {σ : jd_Hp} (h : Wd σ) : σ.2.2.2 87 0 = some 88 := h.2 (87, 0, 88) (List.mem_of_getElem? (i := 64) rfl)
theorem wr_89_0 {σ : jd_Hp} (h : Wd σ) : σ.2.2.2 89 0 = some 90 := h.2 (89, 0, 90) (List.mem_of_getElem? (i := 65) rfl)
theorem wr_91_0 {σ : jd_Hp} (h : Wd σ) : σ.2.2.2 91 0 = some 92 := h.2 (91, 0, 92) (List.mem_of_getElem? (i := 66) rfl)
theorem wr_93_0 {σ : jd_Hp} (h : Wd σ) : σ.2.2.2 93 0 = some 94 := h.2 (93, 0, 94) (List.mem_of_getElem? (i := 67) rfl)
theorem wr_95_0 {σ : jd_Hp} (h : Wd σ) : σ.2.2.2 95 0 = some 96 := h.2 (95, 0, 96) (List.mem_of_getElem? (i := 68) rfl)
theorem wr_97_0 {σ : jd_Hp} (h : Wd σ) : σ.2.2.2 97 0 = some 98 := h.2 (97, 0, 98) (List.mem_of_getElem? (i := 69) rfl)
theorem wr_97_1 {σ : jd_Hp} (h : Wd σ) : σ.2.2.2 97 1 = some 99 := h.2 (97, 1, 99) (List.mem_of_getElem? (i := 70) rfl)
theorem wr_100_0 {σ : jd_Hp} (h : Wd σ) : σ.2.2.2 100 0 = some 101 := h.2 (100, 0, 101) (List.mem_of_getElem? (i := 71) rfl)
theorem wr_100_1 {σ : jd_Hp} (h : Wd σ) : σ.2.2.2 100 1 = some 102 := h.2 (100, 1, 102) (List.mem_of_getElem? (i := 72) rfl)
theorem wr_100_2 {σ : jd_Hp} (h : Wd σ) : σ.2.2.2 100 2 = some 103 := h.2 (100, 2, 103) (List.mem_of_getElem? (i := 73) rfl)
theorem wr_104_0 {σ : jd_Hp} (h : Wd σ) : σ.2.2.2 104 0 = some 105 := h.2 (104, 0, 105) (List.mem_of_getElem? (i := 74) rfl)
theorem wr_106_0 {σ : jd_Hp} (h : Wd σ) : σ.2.2.2 106 0 = some 107 := h.2 (106, 0, 107) (List.mem_of_getElem? (i := 75) rfl)
theorem wr_109_0 {σ : jd_Hp} (h : Wd σ) : σ.2.2.2 109 0 = some 110 := h.2 (109, 0, 110) (List.mem_of_getElem? (i := 76) rfl)
theorem wr_109_1 {σ : jd_Hp} (h : Wd σ) : σ.2.2.2 109 1 = some 111 := h.2 (109, 1, 111) (List.mem_of_getElem? (i := 77) rfl)
theorem wr_109_2 {σ : jd_Hp} (h : Wd σ) : σ.2.2.2 109 2 = some 112 := h.2 (109, 2, 112) (List.mem_of_getElem? (i := 78) rfl)
theorem wr_109_3 {σ : jd_Hp} (h : Wd σ) : σ.2.2.2 109 3 = some 113 := h.2 (109, 3, 113) (List.mem_of_getElem? (i := 79) rfl)
theorem wr_109_4 {σ : jd_Hp} (h : Wd σ) : σ.2.2.2 109 4 = some 114 := h.2 (109, 4, 114) (List.mem_of_getElem? (i := 80) rfl)
theorem wr_109_5 {σ : jd_Hp} (h : Wd σ) : σ.2.2.2 109 5 = some 115 := h.2 (109, 5, 115) (List.mem_of_getElem? (i := 81) rfl)
theorem wr_109_6 {σ : jd_Hp} (h : Wd σ) : σ.2.2.2 109 6 = some 116 := h.2 (109, 6, 116) (List.mem_of_getElem? (i := 82) rfl)
theorem wr_109_7 {σ : jd_Hp} (h : Wd σ) : σ.2.2.2 109 7 = some 117 := h.2 (109, 7, 117) (List.mem_of_getElem? (i := 83) rfl)
theorem wr_118_5 {σ : jd_Hp} (h : Wd σ) : σ.2.2.2 118 5 = some 119 := h.2 (118, 5, 119) (List.mem_of_getElem? (i := 84) rfl)
theorem wr_118_15 {σ : jd_Hp} (h : Wd σ) : σ.2.2.2 118 15 = some 120 := h.2 (118, 15, 120) (List.mem_of_getElem? (i := 85) rfl)
theorem wr_118_16 {σ : jd_Hp} (h : Wd σ) : σ.2.2.2 118 16 = some 121 := h.2 (118, 16, 121) (List.mem_of_getElem? (i := 86) rfl)
theorem wr_118_17 {σ : jd_Hp} (h : Wd σ) : σ.2.2.2 118 17 = some 122 := h.2 (118, 17, 122) (List.mem_of_getElem? (i := 87) rfl)
theorem wr_118_18 {σ : jd_Hp} (h : Wd σ) : σ.2.2.2 118 18 = some 123 := h.2 (118, 18, 123) (List.mem_of_getElem? (i := 88) rfl)
theorem wr_118_21 {σ : jd_Hp} (h : Wd σ) : σ.2.2.2 118 21 = some 124 := h.2 (118, 21, 124) (List.mem_of_getElem? (i := 89) rfl)
theorem wr_118_22 {σ : jd_Hp} (h : Wd σ) : σ.2.2.2 118 22 = some 125 := h.2 (118, 22, 125) (List.mem_of_getElem? (i := 90) rfl)
theorem wr_118_23 {σ : jd_Hp} (h : Wd σ) : σ.2.2.2 118 23 = some 126 := h.2 (118, 23, 126) (List.mem_of_getElem? (i := 91) rfl)
theorem wr_118_25 {σ : jd_Hp} (h : Wd σ) : σ.2.2.2 118 25 = some 127 := h.2 (118, 25, 127) (List.mem_of_getElem? (i := 92) rfl)
theorem wr_118_26 {σ : jd_Hp} (h : Wd σ) : σ.2.2.2 118 26 = some 128 := h.2 (118, 26, 128) (List.mem_of_getElem? (i := 93) rfl)
theorem wr_118_27 {σ : jd_Hp} (h : Wd σ) : σ.2.2.2 118 27 = some 129 := h.2 (118, 27, 129) (List.mem_of_getElem? (i := 94) rfl)
