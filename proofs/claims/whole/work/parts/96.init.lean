/-! P (46): the start -/
def c_0 : Option (Unit × jd_Hp) := jd_b (m_X11_init 32 (jd_new jd_s0 (11, 12))) fun _ σ2 => jd_b (m_X13_init 118 (jd_new σ2 (13, 29))) fun _ σ4 => some ((), jd_new σ4 (23, 1))
def k_0 (σ : jd_Hp) : Bool := decide (σ.1 = wS) && wR.all (fun q => decide (σ.2.2.2 q.1 q.2.1 = some q.2.2)) && decide (σ.2.2.2 40 5 = some 47 ∧ σ.2.2.2 32 9 = some 109 ∧ σ.2.2.2 118 3 = none) && decide (σ.2.1 32 10 = 0 ∧ σ.2.1 32 11 = 0 ∧ σ.2.1 56 2 = 0 ∧ σ.2.1 56 3 = 0 ∧ σ.2.1 56 4 = 0 ∧ σ.2.1 33 1 = 0 ∧ σ.2.1 35 14 = 0 ∧ σ.2.1 35 15 = -1) && decide (σ.2.1 118 19 = 0 ∧ σ.2.1 118 20 = 0 ∧ σ.2.1 118 6 = 0 ∧ σ.2.1 118 12 = 0 ∧ σ.2.1 118 1 = 0 ∧ σ.2.1 118 2 = -1)
def n_0 : Nat × Nat := match m_X11_init 32 (jd_new jd_s0 (11, 12)) with
  | some (_, σ2) => (σ2.1.length, match m_X13_init 118 (jd_new σ2 (13, 29)) with
    | some (_, σ4) => σ4.1.length
    | none => 0)
  | none => (0, 0)
theorem t_n0 : n_0 = (118, 130) := by decide +kernel
theorem t_k0 : (match c_0 with
  | some (_, σ) => k_0 σ
  | none => false) = true := by decide +kernel
