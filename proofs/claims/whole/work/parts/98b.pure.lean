/-! P (49): the whole run -/
theorem law_eq (L : Nat) (xs : Nat → Int32) (σ : jd_Hp) : m_law L xs σ = (jd_b (m_X11_init σ.1.length (jd_new σ (11, 12))) fun _ σ2 => jd_b (m_X13_init σ2.1.length (jd_new σ2 (13, 29))) fun _ σ4 => jd_b (jd_lp (lawB L xs σ.1.length σ2.1.length σ4.1.length) jd_fu 0 (jd_new σ4 (23, 1))) (jd_q (fun _ σ7 => some (1, σ7)) (fun v6 σ7 => some (v6, σ7)))) := rfl
theorem w_0 : ∃ σ2 σ4, m_X11_init 32 (jd_new jd_s0 (11, 12)) = some ((), σ2) ∧ σ2.1.length = 118 ∧ m_X13_init 118 (jd_new σ2 (13, 29)) = some ((), σ4) ∧ σ4.1.length = 130 ∧ k_0 (jd_new σ4 (23, 1)) = true := by
  have h1 := t_n0
  have h2 := t_k0
  unfold n_0 at h1
  unfold c_0 at h2
  generalize m_X11_init 32 (jd_new jd_s0 (11, 12)) = c at *
  rcases c with _ | ⟨u, σ2⟩
  · exact absurd h1 (by decide)
  · rw [jb_some] at h2
    dsimp only at h1
    rcases e4 : m_X13_init 118 (jd_new σ2 (13, 29)) with _ | ⟨v, σ4⟩
    · rw [e4] at h2
      exact absurd h2 Bool.false_ne_true
    · rw [e4] at h1 h2
      rw [jb_some] at h2
      dsimp only at h1 h2
      injection h1 with h3 h4
      exact ⟨σ2, σ4, rfl, h3, e4, h4, h2⟩
def z_0 : Zt := (none, (0, fun _ _ => 0), (0, fun _ _ => 0), (0, fun _ => 0), 0, - nI 1, 0)
theorem LR_0 {σ : jd_Hp} (h : k_0 σ = true) : LR z_0 σ ∧ σ.1 = wS := by
  unfold k_0 at h
  simp only [Bool.and_eq_true, decide_eq_true_eq, List.all_eq_true] at h
  obtain ⟨⟨⟨⟨h1, h2⟩, r1, r2, r3⟩, a1, a2, a3, a4, a5, a6, a7, a8⟩, b1, b2, b3, b4, b5, b6⟩ := h
  have hW : Wd σ := ⟨fun a _ => by rw [h1], fun q hq => h2 q hq⟩
  refine ⟨⟨⟨47, Or.inl rfl, r1, r2, ⟨hW, a1⟩, ⟨0, by decide, a3, a4, a5, fun k hk => absurd hk (Nat.not_lt_zero k), fun k hk => absurd hk (Nat.not_lt_zero k)⟩, ⟨a6, fun k hk => absurd hk (Nat.not_lt_zero k)⟩, a7, a8, a2⟩, ⟨0, ⟨hW, r3⟩, ⟨b1, b2, fun k hk => absurd hk (Nat.not_lt_zero k), fun k hk => absurd hk (Nat.not_lt_zero k)⟩, ⟨b3, fun k hk => absurd hk (Nat.not_lt_zero k)⟩, b4, b5, b6⟩, ⟨Nat.zero_le _, Nat.zero_le _, Nat.zero_le _, fun k => (by decide : 0 < 256), rfl, rfl⟩, Nat.zero_le _⟩, h1⟩
section
variable {L i : Nat} {xs : Nat → Int32} {z : Zt} {σ : jd_Hp}
theorem lo_d (h : LR z σ) : LO (some (Sum.inl (nI i + 6), σ)) σ (nI i) := ⟨z, σ, rfl, h, [], by rw [List.append_nil], by decide, by decide⟩
theorem law_step (h : LR z σ) (hi : i + 6 ≤ L) (hL : L ≤ 3072) : LO (lawB L xs 32 118 130 (nI i) σ) σ (nI i) := by
  have e6 : Int32.ofNat L - 6 = nI (L - 6) := nI_sub (b := 6) (a := L) (by omega)
  obtain ⟨c, hc, ec⟩ := pk_andE (xs i) (m := 63) 6 (by decide)
  unfold lawB
  rw [e6, jif_f (by rw [nI_ltI (by omega) (by omega)]; omega), sx0 hi hL, ec, sw_nI (by omega)]
  clear ec e6
  match c, hc with
  | 0, _ => exact lo_0 (xs := xs) h hi hL
  | 1, _ => exact lo_1 (xs := xs) h hi hL
  | 2, _ => exact lo_2 (xs := xs) h hi hL
  | 3, _ => exact lo_3 (xs := xs) h hi hL
  | 4, _ => exact lo_4 (xs := xs) h hi hL
  | 5, _ => exact lo_5 (xs := xs) h hi hL
  | 6, _ => exact lo_6 (xs := xs) h hi hL
  | 7, _ => exact lo_7 (xs := xs) h hi hL
  | 8, _ => exact lo_8 (xs := xs) h hi hL
  | 9, _ => exact lo_9 (xs := xs) h hi hL
  | 10, _ => exact lo_10 (xs := xs) h hi hL
  | 11, _ => exact lo_11 (xs := xs) h hi hL
  | 12, _ => exact lo_12 (xs := xs) h hi hL
  | 13, _ => exact lo_13 (xs := xs) h hi hL
  | 14, _ => exact lo_14 (xs := xs) h hi hL
  | 15, _ => exact lo_15 (xs := xs) h hi hL
  | 16, _ => exact lo_16 (xs := xs) h hi hL
  | 17, _ => exact lo_17 (xs := xs) h hi hL
  | 18, _ => exact lo_18 (xs := xs) h hi hL
  | 19, _ => exact lo_19 (xs := xs) h hi hL
  | 20, _ => exact lo_20 (xs := xs) h hi hL
  | 21, _ => exact lo_21 (xs := xs) h hi hL
  | 22, _ => exact lo_22 (xs := xs) h hi hL
  | 23, _ => exact lo_23 (xs := xs) h hi hL
  | 24, _ => exact lo_24 (xs := xs) h hi hL
  | 25, _ => exact lo_25 (xs := xs) h hi hL
  | 26, _ => exact lo_26 (xs := xs) h hi hL
  | 27, _ => exact lo_27 (xs := xs) h hi hL
  | 28, _ => exact lo_28 (xs := xs) h hi hL
  | 29, _ => exact lo_29 (xs := xs) h hi hL
  | 30, _ => exact lo_30 (xs := xs) h hi hL
  | 31, _ => exact lo_31 (xs := xs) h hi hL
  | 32, _ => exact lo_32 (xs := xs) h hi hL
  | 33, _ => exact lo_33 (xs := xs) h hi hL
  | 34, _ => exact lo_34 (xs := xs) h hi hL
  | 35, _ => exact lo_35 (xs := xs) h hi hL
  | 36, _ => exact lo_36 (xs := xs) h hi hL
  | 37, _ => exact lo_37 (xs := xs) h hi hL
  | 38, _ => exact lo_38 (xs := xs) h hi hL
  | 39, _ => exact lo_39 (xs := xs) h hi hL
  | 40, _ => exact lo_40 (xs := xs) h hi hL
  | 41, _ => exact lo_41 (xs := xs) h hi hL
  | 42, _ => exact lo_42 (xs := xs) h hi hL
  | 43, _ => exact lo_43 (xs := xs) h hi hL
  | 44, _ => exact lo_44 (xs := xs) h hi hL
  | 45, _ => exact lo_45 (xs := xs) h hi hL
  | 46, _ => exact lo_46 (xs := xs) h hi hL
  | 47, _ => exact lo_47 (xs := xs) h hi hL
  | 48, _ => exact lo_48 (xs := xs) h hi hL
  | 49, _ => exact lo_49 (xs := xs) h hi hL
  | 50, _ => exact lo_50 (xs := xs) h hi hL
  | 51, _ => exact lo_51 (xs := xs) h hi hL
  | _ + 52, _ => exact lo_d h
theorem GG_z {σ' : jd_Hp} (g : GG σ σ') : σ'.1.length ≤ σ.1.length + 24 ∧ jd_z σ' ≤ jd_z σ + 256 := by
  obtain ⟨t, h1, h2, h3⟩ := g
  refine ⟨by rw [h1, List.length_append]; omega, ?_⟩
  have h3 : (t.map (fun x => x.2)).sum ≤ 256 := h3
  unfold jd_z
  rw [h1, List.map_append, List.sum_append]
  omega
theorem law_run (xs : Nat → Int32) (hL : L ≤ 3072) {z0 : Zt} {σ0 : jd_Hp} (h : LR z0 σ0) (hl : σ0.1.length ≤ 131) (hz : jd_z σ0 ≤ 3000) : ∃ t σ', jd_lp (lawB L xs 32 118 130) jd_fu 0 σ0 = some (t, σ') ∧ (t = Sum.inl () ∧ σ'.1.length ≤ 13000 ∧ jd_z σ' ≤ 200000) := by
  refine jlp_inv (L / 6) (fun k s σ => s = nI (6 * k) ∧ (∃ z, LR z σ) ∧ σ.1.length ≤ 131 + 24 * k ∧ jd_z σ ≤ 3000 + 256 * k) (fun t σ' => t = Sum.inl () ∧ σ'.1.length ≤ 13000 ∧ jd_z σ' ≤ 200000) ?_ ?_ jd_fu (jfu (by omega)) 0 σ0 ⟨rfl, ⟨z0, h⟩, by omega, by omega⟩
  · rintro k s σ hk ⟨rfl, ⟨z, hz⟩, h1, h2⟩
    obtain ⟨z', σ', e, h', g⟩ := law_step (xs := xs) (i := 6 * k) hz (by omega) hL
    obtain ⟨g1, g2⟩ := GG_z g
    refine ⟨nI (6 * k) + 6, σ', e, ?_, ⟨z', h'⟩, ?_, ?_⟩
    · show nI (6 * k) + nI 6 = _
      rw [nI_add]
      exact congrArg nI (by omega)
    · clear e
      omega
    · exact Nat.le_trans g2 (Nat.le_trans (Nat.add_le_add_right h2 256) (Nat.le_of_eq (by rw [Nat.mul_succ, Nat.add_assoc])))
  · rintro s σ ⟨rfl, -, h1, h2⟩
    refine ⟨Sum.inl (), σ, ?_, rfl, by omega, by omega⟩
    unfold lawB
    rw [jif_t]
    by_cases h6 : 6 ≤ L
    · have e6 : Int32.ofNat L - 6 = nI (L - 6) := nI_sub (b := 6) (a := L) h6
      rw [e6, nI_ltI (by omega) (by omega)]
      omega
    · have e6 : Int32.ofNat L - 6 < 0 := pk_sneg (a := L) (b := 6) (by decide) (by omega)
      have e7 : L / 6 = 0 := by omega
      rw [e7]
      exact e6
end
theorem jd_pure_ok : jd_Pure := by
  intro L xs hL
  obtain ⟨σ2, σ4, e2, l2, e4, l4, hk⟩ := w_0
  obtain ⟨h0, hs⟩ := LR_0 hk
  have l0 : jd_s0.1.length = 32 := by decide
  have ln : (jd_new σ4 (23, 1)).1.length ≤ 131 := by
    rw [hs]
    decide +kernel
  have lz : jd_z (jd_new σ4 (23, 1)) ≤ 3000 := by
    unfold jd_z
    rw [hs]
    decide +kernel
  obtain ⟨t, σ', e, rfl, q1, q2⟩ := law_run xs hL h0 ln lz
  refine ⟨σ', ?_, by omega, by omega⟩
  rw [law_eq, l0, e2, jb_some, l2, e4, jb_some, l4, e, jb_some]
  rfl
