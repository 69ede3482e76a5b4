/-! P (45): the reference's beach() -/
theorem get_r {L l : List (Nat × Nat)} (i : Nat) : (L ++ l)[L.length + i]? = l[i]? := by
  rw [List.getElem?_append_right (Nat.le_add_right _ _), Nat.add_sub_cancel_left]
theorem fin_shB : (∀ i, i < 6 → ((12, 20) :: shB)[i + 1]? = some (20, 6)) ∧ (∀ i, i < 2 → ((12, 20) :: shB)[i + 7]? = some (20, 5)) ∧ ((12, 20) :: shB)[9]? = some (23, 11) ∧ ∀ i, i < 2 → ((12, 20) :: shB)[i + 10]? = some (20, 11) := by decide
section
variable {σ : jd_Hp} {z : Zt}
theorem MT_q {B : Bch} {r : Nat} {σ : jd_Hp} (h : MQr B r σ) (h3 : B 8 3 ≤ 6) (h4 : B 8 4 ≤ 5) : MT B r σ := by
  obtain ⟨h0, h1, h2, h3', h4', h5, h6, h7, h8, h9, h10, h11, h12, h13⟩ := h
  exact ⟨h1, h2, h3', h4', fun i hi => h7 i (by omega), fun i hi => h8 i (by omega), fun k p hk hp => h9 k p hk (by omega), fun k q hk hq => h10 k q hk (by omega)⟩
set_option maxHeartbeats 4000000 in
theorem ZM_beach (h : MR z σ) (hz : HZ z) (x : Int32) : ZS (m_X13_beach 118 x σ) (z_beach z x) σ := by
  unfold m_X13_beach
  rw [jli]
  refine ZS_0 ?_
  have h0 := MR_0 h
  clear h
  generalize jd_pi σ 118 0 0 = τ at *
  have hW := MR_W h0
  have hl := len_W hW
  have h := h0
  obtain ⟨o, ⟨na, H⟩, ⟨ni, I⟩, ⟨tl, tp⟩, fl, wh, tr⟩ := z
  obtain ⟨b, hR, hP, hTM, f1, f2, f3⟩ := h
  obtain ⟨z1, z2, z3, z4, z5⟩ := hz
  have z3 : tl ≤ 900 := z3
  have z4 : ∀ k, tp k < 256 := z4
  have hTM : TM tl tp τ := hTM
  have t1 : τ.2.1 118 6 = nI tl := hTM.1
  show ZS _ (match ixN x (tl + 1) with
  | none => (- nI 1, sTr (o, (na, H), (ni, I), (tl, tp), fl, wh, tr) 2)
  | some n => match e_all tp n (n + 1) B0 0 with
    | .inl f => (- nI 1, (o, (na, H), (ni, I), (0, tp), f.1, nI f.2, 4))
    | .inr B => (nI (B 8 3), (some (B, nw0 B), (0, H), (0, I), (0, tp), 0, - nI 1, 0))) τ
  rcases hn : ixN x (tl + 1) with _ | n
  · rcases ixN_none (by omega) hn with h1 | ⟨h1, h2⟩
    · rw [jif_t (show x < 0 from h1)]
      exact ZS_tr h0 _ (by decide)
    · have h3 : ¬ x ≤ nI tl := by
        obtain ⟨k, hk, rfl⟩ := nI_of h1
        rw [nI_leI (by omega) hk] at h2
        rw [nI_leI hk (by omega)]
        omega
      rw [jif_f (show ¬ x < 0 from h1), t1, jif_f h3]
      exact ZS_tr h0 _ (by decide)
  · obtain ⟨h1, rfl⟩ := ixN_some hn
    rw [jif_f (show ¬ nI n < 0 from nI_pos (by omega)), t1, jif_t (nI_le (by omega) (by omega)), jli, jli, jli, jli]
    show ZS _ (match e_all tp n (n + 1) B0 0 with
    | .inl f => (- nI 1, (o, (na, H), (ni, I), (0, tp), f.1, nI f.2, 4))
    | .inr B => (nI (B 8 3), (some (B, nw0 B), (0, H), (0, I), (0, tp), 0, - nI 1, 0))) τ
    have F6 : Fr (fun a k => a = 118 ∧ 6 ≤ k ∧ k ≤ 13) L0 τ (jd_pi (jd_pi (jd_pi (jd_pi τ 118 7 (nI n)) 118 6 0) 118 8 0) 118 12 0) := Fr_pi (Fr_pi (Fr_pi (Fr_pi (Fr_refl τ) ⟨rfl, by decide, by decide⟩) ⟨rfl, by decide, by decide⟩) ⟨rfl, by decide, by decide⟩) ⟨rfl, by decide, by decide⟩
    have c7 : (jd_pi (jd_pi (jd_pi (jd_pi τ 118 7 (nI n)) 118 6 0) 118 8 0) 118 12 0).2.1 118 7 = nI n := by
      rw [pi_ne _ _ (by omega), pi_ne _ _ (by omega), pi_ne _ _ (by omega), pi_eq]
    have c6 : (jd_pi (jd_pi (jd_pi (jd_pi τ 118 7 (nI n)) 118 6 0) 118 8 0) 118 12 0).2.1 118 6 = nI 0 := by
      rw [pi_ne _ _ (by omega), pi_ne _ _ (by omega), pi_eq]
      rfl
    have c8 : (jd_pi (jd_pi (jd_pi (jd_pi τ 118 7 (nI n)) 118 6 0) 118 8 0) 118 12 0).2.1 118 8 = nI 0 := by
      rw [pi_ne _ _ (by omega), pi_eq]
      rfl
    have c12 : (jd_pi (jd_pi (jd_pi (jd_pi τ 118 7 (nI n)) 118 6 0) 118 8 0) 118 12 0).2.1 118 12 = nI 0 := pi_eq _ _ _ _
    generalize jd_pi (jd_pi (jd_pi (jd_pi τ 118 7 (nI n)) 118 6 0) 118 8 0) 118 12 0 = τ6 at *
    have hl6 : τ6.1.length = τ.1.length := by rw [F6.1]
    obtain ⟨σ8, e8, hI⟩ := y_init τ6
    rw [jli, e8, jb_some, jli, jli]
    obtain ⟨i1, i2, i3, i4⟩ := hI
    have i1 : σ8.1 = τ6.1 ++ (12, 20) :: shB := i1
    have R10 : ∀ a k, ¬ (a = 118 ∧ k = 4) → (jd_pi (jd_pr σ8 118 4 (some τ6.1.length)) 118 9 0).2.2.2 a k = σ8.2.2.2 a k := fun a k h => pr_ne _ _ h
    have R104 : (jd_pi (jd_pr σ8 118 4 (some τ6.1.length)) 118 9 0).2.2.2 118 4 = some τ6.1.length := pr_eq σ8 118 4 (some τ6.1.length)
    have I10 : ∀ a k, ¬ (a = 118 ∧ k = 9) → (jd_pi (jd_pr σ8 118 4 (some τ6.1.length)) 118 9 0).2.1 a k = σ8.2.1 a k := fun a k h => pi_ne _ _ h
    have I109 : (jd_pi (jd_pr σ8 118 4 (some τ6.1.length)) 118 9 0).2.1 118 9 = nI 0 := pi_eq _ _ _ _
    have L10 : (jd_pi (jd_pr σ8 118 4 (some τ6.1.length)) 118 9 0).2.2.1 = σ8.2.2.1 := rfl
    have S10 : (jd_pi (jd_pr σ8 118 4 (some τ6.1.length)) 118 9 0).1 = τ6.1 ++ (12, 20) :: shB := i1
    generalize jd_pi (jd_pr σ8 118 4 (some τ6.1.length)) 118 9 0 = τ10 at *
    generalize hr : τ6.1.length = r at *
    have hr131 : 131 ≤ r := by omega
    have gi : ∀ a k, a < r → ¬ (a = 118 ∧ 6 ≤ k ∧ k ≤ 13) → τ10.2.1 a k = τ.2.1 a k := fun a k ha hk => by
      rw [I10 a k (by omega), (i2 a k ha).1, F6.2.2.1 a k hk]
    have gl : ∀ a k, a < r → τ10.2.2.1 a k = τ.2.2.1 a k := fun a k ha => by
      rw [L10, (i2 a k ha).2.1, F6.2.2.2 a k id]
    have gr : ∀ a k, a < r → ¬ (a = 118 ∧ k = 4) → τ10.2.2.2 a k = τ.2.2.2 a k := fun a k ha hk => by
      rw [R10 a k hk, (i2 a k ha).2.2, F6.2.1]
    have hW10 : Wd τ10 := by
      refine ⟨fun a ha => ?_, fun q hq => ?_⟩
      · rw [S10, F6.1, List.getElem?_append_left (by omega)]
        exact hW.1 a ha
      · have q1 := fin_wR q hq
        have q2 := (fin_wR2 q hq).2.2
        rw [gr _ _ (by omega) (by omega)]
        exact hW.2 q hq
    have hB10 : MB tp n τ10 := ⟨hW10, by rw [I10 _ _ (by omega), (i2 _ _ (by omega)).1]; exact c7, fun k hk => (gi _ _ (by omega) (by omega)).trans (hTM.2 k (by omega)), by omega, z4⟩
    have hQ10 : MQr B0 r τ10 := by
      have sh : ∀ i, τ10.1[r + i]? = ((12, 20) :: shB)[i]? := fun i => by
        rw [S10, ← hr]
        exact get_r i
      obtain ⟨s1, s2, s3, s4⟩ := fin_shB
      refine ⟨R104, hr131, sh 0, fun i hi => (sh _).trans (s1 i hi), fun i hi => (sh _).trans (s2 i hi), (sh _).trans s3, fun i hi => (sh _).trans (s4 i hi), fun i hi => ?_, fun i hi => ?_, fun k p hk hp => ?_, fun k q hk hq => ?_, fun k hk => ?_, fun k hk => ?_, fun k hk => ?_⟩
      · rw [R10 _ _ (by omega)]
        exact i4 i hi
      · rw [I10 _ _ (by omega)]
        exact (i3 _ _ (by omega) (by omega)).1
      · rw [I10 _ _ (by omega)]
        exact (i3 _ _ (by omega) (by omega)).1
      · rw [I10 _ _ (by omega)]
        exact (i3 _ _ (by omega) (by omega)).1
      · rw [L10]
        exact (i3 _ _ (by omega) (by omega)).2
      · rw [I10 _ _ (by omega)]
        exact (i3 _ _ (by omega) (by omega)).1
      · rw [I10 _ _ (by omega)]
        exact (i3 _ _ (by omega) (by omega)).1
    have d8 : τ10.2.1 118 8 = nI 0 := by
      rw [I10 _ _ (by omega), (i2 _ _ (by omega)).1]
      exact c8
    have d12 : τ10.2.1 118 12 = nI 0 := by
      rw [I10 _ _ (by omega), (i2 _ _ (by omega)).1]
      exact c12
    have d6 : τ10.2.1 118 6 = nI 0 := by
      rw [I10 _ _ (by omega), (i2 _ _ (by omega)).1]
      exact c6
    obtain ⟨σ11, e11, hK11, F11⟩ := y_goesOn hB10 (by rw [I109]; decide) d8 (Nat.zero_le n)
    have F11' : Fr DY LY τ10 σ11 := Fr_mono F11 (fun a k h => DGY h) fun _ h => h
    have hM : MRd tp n B0 r 0 σ11 := ⟨MB_y hB10 F11', MQr_y hQ10 F11', hK11, Nat.zero_le n, (F11.2.2.1 118 12 (by unfold DGo; omega)).trans d12, rOk_0, fun k => Nat.two_pow_pos 40, fun _ => ⟨rfl, rfl, rfl⟩⟩
    obtain ⟨σ12, e12, F12, q⟩ := y_readAll hM (f := n + 1) (by omega) (jfu (by omega))
    have ok := okF_all (tp := tp) (n := n) (n + 1) B0 0 (Nat.zero_le n) (by omega)
    rw [e11, jb_some, e12, jb_some]
    have F13 : Fr (DYr r) (LYr r) τ10 σ12 := Fr_tr (up_r F11') F12
    have hW12 := Fr_Wd F13 hW10
    have g12 : ∀ a k, a < r → ¬ (a = 118 ∧ 6 ≤ k ∧ k ≤ 13) → σ12.2.1 a k = τ.2.1 a k := fun a k ha hk => by
      rw [F13.2.2.1 a k (by unfold DYr DY; omega), gi a k ha hk]
    have l12 : ∀ a k, a < r → ¬ a = 118 → σ12.2.2.1 a k = τ.2.2.1 a k := fun a k ha hk => by
      rw [F13.2.2.2 a k (by unfold LYr LY; omega), gl a k ha]
    have r12 : ∀ a k, a < r → ¬ (a = 118 ∧ k = 4) → σ12.2.2.2 a k = τ.2.2.2 a k := fun a k ha hk => by
      rw [F13.2.1, gr a k ha hk]
    have v6 : σ12.2.1 118 6 = nI 0 := by
      rw [F13.2.2.1 118 6 (by unfold DYr DY; omega)]
      exact d6
    have s12 : σ12.1 = τ.1 ++ (12, 20) :: shB := by
      rw [F13.1, S10, F6.1]
    have hG : ∀ σ' : jd_Hp, σ'.1 = σ12.1 → (∀ a k, a < 118 → σ'.2.1 a k = σ12.2.1 a k) → σ'.2.2.1 = σ12.2.2.1 → (∀ a k, a < 118 → σ'.2.2.2 a k = σ12.2.2.2 a k) → GM τ σ' := fun σ' u1 u2 u3 u4 => ⟨⟨(12, 20) :: shB, by rw [u1, s12], by decide, by decide⟩, fun a k ha => ⟨by rw [u2 a k ha, g12 a k (by omega) (by omega)], by rw [u3, l12 a k (by omega) (by omega)], by rw [u4 a k ha, r12 a k (by omega) (by omega)]⟩⟩
    rcases he : e_all tp n (n + 1) B0 0 with f | B
    · rw [he] at q ok
      obtain ⟨o1, o2, o3⟩ := q
      obtain ⟨k1, k6⟩ := ok f rfl
      rw [o2, jif_f (by rw [lx0, nI_leI (by omega) (by omega)]; omega), jli, jli, pi_ne _ _ (by omega), o3]
      have w : ∀ a k, ¬ (a = 118 ∧ (k = 1 ∨ k = 2)) → (jd_pi (jd_pi σ12 118 1 4) 118 2 (nI f.2)).2.1 a k = σ12.2.1 a k := fun a k h => by
        rw [pi_ne _ _ (by omega), pi_ne _ _ (by omega)]
      have w1 : (jd_pi (jd_pi σ12 118 1 4) 118 2 (nI f.2)).2.1 118 1 = nI 4 := by
        rw [pi_ne _ _ (by omega), pi_eq]
        rfl
      have w2 : (jd_pi (jd_pi σ12 118 1 4) 118 2 (nI f.2)).2.1 118 2 = nI f.2 := pi_eq _ _ _ _
      refine ⟨jd_pi (jd_pi σ12 118 1 4) 118 2 (nI f.2), rfl, ⟨b, ⟨hW12, ?_⟩, PM_of hP (nB_le hR) ?_ ?_ fun a k h => ?_, ⟨?_, fun k hk => absurd hk (Nat.not_lt_zero k)⟩, ?_, w1, w2⟩, hG _ rfl (fun a k ha => w a k (by omega)) rfl fun a k ha => rfl⟩
      · rcases o with _ | ⟨B, N⟩
        · exact (r12 118 3 (by omega) (by omega)).trans hR.2
        · obtain ⟨-, hS, ⟨c0, c1, c2, c3, c4, c5, c6', c7'⟩, hV, hb, hn'⟩ : Wd τ ∧ τ.2.2.2 118 3 = some b ∧ MT B b τ ∧ MV B N τ ∧ bOk B ∧ nOk B N := hR
          have l8 := lt_of_get (c3 1 (by decide))
          refine ⟨(r12 118 3 (by omega) (by omega)).trans hS, ⟨c0, ?_, fun i hi => ?_, fun i hi => ?_, fun i hi => (r12 _ _ (by omega) (by omega)).trans (c4 i hi), fun i hi => ?_, fun k p hk hp => ?_, fun k q hk hq => ?_⟩, MV_of hV fun k => ?_, hb, hn'⟩
          · show σ12.1[b]? = _
            rw [s12]
            exact get_app c1
          · show σ12.1[b + (i + 1)]? = _
            rw [s12]
            exact get_app (c2 i hi)
          · show σ12.1[b + (i + 7)]? = _
            rw [s12]
            exact get_app (c3 i hi)
          · rw [w _ _ (by omega), g12 _ _ (by omega) (by omega)]
            exact c5 i hi
          · rw [w _ _ (by omega), g12 _ _ (by omega) (by omega)]
            exact c6' k p hk hp
          · rw [w _ _ (by omega), g12 _ _ (by omega) (by omega)]
            exact c7' k q hk hq
          · rw [w _ _ (by omega), g12 _ _ (by omega) (by omega)]
      · rw [w _ _ (by omega), g12 _ _ (by omega) (by omega)]
      · rw [w _ _ (by omega), g12 _ _ (by omega) (by omega)]
      · rw [w _ _ (by omega), g12 _ _ (by omega) (by omega)]
      · rw [w _ _ (by omega)]
        exact v6
      · rw [w _ _ (by omega)]
        exact o2
    · rw [he] at q
      obtain ⟨⟨j, hC⟩, q5, q6⟩ := q
      have hO := hC.2.2.2.2.2.1
      have hb := bOk_r hO q5 q6
      have hQ := hC.2.1
      rw [hC.2.2.2.2.1, jif_t (by decide), jli, hQ.1]
      have hW13 : Wd (jd_pr σ12 118 3 (some r)) := Wd_pr _ hW12 fun q hq => by
        have := (fin_wR2 q hq).2.2
        omega
      have R3 : (jd_pr σ12 118 3 (some r)).2.2.2 118 3 = some r := pr_eq _ _ _ _
      have R4 : ∀ a k, ¬ (a = 118 ∧ k = 3) → (jd_pr σ12 118 3 (some r)).2.2.2 a k = σ12.2.2.2 a k := fun a k h => pr_ne _ _ h
      have J3 : (jd_pr σ12 118 3 (some r)).2.1 = σ12.2.1 := rfl
      have S3 : (jd_pr σ12 118 3 (some r)).1 = σ12.1 := rfl
      have L3 : (jd_pr σ12 118 3 (some r)).2.2.1 = σ12.2.2.1 := rfl
      have hM3 : MT B r (jd_pr σ12 118 3 (some r)) := by
        obtain ⟨h1, h2, h3, h4, h5, h6, h7, h8⟩ := MT_q hQ hb.2.1 hb.2.2.1
        exact ⟨h1, h2, h3, h4, fun i hi => (R4 _ _ (by omega)).trans (h5 i hi), h6, h7, h8⟩
      have a10 : ∀ p, p < 6 → (jd_pr σ12 118 3 (some r)).2.1 (r + 2) p = nI (B 1 p) := fun p hp => mq_a hQ (k := 1) (by decide) hp
      generalize jd_pr σ12 118 3 (some r) = τ13 at *
      rw [jlp_h 6 (fun i => nI i) (fun i => cpy τ13 120 (τ13.2.1 (r + 2)) i) () (cpy τ13 120 (τ13.2.1 (r + 2)) 6) (jfu (by omega)) ?_ ?_ ?_ ?_]
      · have C : ∀ a k, ¬ a = 120 → (cpy τ13 120 (τ13.2.1 (r + 2)) 6).2.1 a k = σ12.2.1 a k := fun a k h => by
          rw [cpy_i, if_neg (by omega), J3]
        have C0 : ∀ k, k < 6 → (cpy τ13 120 (τ13.2.1 (r + 2)) 6).2.1 120 k = nI (B 1 k) := fun k hk => by
          rw [cpy_i, if_pos ⟨rfl, hk⟩]
          exact a10 k hk
        have hW14 : Wd (cpy τ13 120 (τ13.2.1 (r + 2)) 6) := hW13
        have hM4 : MT B r (cpy τ13 120 (τ13.2.1 (r + 2)) 6) := MT_of hM3 rfl rfl fun a k ha => by
          rw [cpy_i, if_neg (by omega)]
        have R14 : (cpy τ13 120 (τ13.2.1 (r + 2)) 6).2.2.2 = τ13.2.2.2 := rfl
        have S14 : (cpy τ13 120 (τ13.2.1 (r + 2)) 6).1 = τ13.1 := rfl
        have L14 : (cpy τ13 120 (τ13.2.1 (r + 2)) 6).2.2.1 = τ13.2.2.1 := rfl
        generalize cpy τ13 120 (τ13.2.1 (r + 2)) 6 = τ14 at *
        have R143 : τ14.2.2.2 118 3 = some r := by
          rw [R14]
          exact R3
        have h15 : τ14.2.1 r 5 = nI (B 8 5) := mb_s5 hM4
        have h13 : τ14.2.1 r 3 = nI (B 8 3) := mb_s3 hM4
        rw [jb_some, jo_118 hW14, R143, mb_o hM4, h15, wr_118_15 hW14]
        simp (disch := omega) only [jb_some, jli, jif, jd_q, jd_K0, jpi_s, jpi_l, jpi_p, jpl_s, jpl_i, jpl_p, if_true, if_false, if_pos, if_neg, not_true_eq_false, not_false_eq_true, ite_true, ite_false, Nat.not_lt_zero, eq_self, Nat.le_refl, Nat.lt_irrefl, Bool.false_eq_true, or0, jo_pi, jo_pl, jia_pi, jia_pl, jo_cpy, jia_cpy, cpy_r, m_X11_grant, m_X11_refuse, m_X13_good, m_X13_refused, reduceCtorEq, nI_add, nI_leI, nI_ltI, nI_eq, pk_mul, abs_nI, max_nI, min_nI, nI_m1, nI_m2, nI_le1, m1_lt, m2_lt, and_nI, or_nI, an_nI, has_nI, bit_nI, bc_nI, bits_nI, lx0, lx1, lx2, lx3, lx4, lx5, lx6, lx7, lx8, lx9, lx10, lx11, lx16, lx20, lx40, lx60, lx90, lx99, lx100, lx200, lx900, lx999, lx9999, R143, ja_120 hW14, wr_118_15 hW14, mb_o hM4]
        have w : ∀ a k, ¬ (a = 120 ∧ 6 ≤ k) → ¬ (a = 118 ∧ (k = 1 ∨ k = 2 ∨ k = 19 ∨ k = 20)) → (jd_pi (jd_pi (jd_pi (jd_pi (jd_pi (jd_pi (jd_pi τ14 120 6 (nI (B 8 5))) 120 7 (nI 0)) 120 8 (nI 0)) 118 19 (nI 0)) 118 20 (nI 0)) 118 1 (nI 0)) 118 2 (- nI 1)).2.1 a k = τ14.2.1 a k := fun a k h1 h2 => by
          rw [pi_ne _ _ (by omega), pi_ne _ _ (by omega), pi_ne _ _ (by omega), pi_ne _ _ (by omega), pi_ne _ _ (by omega), pi_ne _ _ (by omega), pi_ne _ _ (by omega)]
        have wr3 : (jd_pi (jd_pi (jd_pi (jd_pi (jd_pi τ14 120 6 (nI (B 8 5))) 120 7 (nI 0)) 120 8 (nI 0)) 118 19 (nI 0)) 118 20 (nI 0)).2.1 r 3 = nI (B 8 3) := by
          rw [pi_ne _ _ (by omega), pi_ne _ _ (by omega), pi_ne _ _ (by omega), pi_ne _ _ (by omega), pi_ne _ _ (by omega)]
          exact h13
        rw [wr3]
        have w206 : (jd_pi (jd_pi (jd_pi (jd_pi (jd_pi (jd_pi (jd_pi τ14 120 6 (nI (B 8 5))) 120 7 (nI 0)) 120 8 (nI 0)) 118 19 (nI 0)) 118 20 (nI 0)) 118 1 (nI 0)) 118 2 (- nI 1)).2.1 120 6 = nI (B 8 5) := by
          rw [pi_ne _ _ (by omega), pi_ne _ _ (by omega), pi_ne _ _ (by omega), pi_ne _ _ (by omega), pi_ne _ _ (by omega), pi_ne _ _ (by omega), pi_eq]
        have w207 : (jd_pi (jd_pi (jd_pi (jd_pi (jd_pi (jd_pi (jd_pi τ14 120 6 (nI (B 8 5))) 120 7 (nI 0)) 120 8 (nI 0)) 118 19 (nI 0)) 118 20 (nI 0)) 118 1 (nI 0)) 118 2 (- nI 1)).2.1 120 7 = nI 0 := by
          rw [pi_ne _ _ (by omega), pi_ne _ _ (by omega), pi_ne _ _ (by omega), pi_ne _ _ (by omega), pi_ne _ _ (by omega), pi_eq]
        have w208 : (jd_pi (jd_pi (jd_pi (jd_pi (jd_pi (jd_pi (jd_pi τ14 120 6 (nI (B 8 5))) 120 7 (nI 0)) 120 8 (nI 0)) 118 19 (nI 0)) 118 20 (nI 0)) 118 1 (nI 0)) 118 2 (- nI 1)).2.1 120 8 = nI 0 := by
          rw [pi_ne _ _ (by omega), pi_ne _ _ (by omega), pi_ne _ _ (by omega), pi_ne _ _ (by omega), pi_eq]
        have w19 : (jd_pi (jd_pi (jd_pi (jd_pi (jd_pi (jd_pi (jd_pi τ14 120 6 (nI (B 8 5))) 120 7 (nI 0)) 120 8 (nI 0)) 118 19 (nI 0)) 118 20 (nI 0)) 118 1 (nI 0)) 118 2 (- nI 1)).2.1 118 19 = nI 0 := by
          rw [pi_ne _ _ (by omega), pi_ne _ _ (by omega), pi_ne _ _ (by omega), pi_eq]
        have w20 : (jd_pi (jd_pi (jd_pi (jd_pi (jd_pi (jd_pi (jd_pi τ14 120 6 (nI (B 8 5))) 120 7 (nI 0)) 120 8 (nI 0)) 118 19 (nI 0)) 118 20 (nI 0)) 118 1 (nI 0)) 118 2 (- nI 1)).2.1 118 20 = nI 0 := by
          rw [pi_ne _ _ (by omega), pi_ne _ _ (by omega), pi_eq]
        have w11 : (jd_pi (jd_pi (jd_pi (jd_pi (jd_pi (jd_pi (jd_pi τ14 120 6 (nI (B 8 5))) 120 7 (nI 0)) 120 8 (nI 0)) 118 19 (nI 0)) 118 20 (nI 0)) 118 1 (nI 0)) 118 2 (- nI 1)).2.1 118 1 = nI 0 := by
          rw [pi_ne _ _ (by omega), pi_eq]
        have w12 : (jd_pi (jd_pi (jd_pi (jd_pi (jd_pi (jd_pi (jd_pi τ14 120 6 (nI (B 8 5))) 120 7 (nI 0)) 120 8 (nI 0)) 118 19 (nI 0)) 118 20 (nI 0)) 118 1 (nI 0)) 118 2 (- nI 1)).2.1 118 2 = - nI 1 := pi_eq _ _ _ _
        have eR : (jd_pi (jd_pi (jd_pi (jd_pi (jd_pi (jd_pi (jd_pi τ14 120 6 (nI (B 8 5))) 120 7 (nI 0)) 120 8 (nI 0)) 118 19 (nI 0)) 118 20 (nI 0)) 118 1 (nI 0)) 118 2 (- nI 1)).2.2.2 = τ14.2.2.2 := rfl
        have eS : (jd_pi (jd_pi (jd_pi (jd_pi (jd_pi (jd_pi (jd_pi τ14 120 6 (nI (B 8 5))) 120 7 (nI 0)) 120 8 (nI 0)) 118 19 (nI 0)) 118 20 (nI 0)) 118 1 (nI 0)) 118 2 (- nI 1)).1 = τ14.1 := rfl
        have eL : (jd_pi (jd_pi (jd_pi (jd_pi (jd_pi (jd_pi (jd_pi τ14 120 6 (nI (B 8 5))) 120 7 (nI 0)) 120 8 (nI 0)) 118 19 (nI 0)) 118 20 (nI 0)) 118 1 (nI 0)) 118 2 (- nI 1)).2.2.1 = τ14.2.2.1 := rfl
        have hW15 : Wd (jd_pi (jd_pi (jd_pi (jd_pi (jd_pi (jd_pi (jd_pi τ14 120 6 (nI (B 8 5))) 120 7 (nI 0)) 120 8 (nI 0)) 118 19 (nI 0)) 118 20 (nI 0)) 118 1 (nI 0)) 118 2 (- nI 1)) := hW14
        generalize jd_pi (jd_pi (jd_pi (jd_pi (jd_pi (jd_pi (jd_pi τ14 120 6 (nI (B 8 5))) 120 7 (nI 0)) 120 8 (nI 0)) 118 19 (nI 0)) 118 20 (nI 0)) 118 1 (nI 0)) 118 2 (- nI 1) = τ15 at *
        refine ⟨τ15, rfl, ⟨r, ⟨hW15, by rw [eR]; exact R143, MT_of hM4 eS eR fun a k ha => w a k (by omega) (by omega), ⟨fun p hp => ?_, w206, w207, w208⟩, hb, nw0_ok hb⟩, ⟨w19, w20, fun k hk => absurd hk (Nat.not_lt_zero k), fun k hk => absurd hk (Nat.not_lt_zero k)⟩, ⟨?_, fun k hk => absurd hk (Nat.not_lt_zero k)⟩, ?_, w11, w12⟩, hG τ15 (by rw [eS, S14, S3]) (fun a k ha => by rw [w a k (by omega) (by omega), C a k (by omega)]) (by rw [eL, L14, L3]) fun a k ha => by rw [eR, R14, R4 a k (by omega)]⟩
        · have hb2 := hb.2.1
          have hp : p < B 8 3 := hp
          rw [w _ _ (by omega) (by omega), C0 p (by omega)]
          show _ = nI (if p < 6 then B 1 p else _)
          rw [if_pos (by omega)]
        · rw [w _ _ (by omega) (by omega), C _ _ (by omega)]
          exact v6
        · rw [w _ _ (by omega) (by omega), C _ _ (by omega)]
          exact hC.2.2.2.2.1
      · rfl
      · exact (cpy_0 _ _ _).symm
      · intro i hi
        have h6 : ¬ 6 ≤ i := by omega
        simp (disch := omega) only [jb_some, jli, jif, jd_q, jd_K0, jpi_s, jpi_l, jpi_p, jpl_s, jpl_i, jpl_p, if_true, if_false, if_pos, if_neg, not_true_eq_false, not_false_eq_true, ite_true, ite_false, Nat.not_lt_zero, eq_self, Nat.le_refl, Nat.lt_irrefl, Bool.false_eq_true, or0, jo_pi, jo_pl, jia_pi, jia_pl, jo_cpy, jia_cpy, cpy_r, m_X11_grant, m_X11_refuse, m_X13_good, m_X13_refused, reduceCtorEq, nI_add, nI_leI, nI_ltI, nI_eq, pk_mul, abs_nI, max_nI, min_nI, nI_m1, nI_m2, nI_le1, m1_lt, m2_lt, and_nI, or_nI, an_nI, has_nI, bit_nI, bc_nI, bits_nI, lx0, lx1, lx2, lx3, lx4, lx5, lx6, lx7, lx8, lx9, lx10, lx11, lx16, lx20, lx40, lx60, lx90, lx99, lx100, lx200, lx900, lx999, lx9999, h6, jo_cpy, jia_cpy, cpy_r, R3, jo_118 hW13, mb_o hM3, mb_r1 hM3, mb_j1 hM3, wr_118_15 hW13, ja_120 hW13]
        rw [← cpy_s, cpy_i, if_neg (by omega)]
      · simp (disch := omega) only [jb_some, jli, jif, jd_q, jd_K0, jpi_s, jpi_l, jpi_p, jpl_s, jpl_i, jpl_p, if_true, if_false, if_pos, if_neg, not_true_eq_false, not_false_eq_true, ite_true, ite_false, Nat.not_lt_zero, eq_self, Nat.le_refl, Nat.lt_irrefl, Bool.false_eq_true, or0, jo_pi, jo_pl, jia_pi, jia_pl, jo_cpy, jia_cpy, cpy_r, m_X11_grant, m_X11_refuse, m_X13_good, m_X13_refused, reduceCtorEq, nI_add, nI_leI, nI_ltI, nI_eq, pk_mul, abs_nI, max_nI, min_nI, nI_m1, nI_m2, nI_le1, m1_lt, m2_lt, and_nI, or_nI, an_nI, has_nI, bit_nI, bc_nI, bits_nI, lx0, lx1, lx2, lx3, lx4, lx5, lx6, lx7, lx8, lx9, lx10, lx11, lx16, lx20, lx40, lx60, lx90, lx99, lx100, lx200, lx900, lx999, lx9999]
end
