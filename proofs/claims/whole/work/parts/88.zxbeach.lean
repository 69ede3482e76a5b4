/-! P (38): the class's beach() -/
section
variable {σ : jd_Hp} {z : Zt}
def DB (T a k : Nat) : Prop := a = 35 ∨ 36 ≤ a ∧ a ≤ 39 ∨ T ≤ a ∧ a ≤ T + 8 ∨ a = 33 ∧ k = 1 ∨ a = 32 ∧ k = 11
set_option maxHeartbeats 2000000 in
theorem ZX_beach (h : XR z σ) (hz : HZ z) (x : Int32) : ZR (m_X11_beach 32 x σ) (z_beach z x) σ := by
  have hW := XR_W h
  have h0 := h
  have hz0 := hz
  obtain ⟨o, ⟨na, H⟩, ⟨ni, I⟩, ⟨tl, tp⟩, fl, wh, tr⟩ := z
  obtain ⟨T, hT, hS, hD, hR, hP, hTX, f1, f2, f3⟩ := h
  obtain ⟨z1, z2, z3, z4, z5⟩ := hz
  have z3 : tl ≤ 900 := z3
  have z4 : ∀ k, tp k < 256 := z4
  have hTX : TX tl tp σ := hTX
  have t1 : σ.2.1 33 1 = nI tl := hTX.1
  show ZR _ (match ixN x (tl + 1) with
  | none => (- nI 1, sTr (o, (na, H), (ni, I), (tl, tp), fl, wh, tr) 2)
  | some n => match e_all tp n (n + 1) B0 0 with
    | .inl f => (- nI 1, (o, (na, H), (ni, I), (0, tp), f.1, nI f.2, 4))
    | .inr B => (nI (B 8 3), (some (B, nw0 B), (0, H), (0, I), (0, tp), 0, - nI 1, 0))) σ
  unfold m_X11_beach
  rcases hn : ixN x (tl + 1) with _ | n
  · rcases ixN_none (by omega) hn with h1 | ⟨h1, h2⟩
    · rw [jif_t (show x < 0 from h1)]
      exact ZR_tr h0 hz0 _ _
    · have h3 : ¬ x ≤ nI tl := by
        obtain ⟨k, hk, rfl⟩ := nI_of h1
        rw [nI_leI (by omega) hk] at h2
        rw [nI_leI hk (by omega)]
        omega
      rw [jif_f (show ¬ x < 0 from h1), wr_32_0 hW, jo_33 hW, t1, jif_f h3]
      exact ZR_tr h0 hz0 _ _
  · obtain ⟨h1, rfl⟩ := ixN_some hn
    have hT' : 156 - T = 47 ∨ 156 - T = 109 := by omega
    obtain ⟨r, σ4, e4, F4, q⟩ := x_read (n := n) hW hTX z4 z3 (by omega) hT'
    have hW4 := Fr_Wd F4 hW
    have G6 : Fr (DB (156 - T)) L0 σ (jd_pi σ4 33 1 0) := Fr_pi (Fr_mono F4 (fun a k h => by unfold DB; omega) fun _ h => h) (by unfold DB; omega)
    have g6 : ∀ a k, ¬ (a = 33 ∧ k = 1) → (jd_pi σ4 33 1 0).2.1 a k = σ4.2.1 a k := fun a k h => pi_ne _ _ h
    have c6 : (jd_pi σ4 33 1 0).2.1 33 1 = nI 0 := pi_eq _ _ _ _
    rw [jif_f (show ¬ nI n < 0 from nI_pos (by omega)), wr_32_0 hW, jo_33 hW, t1, jif_t (nI_le (by omega) (by omega)), wr_32_1 hW, jo_35 hW, hD, e4, jb_some, wr_32_0 hW4, jo_33 hW4, jli]
    have hW6 : Wd (jd_pi σ4 33 1 0) := hW4
    have r6 : (jd_pi σ4 33 1 0).2.2.2 = σ.2.2.2 := G6.2.1
    show ZR _ (match e_all tp n (n + 1) B0 0 with
    | .inl f => (- nI 1, (o, (na, H), (ni, I), (0, tp), f.1, nI f.2, 4))
    | .inr B => (nI (B 8 3), (some (B, nw0 B), (0, H), (0, I), (0, tp), 0, - nI 1, 0))) σ
    generalize jd_pi σ4 33 1 0 = τ at *
    rcases he : e_all tp n (n + 1) B0 0 with f | B
    · rw [he] at q
      obtain ⟨rfl, q2, q3⟩ := q
      rw [jif_f (by decide)]
      have G7 : Fr (DB (156 - T)) L0 σ (jd_pi τ 32 11 (nI 4)) := Fr_pi G6 (by unfold DB; omega)
      have g : ∀ a k, ¬ DB (156 - T) a k → (jd_pi τ 32 11 (nI 4)).2.1 a k = σ.2.1 a k := G7.2.2.1
      refine ⟨jd_pi τ 32 11 (nI 4), rfl, ⟨T, hT, by rw [G7.2.1]; exact hS, by rw [G7.2.1]; exact hD, ⟨Fr_Wd G7 hW, ?_⟩, PX_fr hP G7 (fun a k h => by unfold DP at h; unfold DB; omega) z1 z2, ⟨(pi_ne _ _ (by omega)).trans c6, fun k hk => absurd hk (Nat.not_lt_zero k)⟩, ?_, ?_, pi_eq _ _ _ _⟩, GX_fr G7 (fun a k h => by unfold DB at h; omega) fun a h => absurd h id⟩
      · rcases o with _ | ⟨B, N⟩
        · exact (g 32 10 (by unfold DB; omega)).trans hR.2
        · obtain ⟨-, h10, hX, hb, hn', hG⟩ : Wd σ ∧ σ.2.1 32 10 = nI 1 ∧ CX B N T σ ∧ bOk B ∧ nOk B N ∧ SG B σ := hR
          exact ⟨(g 32 10 (by unfold DB; omega)).trans h10, CX_of hX (Fr_Wd G7 hW) (by rw [G7.2.1]; exact hS) (fun a k h => g a k (by unfold DB; omega)), hb, hn', SG_fr hG G7 (fun k => by unfold DB; omega) (by unfold L0; exact id) (by unfold L0; exact id)⟩
      · rw [pi_ne _ _ (by omega), g6 _ _ (by omega)]
        exact q2
      · rw [pi_ne _ _ (by omega), g6 _ _ (by omega)]
        exact q3
    · rw [he] at q
      obtain ⟨rfl, q2, q3, ⟨j, hC⟩, q5, q6⟩ := q
      have hO := hC.2.2.2.2.2.2.2
      have hb := bOk_r hO q5 q6
      have hCT : CT B (156 - T) τ := CT_of (CT_r hC.2.2.2.2.2.2.1 q5 hb.2.1) fun a k h1 h2 => g6 a k (by omega)
      rw [jif_t (by decide), r6, wr_32_2 hW, jo_40 hW6, hD, hS]
      obtain ⟨σ8, e8, hX8, x8, i8, r8⟩ := x_begin hW6 hT' hCT hb
      rw [e8, jb_some, jli]
      have hW8 := hX8.1.1
      have hW9 : Wd (jd_pr σ8 32 9 (some T)) := Wd_pr _ hW8 fun q hq => (fin_wR2 q hq).2.1
      have R9 : ∀ a k, ¬ (a = 32 ∧ k = 9) → (jd_pr σ8 32 9 (some T)).2.2.2 a k = σ8.2.2.2 a k := fun a k h => pr_ne _ _ h
      have R91 : (jd_pr σ8 32 9 (some T)).2.2.2 32 9 = some T := pr_eq _ _ _ _
      have i9 : (jd_pr σ8 32 9 (some T)).2.1 = σ8.2.1 := rfl
      have x9 : X118 σ8 (jd_pr σ8 32 9 (some T)) := X118_pr _ (by decide)
      generalize jd_pr σ8 32 9 (some T) = τ9 at *
      have F11 : Fr (fun a k => a = 56 ∧ (k = 3 ∨ k = 4)) L0 τ9 (jd_pi (jd_pi τ9 56 3 0) 56 4 0) := Fr_pi (Fr_pi (Fr_refl τ9) ⟨rfl, Or.inl rfl⟩) ⟨rfl, Or.inr rfl⟩
      have w3 : (jd_pi (jd_pi τ9 56 3 0) 56 4 0).2.1 56 3 = nI 0 := by
        rw [pi_ne _ _ (by omega), pi_eq]
        rfl
      have w4 : (jd_pi (jd_pi τ9 56 3 0) 56 4 0).2.1 56 4 = nI 0 := pi_eq _ _ _ _
      have hf : m_X2_forget 56 τ9 = some ((), jd_pi (jd_pi τ9 56 3 0) 56 4 0) := rfl
      rw [wr_32_3 hW9, jo_56 hW9, hf, jb_some]
      generalize jd_pi (jd_pi τ9 56 3 0) 56 4 0 = σ11 at *
      have hW11 := Fr_Wd F11 hW9
      have i11 : ∀ a k, ¬ (a = 56 ∧ (k = 3 ∨ k = 4)) → σ11.2.1 a k = σ8.2.1 a k := fun a k h => by
        rw [F11.2.2.1 a k h, i9]
      have s11 : σ11.2.2.2 40 5 = some (156 - T) := by
        rw [F11.2.1, R9 _ _ (by omega)]
        exact hX8.1.2.2.1
      have hX11 : CX B (nw0 B) (156 - T) σ11 := CX_of hX8 hW11 s11 fun a k h => i11 a k (by omega)
      obtain ⟨σ14, e14, F14, hG⟩ := x_weigh hW11 hT' hX11.1.2.2.2.1 hb
      have hW14 := Fr_Wd F14 hW11
      rw [wr_32_2 hW11, jo_40 hW11, wr_32_6 hW11, jo_104 hW11, s11, e14, jb_some, jli]
      have F15 : Fr (fun a k => a = 32 ∧ (k = 10 ∨ k = 11)) L0 σ14 (jd_pi σ14 32 10 1) := Fr_pi (Fr_refl σ14) ⟨rfl, Or.inl rfl⟩
      have hW15 := Fr_Wd F15 hW14
      have v10 : (jd_pi σ14 32 10 1).2.1 32 10 = nI 1 := pi_eq _ _ _ _
      generalize jd_pi σ14 32 10 1 = τ15 at *
      have s15 : τ15.2.2.2 40 5 = some (156 - T) := by
        rw [F15.2.1, F14.2.1]
        exact s11
      have i15 : ∀ a k, ¬ (a = 56 ∧ (k = 3 ∨ k = 4)) → ¬ (a = 104 ∧ k = 1) → ¬ (a = 32 ∧ (k = 10 ∨ k = 11)) → τ15.2.1 a k = σ8.2.1 a k := fun a k h1 h2 h3 => by
        rw [F15.2.2.1 a k h3, F14.2.2.1 a k h2, i11 a k h1]
      have c11 : τ15.2.1 (156 - T) 11 = nI (B 8 3) := (i15 _ _ (by omega) (by omega) (by omega)).trans (ct_s3 hX8.1.2.2.2.1)
      rw [wr_32_2 hW15, jo_40 hW15, s15, joT hW15 hT', c11]
      have F16 : Fr (fun a k => a = 32 ∧ (k = 10 ∨ k = 11)) L0 σ14 (jd_pi τ15 32 11 (nI 0)) := Fr_pi F15 ⟨rfl, Or.inr rfl⟩
      have i16 : ∀ a k, ¬ (a = 56 ∧ (k = 3 ∨ k = 4)) → ¬ (a = 104 ∧ k = 1) → ¬ (a = 32 ∧ (k = 10 ∨ k = 11)) → (jd_pi τ15 32 11 (nI 0)).2.1 a k = σ8.2.1 a k := fun a k h1 h2 h3 => by
        rw [pi_ne _ _ (by omega), i15 a k h1 h2 h3]
      have i17 : ∀ a k, ¬ (40 ≤ a ∧ a ≤ 45) → ¬ (a = 56 ∧ (k = 3 ∨ k = 4)) → ¬ (a = 104 ∧ k = 1) → ¬ (a = 32 ∧ (k = 10 ∨ k = 11)) → ¬ (a = 33 ∧ k = 1) → (jd_pi τ15 32 11 (nI 0)).2.1 a k = σ4.2.1 a k := fun a k h1 h2 h3 h4 h5 => by
        rw [i16 a k h2 h3 h4, i8 a k h1, g6 a k h5]
      have hW16 : Wd (jd_pi τ15 32 11 (nI 0)) := hW15
      have s16 : (jd_pi τ15 32 11 (nI 0)).2.2.2 40 5 = some (156 - T) := s15
      have x16 : X118 σ (jd_pi τ15 32 11 (nI 0)) := X118_tr (X118_tr (X118_tr (X118_tr (X118_tr (X118_fr G6 (fun a k h => by unfold DB at h; omega) fun a h => absurd h id) x8) x9) (X118_fr F11 (fun a k h => by omega) fun a h => absurd h id)) (X118_fr F14 (fun a k h => by unfold DG at h; omega) fun a h => by unfold LG at h; omega)) (X118_fr F16 (fun a k h => by omega) fun a h => absurd h id)
      refine ⟨jd_pi τ15 32 11 (nI 0), rfl, ⟨156 - T, hT', s16, ?_, ⟨hW16, ?_, CX_of hX8 hW16 s16 (fun a k h => i16 a k (by omega) (by omega) (by omega)), hb, nw0_ok hb, SG_fr hG F16 (fun k => by omega) (by unfold L0; exact id) (by unfold L0; exact id)⟩, ?_, ⟨?_, fun k hk => absurd hk (Nat.not_lt_zero k)⟩, ?_, ?_, pi_eq _ _ _ _⟩, X118_GX x16⟩
      · show τ15.2.2.2 32 9 = some (156 - (156 - T))
        rw [F15.2.1, F14.2.1, F11.2.1, R91]
        congr 1
        omega
      · rw [pi_ne _ _ (by omega)]
        exact v10
      · obtain ⟨nw, w1, w2, -⟩ := hP
        refine ⟨nw, w1, ?_, ?_, ?_, fun k hk => absurd hk (Nat.not_lt_zero k), fun k hk => absurd hk (Nat.not_lt_zero k)⟩
        · rw [i17 _ _ (by omega) (by omega) (by omega) (by omega) (by omega), F4.2.2.1 _ _ (by omega)]
          exact w2
        · rw [pi_ne _ _ (by omega), F15.2.2.1 _ _ (by omega), F14.2.2.1 _ _ (by unfold DG; omega)]
          exact w3
        · rw [pi_ne _ _ (by omega), F15.2.2.1 _ _ (by omega), F14.2.2.1 _ _ (by unfold DG; omega)]
          exact w4
      · rw [i16 _ _ (by omega) (by omega) (by omega), i8 _ _ (by omega)]
        exact c6
      · rw [i17 _ _ (by omega) (by omega) (by omega) (by omega) (by omega)]
        exact q2
      · rw [i17 _ _ (by omega) (by omega) (by omega) (by omega) (by omega)]
        exact q3
end
