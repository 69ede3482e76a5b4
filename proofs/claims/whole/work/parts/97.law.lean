/-! P (47): one call of the law -/
def LR (z : Zt) (σ : jd_Hp) : Prop := XR z σ ∧ MR z σ ∧ HZ z ∧ z.2.2.2.2.2.2 ≤ 6
def GG (σ σ' : jd_Hp) : Prop := ∃ t, σ'.1 = σ.1 ++ t ∧ t.length ≤ 24 ∧ (t.map Prod.snd).sum ≤ 256
def LO (c : Option ((Int32 ⊕ ((Unit) ⊕ Int32)) × jd_Hp)) (σ : jd_Hp) (s : Int32) : Prop := ∃ z' σ', c = some (Sum.inl (s + 6), σ') ∧ LR z' σ' ∧ GG σ σ'
section
variable {z : Zt} {σ σ' σ1 σ2 : jd_Hp} {L i : Nat} {α : Type}
theorem GG_of (h : Gr σ σ1) (g : Gr σ1 σ2) : GG σ σ2 := by
  obtain ⟨t, h1, h2, h3⟩ := h
  obtain ⟨u, g1, g2, g3⟩ := g
  refine ⟨t ++ u, by rw [g1, h1, List.append_assoc], by rw [List.length_append]; omega, ?_⟩
  rw [List.map_append, List.sum_append]
  omega
theorem sx_of {A : Nat → Option (α × jd_Hp)} {j : Nat} (hi : i + 6 ≤ L) (hL : L ≤ 3072) (hj : j < 6) : jd_sx L (nI i + nI j) A = A (i + j) := by
  unfold jd_sx
  rw [nI_add, nI_clamp (by omega), if_pos ⟨nI_pos (by omega), by omega⟩]
theorem sx1 {A : Nat → Option (α × jd_Hp)} (hi : i + 6 ≤ L) (hL : L ≤ 3072) : jd_sx L (nI i + 1) A = A (i + 1) := sx_of (j := 1) hi hL (by decide)
theorem sx2 {A : Nat → Option (α × jd_Hp)} (hi : i + 6 ≤ L) (hL : L ≤ 3072) : jd_sx L (nI i + 2) A = A (i + 2) := sx_of (j := 2) hi hL (by decide)
theorem sx3 {A : Nat → Option (α × jd_Hp)} (hi : i + 6 ≤ L) (hL : L ≤ 3072) : jd_sx L (nI i + 3) A = A (i + 3) := sx_of (j := 3) hi hL (by decide)
theorem sx4 {A : Nat → Option (α × jd_Hp)} (hi : i + 6 ≤ L) (hL : L ≤ 3072) : jd_sx L (nI i + 4) A = A (i + 4) := sx_of (j := 4) hi hL (by decide)
theorem sx5 {A : Nat → Option (α × jd_Hp)} (hi : i + 6 ≤ L) (hL : L ≤ 3072) : jd_sx L (nI i + 5) A = A (i + 5) := sx_of (j := 5) hi hL (by decide)
theorem sx0 {A : Nat → Option (α × jd_Hp)} (hi : i + 6 ≤ L) (hL : L ≤ 3072) : jd_sx L (nI i) A = A i := by
  unfold jd_sx
  rw [nI_clamp (by omega), if_pos ⟨nI_pos (by omega), by omega⟩]
theorem bo {x : Int32} {K : Int32 → jd_Hp → Option (α × jd_Hp)} : jd_b (jd_if (x = 0) (some ((0 : Int32), σ)) (some ((1 : Int32), σ))) K = K (if x = 0 then 0 else 1) σ := by
  by_cases h : x = 0
  · rw [jif_t h, if_pos h, jb_some]
  · rw [jif_f h, if_neg h, jb_some]
theorem lw_i {s : Int32} {c1 : Option (Int32 × jd_Hp)} {F : Nat → jd_Hp → Option (Int32 × jd_Hp)} {r : Int32 × Zt} (h : LR z σ) (hx : ZR c1 r σ) (hm : ∀ σ', MR z σ' → ZS (F 118 σ') r σ') (hz : HZ r.2) (ht : r.2.2.2.2.2.2.2 ≤ 6) : LO (jd_b c1 fun r1 σ1 => jd_o σ1 (13, 29) (some 118) fun a => jd_b (F a σ1) fun r2 σ2 => jd_if (r1 = r2) (some (Sum.inl (s + 6), σ2)) (some (Sum.inr (Sum.inr 0), σ2))) σ s := by
  obtain ⟨σ1, e1, x1, g1⟩ := hx
  have hW1 := XR_W x1
  obtain ⟨σ2, e2, m2, g2⟩ := hm σ1 (MR_GX h.2.1 g1 hW1)
  refine ⟨r.2, σ2, ?_, ⟨XR_GM x1 g2 (MR_W m2) hz, m2, hz, ht⟩, GG_of g1.1 g2.1⟩
  rw [e1, jb_some, jo_118 hW1, e2, jb_some, jif_t rfl]
theorem lw_l {s : Int32} {c1 : Option (Int64 × jd_Hp)} {F : Nat → jd_Hp → Option (Int64 × jd_Hp)} {r : Int64 × Zt} (h : LR z σ) (hx : ZR c1 r σ) (hm : ∀ σ', MR z σ' → ZS (F 118 σ') r σ') (hz : HZ r.2) (ht : r.2.2.2.2.2.2.2 ≤ 6) : LO (jd_b c1 fun r1 σ1 => jd_o σ1 (13, 29) (some 118) fun a => jd_b (F a σ1) fun r2 σ2 => jd_if ((lg_cmp r1 r2) = 0) (some (Sum.inl (s + 6), σ2)) (some (Sum.inr (Sum.inr 0), σ2))) σ s := by
  obtain ⟨σ1, e1, x1, g1⟩ := hx
  have hW1 := XR_W x1
  obtain ⟨σ2, e2, m2, g2⟩ := hm σ1 (MR_GX h.2.1 g1 hW1)
  refine ⟨r.2, σ2, ?_, ⟨XR_GM x1 g2 (MR_W m2) hz, m2, hz, ht⟩, GG_of g1.1 g2.1⟩
  rw [e1, jb_some, jo_118 hW1, e2, jb_some, jif_t ((lg_cmp_eq _ _).mpr rfl)]
theorem lw_led {s : Int32} (h : LR z σ) (x : Int32) : LO (jd_b (m_L_led (some 32) x (some 130) σ) fun r323 σ323 =>
jd_o σ323 (13, 29) (some 118) fun a325 =>
jd_b (m_X13_led a325 x σ323) fun r326 σ326 =>
jd_b (m_X13_thrown a325 σ326) fun r327 σ327 =>
jd_if (r327 = r323) (
jd_if (¬ r323 = 0) (
some (Sum.inl (s + 6), σ327)) (
jd_ia σ327 23 (some 130) 0 fun a328 j328 =>
jd_if ((lg_cmp (σ327.2.2.1 a328 j328) r326.toInt64) = 0) (
some (Sum.inl (s + 6), σ327)) (
some (Sum.inr (Sum.inr 0), σ327)))) (
some (Sum.inr (Sum.inr 0), σ327))) σ s := by
  obtain ⟨σ1, e1, x1, g1, w1⟩ := ZX_led h.1 h.2.2.1 x
  have hW1 := XR_W x1
  obtain ⟨σ2, e2, m2, g2, t2, l2⟩ := ZM_led (MR_GX h.2.1 g1 hW1) x
  have hW2 := MR_W m2
  refine ⟨z, σ2, ?_, ⟨XR_GM x1 g2 hW2 h.2.2.1, m2, h.2.2.1, h.2.2.2⟩, GG_of g1.1 g2.1⟩
  have e3 : m_X13_thrown 118 σ2 = some (σ2.2.1 118 0, σ2) := rfl
  rw [e1, jb_some, jo_118 hW1, e2, jb_some, e3, jb_some, t2, jif_t rfl]
  rcases hO : ledO z x with _ | p
  · rw [jif_t (by show ¬ nI 1 = 0; decide)]
  · have e4 : jd_ia σ2 23 (some 130) (0 : Int32) (fun a328 j328 => jd_if ((lg_cmp (σ2.2.2.1 a328 j328) (nI p).toInt64) = 0) (some ((Sum.inl (s + 6) : Int32 ⊕ ((Unit) ⊕ Int32)), σ2)) (some (Sum.inr (Sum.inr 0), σ2))) = jd_if ((lg_cmp (σ2.2.2.1 130 0) (nI p).toInt64) = 0) (some (Sum.inl (s + 6), σ2)) (some (Sum.inr (Sum.inr 0), σ2)) := jia_of (j := 0) (wd hW2 130 rfl) (by decide) (by decide)
    rw [jif_f (by show ¬ ¬ nI 0 = 0; decide)]
    show jd_ia σ2 23 (some 130) (0 : Int32) (fun a328 j328 => jd_if ((lg_cmp (σ2.2.2.1 a328 j328) (nI p).toInt64) = 0) (some ((Sum.inl (s + 6) : Int32 ⊕ ((Unit) ⊕ Int32)), σ2)) (some (Sum.inr (Sum.inr 0), σ2))) = _
    rw [e4, l2, w1 p hO, jif_t ((lg_cmp_eq _ _).mpr rfl)]
theorem zx_q {c : Option (α × jd_Hp)} {r : α × Nat} (h : XR z σ) (hz : HZ z) (F : ∀ T, RXc z.1 T σ → OX c r σ) : ZR c (r.1, sTr z r.2) σ := by
  have h0 := h
  obtain ⟨o, ⟨na, H⟩, ⟨ni, I⟩, ⟨tl, tp⟩, fl, wh, tr⟩ := z
  obtain ⟨T, hT, hS, hD, hR, -⟩ := h
  exact ZR_q h0 hz (F T hR)
theorem zm_q {c : Option (α × jd_Hp)} {r : α × Nat} (h : MR z σ) (F : ∀ b, RMc z.1 b σ → OM c r σ) (h2 : r.2 ≤ 2) : ZS c (r.1, sTr z r.2) σ := by
  have h0 := h
  obtain ⟨o, ⟨na, H⟩, ⟨ni, I⟩, ⟨tl, tp⟩, fl, wh, tr⟩ := z
  obtain ⟨b, hR, -⟩ := h
  exact ZS_q h0 (F b hR) (by omega)
theorem HZ_tr (h : HZ z) (t : Nat) : HZ (sTr z t) := h
def NOK (z : Zt) : Prop := ∀ B N, z.1 = some (B, N) → nOk B N
theorem nOk_R (h : MR z σ) : NOK z := by
  obtain ⟨o, ⟨na, H⟩, ⟨ni, I⟩, ⟨tl, tp⟩, fl, wh, tr⟩ := z
  obtain ⟨b, hR, -⟩ := h
  intro B N e
  have e : o = some (B, N) := e
  subst e
  exact hR.2.2.2.2.2
theorem HZ_act {B : Bch} {N : Nw} (h : HZ z) (hn : NOK z) (e : z.1 = some (B, N)) (N' : Nw) : HZ (actZ z B N N') := by
  obtain ⟨o, ⟨na, H⟩, ⟨ni, I⟩, ⟨tl, tp⟩, fl, wh, tr⟩ := z
  have hN := hn B N e
  have e : o = some (B, N) := e
  subst e
  obtain ⟨z1, z2, z3, z4, z5, z6⟩ := h
  refine ⟨Nat.min_le_right _ _, z2, z3, z4, fun k hk => ?_, z6⟩
  rcases k with _ | k
  · exact hN
  · exact z5 k (by have : k + 1 < min (na + 1) 16 := hk; omega)
theorem hh_man (h : HZ z) (hn : NOK z) (q : Int32) : HZ (z_man z q).2 ∧ (z_man z q).2.2.2.2.2.2.2 ≤ 6 := by
  unfold z_man
  rcases e : z.1 with _ | ⟨B, N⟩
  · exact ⟨HZ_tr h 1, show 1 ≤ 6 by decide⟩
  · dsimp only
    rcases ixN q (B 8 4) with _ | j
    · exact ⟨HZ_tr h 1, show 1 ≤ 6 by decide⟩
    · dsimp only
      split
      · exact ⟨HZ_tr h 5, show 5 ≤ 6 by decide⟩
      · exact ⟨HZ_act h hn e _, Nat.zero_le _⟩
theorem hh_leave (h : HZ z) (hn : NOK z) (q : Int32) : HZ (z_leave z q).2 ∧ (z_leave z q).2.2.2.2.2.2.2 ≤ 6 := by
  unfold z_leave
  rcases e : z.1 with _ | ⟨B, N⟩
  · exact ⟨HZ_tr h 1, show 1 ≤ 6 by decide⟩
  · dsimp only
    rcases ixN q (B 8 4) with _ | j
    · exact ⟨HZ_tr h 1, show 1 ≤ 6 by decide⟩
    · dsimp only
      split
      · exact ⟨HZ_act h hn e _, Nat.zero_le _⟩
      · exact ⟨HZ_tr h 5, show 5 ≤ 6 by decide⟩
theorem hh_seat (h : HZ z) (hn : NOK z) (p q : Int32) : HZ (z_seat z p q).2 ∧ (z_seat z p q).2.2.2.2.2.2.2 ≤ 6 := by
  unfold z_seat
  rcases e : z.1 with _ | ⟨B, N⟩
  · exact ⟨HZ_tr h 1, show 1 ≤ 6 by decide⟩
  · dsimp only
    rcases ixN p (B 8 3) with _ | j
    · exact ⟨HZ_tr h 1, show 1 ≤ 6 by decide⟩
    · dsimp only
      rcases rgN q 0 99 with _ | k
      · exact ⟨HZ_tr h 2, show 2 ≤ 6 by decide⟩
      · dsimp only
        split
        · exact ⟨HZ_tr h 5, show 5 ≤ 6 by decide⟩
        · exact ⟨HZ_act h hn e _, Nat.zero_le _⟩
theorem hh_minute (h : HZ z) (hn : NOK z) (q : Int32) : HZ (z_minute z q).2 ∧ (z_minute z q).2.2.2.2.2.2.2 ≤ 6 := by
  unfold z_minute
  rcases e : z.1 with _ | ⟨B, N⟩
  · exact ⟨HZ_tr h 1, show 1 ≤ 6 by decide⟩
  · dsimp only
    rcases rgN q 1 60 with _ | k
    · exact ⟨HZ_tr h 2, show 2 ≤ 6 by decide⟩
    · dsimp only
      split
      · exact ⟨HZ_act h hn e _, Nat.zero_le _⟩
      · exact ⟨HZ_tr h 3, show 3 ≤ 6 by decide⟩
theorem hh_lift (h : HZ z) (hn : NOK z) (q : Int32) : HZ (z_lift z q).2 ∧ (z_lift z q).2.2.2.2.2.2.2 ≤ 6 := by
  unfold z_lift
  rcases e : z.1 with _ | ⟨B, N⟩
  · exact ⟨HZ_tr h 1, show 1 ≤ 6 by decide⟩
  · dsimp only
    rcases ixN q (B 8 3) with _ | j
    · exact ⟨HZ_tr h 1, show 1 ≤ 6 by decide⟩
    · dsimp only
      split
      · rcases nrO B N j with _ | x
        · exact ⟨HZ_tr h 6, show 6 ≤ 6 by decide⟩
        · dsimp only
          split
          · exact ⟨HZ_act h hn e _, Nat.zero_le _⟩
          · exact ⟨HZ_tr h 6, show 6 ≤ 6 by decide⟩
      · exact ⟨HZ_tr h 5, show 5 ≤ 6 by decide⟩
theorem hh_undo (h : HZ z) (hn : NOK z) : HZ (z_undo z).2 ∧ (z_undo z).2.2.2.2.2.2.2 ≤ 6 := by
  unfold z_undo
  rcases e : z.1 with _ | ⟨B, N⟩
  · exact ⟨HZ_tr h 6, show 6 ≤ 6 by decide⟩
  · dsimp only
    split
    · exact ⟨HZ_tr h 6, show 6 ≤ 6 by decide⟩
    · refine ⟨?_, Nat.zero_le _⟩
      obtain ⟨o, ⟨na, H⟩, ⟨ni, I⟩, ⟨tl, tp⟩, fl, wh, tr⟩ := z
      have e : o = some (B, N) := e
      subst e
      obtain ⟨z1, z2, z3, z4, z5, z6⟩ := h
      exact ⟨by show na - 1 ≤ 16; omega, z2, z3, z4, fun k hk => z5 (k + 1) (by have : k < na - 1 := hk; omega), z6⟩
theorem hh_image (h : HZ z) (hn : NOK z) : HZ (z_image z).2 ∧ (z_image z).2.2.2.2.2.2.2 ≤ 6 := by
  unfold z_image
  rcases e : z.1 with _ | ⟨B, N⟩
  · exact ⟨HZ_tr h 1, show 1 ≤ 6 by decide⟩
  · dsimp only
    split
    · rename_i h3
      refine ⟨?_, Nat.zero_le _⟩
      obtain ⟨o, ⟨na, H⟩, ⟨ni, I⟩, ⟨tl, tp⟩, fl, wh, tr⟩ := z
      have hN := hn B N e
      have e : o = some (B, N) := e
      subst e
      obtain ⟨z1, z2, z3, z4, z5, z6⟩ := h
      have h3 : ni < 3 := h3
      refine ⟨z1, by show ni + 1 ≤ 3; omega, z3, z4, z5, fun k hk => ?_⟩
      have hk : k < ni + 1 := hk
      show nOk B (if k = ni then N else I k)
      split
      · exact hN
      · exact z6 k (by omega)
    · exact ⟨HZ_tr h 3, show 3 ≤ 6 by decide⟩
theorem hh_back (h : HZ z) (hn : NOK z) (q : Int32) : HZ (z_back z q).2 ∧ (z_back z q).2.2.2.2.2.2.2 ≤ 6 := by
  unfold z_back
  rcases e : z.1 with _ | ⟨B, N⟩
  · exact ⟨HZ_tr h 1, show 1 ≤ 6 by decide⟩
  · dsimp only
    rcases ixN q z.2.2.1.1 with _ | j
    · exact ⟨HZ_tr h 1, show 1 ≤ 6 by decide⟩
    · refine ⟨?_, Nat.zero_le _⟩
      obtain ⟨o, ⟨na, H⟩, ⟨ni, I⟩, ⟨tl, tp⟩, fl, wh, tr⟩ := z
      have e : o = some (B, N) := e
      subst e
      obtain ⟨z1, z2, z3, z4, z5, z6⟩ := h
      exact ⟨Nat.zero_le _, z2, z3, z4, fun k hk => absurd hk (Nat.not_lt_zero k), z6⟩
theorem hh_feed (h : HZ z) (ht : z.2.2.2.2.2.2 ≤ 6) (a b c d e : Int32) : HZ (z_feed z a b c d e).2 ∧ (z_feed z a b c d e).2.2.2.2.2.2.2 ≤ 6 := by
  unfold z_feed
  split
  · rename_i h9
    refine ⟨?_, ht⟩
    obtain ⟨o, ⟨na, H⟩, ⟨ni, I⟩, ⟨tl, tp⟩, fl, wh, tr⟩ := z
    obtain ⟨z1, z2, z3, z4, z5⟩ := h
    exact ⟨z1, z2, h9, fd5_lt z4 _ _ _ _ _ _, z5⟩
  · exact ⟨h, ht⟩
theorem hh_beach (h : HZ z) (x : Int32) : HZ (z_beach z x).2 ∧ (z_beach z x).2.2.2.2.2.2.2 ≤ 6 := by
  unfold z_beach
  rcases ixN x (z.2.2.2.1.1 + 1) with _ | n
  · exact ⟨HZ_tr h 2, show 2 ≤ 6 by decide⟩
  · dsimp only
    rcases e_all z.2.2.2.1.2 n (n + 1) B0 0 with f | B
    · refine ⟨?_, show 4 ≤ 6 by decide⟩
      obtain ⟨o, ⟨na, H⟩, ⟨ni, I⟩, ⟨tl, tp⟩, fl, wh, tr⟩ := z
      obtain ⟨z1, z2, z3, z4, z5⟩ := h
      exact ⟨z1, z2, Nat.zero_le _, z4, z5⟩
    · refine ⟨?_, Nat.zero_le _⟩
      obtain ⟨o, ⟨na, H⟩, ⟨ni, I⟩, ⟨tl, tp⟩, fl, wh, tr⟩ := z
      obtain ⟨z1, z2, z3, z4, z5⟩ := h
      exact ⟨Nat.zero_le _, Nat.zero_le _, Nat.zero_le _, z4, fun k hk => absurd hk (Nat.not_lt_zero k), fun k hk => absurd hk (Nat.not_lt_zero k)⟩
end
theorem tt_person (o : BO) (p : Int32) (w : Int32) : (a_person o p w).2 ≤ 2 := by
  rcases o with _ | ⟨B, N⟩
  · first | decide | (unfold a_person; decide) | (show 1 ≤ 2; decide)
  · unfold a_person
    dsimp only
    repeat' split
    all_goals first | decide | (dsimp only; decide)
theorem tt_post (o : BO) (p : Int32) (w : Int32) : (a_post o p w).2 ≤ 2 := by
  rcases o with _ | ⟨B, N⟩
  · first | decide | (unfold a_post; decide) | (show 1 ≤ 2; decide)
  · unfold a_post
    dsimp only
    repeat' split
    all_goals first | decide | (dsimp only; decide)
theorem tt_time (o : BO) (q : Int32) (p : Int32) : (a_time o q p).2 ≤ 2 := by
  rcases o with _ | ⟨B, N⟩
  · first | decide | (unfold a_time; decide) | (show 1 ≤ 2; decide)
  · unfold a_time
    dsimp only
    repeat' split
    all_goals first | decide | (dsimp only; decide)
theorem tt_sinkers (o : BO)  : (a_sinkers o).2 ≤ 2 := by
  rcases o with _ | ⟨B, N⟩
  · first | decide | (unfold a_sinkers; decide) | (show 1 ≤ 2; decide)
  · unfold a_sinkers
    dsimp only
    repeat' split
    all_goals first | decide | (dsimp only; decide)
theorem tt_first (o : BO)  : (a_first o).2 ≤ 2 := by
  rcases o with _ | ⟨B, N⟩
  · first | decide | (unfold a_first; decide) | (show 1 ≤ 2; decide)
  · unfold a_first
    dsimp only
    repeat' split
    all_goals first | decide | (dsimp only; decide)
theorem tt_under (o : BO) (m : Int32) : (a_under o m).2 ≤ 2 := by
  rcases o with _ | ⟨B, N⟩
  · first | decide | (unfold a_under; decide) | (show 1 ≤ 2; decide)
  · unfold a_under
    dsimp only
    repeat' split
    all_goals first | decide | (dsimp only; decide)
theorem tt_lost (o : BO) (m : Int32) : (a_lost o m).2 ≤ 2 := by
  rcases o with _ | ⟨B, N⟩
  · first | decide | (unfold a_lost; decide) | (show 1 ≤ 2; decide)
  · unfold a_lost
    dsimp only
    repeat' split
    all_goals first | decide | (dsimp only; decide)
theorem tt_worstMinute (o : BO)  : (a_worstMinute o).2 ≤ 2 := by
  rcases o with _ | ⟨B, N⟩
  · first | decide | (unfold a_worstMinute; decide) | (show 1 ≤ 2; decide)
  · unfold a_worstMinute
    dsimp only
    repeat' split
    all_goals first | decide | (dsimp only; decide)
theorem tt_reached (o : BO)  : (a_reached o).2 ≤ 2 := by
  rcases o with _ | ⟨B, N⟩
  · first | decide | (unfold a_reached; decide) | (show 1 ≤ 2; decide)
  · unfold a_reached
    dsimp only
    repeat' split
    all_goals first | decide | (dsimp only; decide)
theorem tt_nearest (o : BO) (p : Int32) : (a_nearest o p).2 ≤ 2 := by
  rcases o with _ | ⟨B, N⟩
  · first | decide | (unfold a_nearest; decide) | (show 1 ≤ 2; decide)
  · unfold a_nearest
    dsimp only
    repeat' split
    all_goals first | decide | (dsimp only; decide)
theorem tt_cover (o : BO)  : (a_cover o).2 ≤ 2 := by
  rcases o with _ | ⟨B, N⟩
  · first | decide | (unfold a_cover; decide) | (show 1 ≤ 2; decide)
  · unfold a_cover
    dsimp only
    repeat' split
    all_goals first | decide | (dsimp only; decide)
theorem tt_covers (o : BO)  : (a_covers o).2 ≤ 2 := by
  rcases o with _ | ⟨B, N⟩
  · first | decide | (unfold a_covers; decide) | (show 1 ≤ 2; decide)
  · unfold a_covers
    dsimp only
    repeat' split
    all_goals first | decide | (dsimp only; decide)
theorem tt_bestPost (o : BO)  : (a_bestPost o).2 ≤ 2 := by
  rcases o with _ | ⟨B, N⟩
  · first | decide | (unfold a_bestPost; decide) | (show 1 ≤ 2; decide)
  · unfold a_bestPost
    dsimp only
    repeat' split
    all_goals first | decide | (dsimp only; decide)
theorem tt_bestPlace (o : BO) (f : Int32) : (a_bestPlace o f).2 ≤ 2 := by
  rcases o with _ | ⟨B, N⟩
  · first | decide | (unfold a_bestPlace; decide) | (show 1 ≤ 2; decide)
  · unfold a_bestPlace
    dsimp only
    repeat' split
    all_goals first | decide | (dsimp only; decide)
theorem tt_limitFor (o : BO)  : (a_limitFor o).2 ≤ 2 := by
  rcases o with _ | ⟨B, N⟩
  · first | decide | (unfold a_limitFor; decide) | (show 1 ≤ 2; decide)
  · unfold a_limitFor
    dsimp only
    repeat' split
    all_goals first | decide | (dsimp only; decide)
theorem tt_alone (o : BO) (q : Int32) : (a_alone o q).2 ≤ 2 := by
  rcases o with _ | ⟨B, N⟩
  · first | decide | (unfold a_alone; decide) | (show 1 ≤ 2; decide)
  · unfold a_alone
    dsimp only
    repeat' split
    all_goals first | decide | (dsimp only; decide)
theorem tt_aloneAt (o : BO) (q : Int32) (k : Int32) : (a_aloneAt o q k).2 ≤ 2 := by
  rcases o with _ | ⟨B, N⟩
  · first | decide | (unfold a_aloneAt; decide) | (show 1 ≤ 2; decide)
  · unfold a_aloneAt
    dsimp only
    repeat' split
    all_goals first | decide | (dsimp only; decide)
theorem tt_aloneFree (o : BO) (q : Int32) : (a_aloneFree o q).2 ≤ 2 := by
  rcases o with _ | ⟨B, N⟩
  · first | decide | (unfold a_aloneFree; decide) | (show 1 ≤ 2; decide)
  · unfold a_aloneFree
    dsimp only
    repeat' split
    all_goals first | decide | (dsimp only; decide)
theorem tt_bestAlone (o : BO)  : (a_bestAlone o).2 ≤ 2 := by
  rcases o with _ | ⟨B, N⟩
  · first | decide | (unfold a_bestAlone; decide) | (show 1 ≤ 2; decide)
  · unfold a_bestAlone
    dsimp only
    repeat' split
    all_goals first | decide | (dsimp only; decide)
theorem tt_seats (o : BO)  : (a_seats o).2 ≤ 2 := by
  rcases o with _ | ⟨B, N⟩
  · first | decide | (unfold a_seats; decide) | (show 1 ≤ 2; decide)
  · unfold a_seats
    dsimp only
    repeat' split
    all_goals first | decide | (dsimp only; decide)
theorem tt_seatOf (o : BO) (p : Int32) : (a_seatOf o p).2 ≤ 2 := by
  rcases o with _ | ⟨B, N⟩
  · first | decide | (unfold a_seatOf; decide) | (show 1 ≤ 2; decide)
  · unfold a_seatOf
    dsimp only
    repeat' split
    all_goals first | decide | (dsimp only; decide)
theorem tt_company (o : BO) (p : Int32) : (a_company o p).2 ≤ 2 := by
  rcases o with _ | ⟨B, N⟩
  · first | decide | (unfold a_company; decide) | (show 1 ≤ 2; decide)
  · unfold a_company
    dsimp only
    repeat' split
    all_goals first | decide | (dsimp only; decide)
theorem tt_odds (o : BO) (p : Int32) (lo : Int32) : (a_odds o p lo).2 ≤ 2 := by
  rcases o with _ | ⟨B, N⟩
  · first | decide | (unfold a_odds; decide) | (show 1 ≤ 2; decide)
  · unfold a_odds
    dsimp only
    repeat' split
    all_goals first | decide | (dsimp only; decide)
theorem tt_likeliest (o : BO)  : (a_likeliest o).2 ≤ 2 := by
  rcases o with _ | ⟨B, N⟩
  · first | decide | (unfold a_likeliest; decide) | (show 1 ≤ 2; decide)
  · unfold a_likeliest
    dsimp only
    repeat' split
    all_goals first | decide | (dsimp only; decide)
theorem tt_among (o : BO) (p : Int32) (lo : Int32) : (a_among o p lo).2 ≤ 2 := by
  rcases o with _ | ⟨B, N⟩
  · first | decide | (unfold a_among; decide) | (show 1 ≤ 2; decide)
  · unfold a_among
    dsimp only
    repeat' split
    all_goals first | decide | (dsimp only; decide)
theorem tt_suspects (o : BO)  : (a_suspects o).2 ≤ 2 := by
  rcases o with _ | ⟨B, N⟩
  · first | decide | (unfold a_suspects; decide) | (show 1 ≤ 2; decide)
  · unfold a_suspects
    dsimp only
    repeat' split
    all_goals first | decide | (dsimp only; decide)
theorem tt_flag (o : BO) (f : Int32) : (a_flag o f).2 ≤ 2 := by
  rcases o with _ | ⟨B, N⟩
  · first | decide | (unfold a_flag; decide) | (show 1 ≤ 2; decide)
  · unfold a_flag
    dsimp only
    repeat' split
    all_goals first | decide | (dsimp only; decide)
theorem tt_teach (o : BO)  : (a_teach o).2 ≤ 2 := by
  rcases o with _ | ⟨B, N⟩
  · first | decide | (unfold a_teach; decide) | (show 1 ≤ 2; decide)
  · unfold a_teach
    dsimp only
    repeat' split
    all_goals first | decide | (dsimp only; decide)
theorem tt_hears (o : BO) (p : Int32) : (a_hears o p).2 ≤ 2 := by
  rcases o with _ | ⟨B, N⟩
  · first | decide | (unfold a_hears; decide) | (show 1 ≤ 2; decide)
  · unfold a_hears
    dsimp only
    repeat' split
    all_goals first | decide | (dsimp only; decide)
theorem tt_looks (o : BO) (f : Int32) (a : Int32) (c : Int32) (w : Int32) : (a_looks o f a c w).2 ≤ 2 := by
  rcases o with _ | ⟨B, N⟩
  · first | decide | (unfold a_looks; decide) | (show 1 ≤ 2; decide)
  · unfold a_looks
    dsimp only
    repeat' split
    all_goals first | decide | (dsimp only; decide)
theorem tt_rests (o : BO) (f : Int32) : (a_rests o f).2 ≤ 2 := by
  rcases o with _ | ⟨B, N⟩
  · first | decide | (unfold a_rests; decide) | (show 1 ≤ 2; decide)
  · unfold a_rests
    dsimp only
    repeat' split
    all_goals first | decide | (dsimp only; decide)
theorem tt_rest (o : BO) (f : Int32) : (a_rest o f).2 ≤ 2 := by
  rcases o with _ | ⟨B, N⟩
  · first | decide | (unfold a_rest; decide) | (show 1 ≤ 2; decide)
  · unfold a_rest
    dsimp only
    repeat' split
    all_goals first | decide | (dsimp only; decide)
theorem tt_safe (o : BO) (lo : Int32) : (a_safe o lo).2 ≤ 2 := by
  rcases o with _ | ⟨B, N⟩
  · first | decide | (unfold a_safe; decide) | (show 1 ≤ 2; decide)
  · unfold a_safe
    dsimp only
    repeat' split
    all_goals first | decide | (dsimp only; decide)
theorem tt_sinking (o : BO) (k : Int32) (lo : Int32) : (a_sinking o k lo).2 ≤ 2 := by
  rcases o with _ | ⟨B, N⟩
  · first | decide | (unfold a_sinking; decide) | (show 1 ≤ 2; decide)
  · unfold a_sinking
    dsimp only
    repeat' split
    all_goals first | decide | (dsimp only; decide)
theorem tt_mean (o : BO) (lo : Int32) : (a_mean o lo).2 ≤ 2 := by
  rcases o with _ | ⟨B, N⟩
  · first | decide | (unfold a_mean; decide) | (show 1 ≤ 2; decide)
  · unfold a_mean
    dsimp only
    repeat' split
    all_goals first | decide | (dsimp only; decide)
theorem tt_afternoons (o : BO) (p : Int32) (s : Int32) (n : Int32) : (a_afternoons o p s n).2 ≤ 2 := by
  rcases o with _ | ⟨B, N⟩
  · first | decide | (unfold a_afternoons; decide) | (show 1 ≤ 2; decide)
  · unfold a_afternoons
    dsimp only
    repeat' split
    all_goals first | decide | (dsimp only; decide)
theorem tt_worst (o : BO) (s : Int32) (n : Int32) : (a_worst o s n).2 ≤ 2 := by
  rcases o with _ | ⟨B, N⟩
  · first | decide | (unfold a_worst; decide) | (show 1 ≤ 2; decide)
  · unfold a_worst
    dsimp only
    repeat' split
    all_goals first | decide | (dsimp only; decide)
