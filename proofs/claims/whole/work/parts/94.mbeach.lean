/-! P (44): the reference's beach -/
def okF {α : Type} (x : Fl ⊕ α) : Prop := ∀ f, x = .inl f → 1 ≤ f.1 ∧ f.1 ≤ 6
section
variable {tp : Nat → Nat} {n i r : Nat} {σ σ' σ1 : jd_Hp} {B : Bch} {α β : Type}
theorem okF_l {a s : Nat} (h : 1 ≤ a ∧ a ≤ 6) : okF (.inl (a, s) : Fl ⊕ α) := fun f e => by
  injection e with e
  subst e
  exact h
theorem okF_r {a : α} : okF (.inr a : Fl ⊕ α) := fun f e => absurd e (by simp)
theorem okF_b {x : Fl ⊕ α} {g : α → Fl ⊕ β} (h : okF x) (k : ∀ a, okF (g a)) : okF (e_b x g) := by
  rcases x with e | a
  · intro f hf
    injection hf with hf
    exact h f (by rw [hf])
  · exact k a
theorem okF_if {c : Prop} [Decidable c] {x y : Fl ⊕ α} (h : okF x) (k : okF y) : okF (if c then x else y) := by
  split
  · exact h
  · exact k
theorem okF_lab (w lo hh i : Nat) : okF (e_lab tp n w lo hh i) := okF_if (okF_if (okF_if okF_r (okF_l (by decide))) (okF_l (by decide))) (okF_l (by decide))
theorem okF_new (B : Bch) (i : Nat) : okF (e_new tp n B i) := okF_if (by
  rcases fnd B (tW tp n i) with _ | k
  · exact okF_r
  · exact okF_l (by decide)) (okF_l (by decide))
theorem okF_told (B : Bch) (so i : Nat) : okF (e_told tp n B so i) := okF_if (by
  rcases fnd B (tW tp n i) with _ | k
  · exact okF_l (by decide)
  · exact okF_if okF_r (okF_l (by decide))) (okF_l (by decide))
theorem okF_line (B : Bch) (i : Nat) : okF (e_line tp n B i) := by
  have o1 : okF (e_beach tp n B (tE tp n i)) := okF_b (okF_lab _ _ _ _) fun _ => okF_b (okF_lab _ _ _ _) fun _ => okF_b (okF_lab _ _ _ _) fun _ => okF_r
  have o2 : okF (e_person tp n B (tE tp n i)) := okF_b (okF_new _ _) fun x => by
    show okF (match kdO tp n x.2 with
      | none => _
      | some kd => _)
    rcases kdO tp n x.2 with _ | kd
    · exact okF_l (by decide)
    · exact okF_b (okF_lab _ _ _ _) fun _ => okF_b (okF_lab _ _ _ _) fun _ => okF_b (okF_lab _ _ _ _) fun _ => okF_r
  have o3 : okF (e_post tp n B (tE tp n i)) := okF_b (okF_new _ _) fun x => okF_b (okF_lab _ _ _ _) fun _ => okF_b (okF_lab _ _ _ _) fun _ => okF_r
  have o4 : okF (e_manned tp n B (tE tp n i)) := okF_b (okF_told _ _ _) fun x => okF_if (okF_l (by decide)) okF_r
  have o5 : okF (e_knows tp n B (tE tp n i)) := okF_b (okF_told _ _ _) fun x => okF_b (okF_told _ _ _) fun y => okF_if (okF_l (by decide)) (okF_if (okF_l (by decide)) okF_r)
  have o6 : ∀ s, okF (e_sign tp n B (tE tp n i) s) := fun s => okF_b (okF_told _ _ _) fun x => okF_if okF_r (okF_l (by decide))
  exact okF_if (okF_if (okF_if o1 (okF_l (by decide))) (okF_if (okF_l (by decide)) (okF_if (okF_if o2 (okF_l (by decide))) (okF_if (okF_if o3 (okF_l (by decide))) (okF_if o4 (okF_if (okF_if o5 (okF_l (by decide))) (okF_if (o6 1) (o6 2)))))))) (okF_l (by decide))
theorem okF_all : ∀ (f : Nat) (B : Bch) (i : Nat), i ≤ n → n < i + f → okF (e_all tp n f B i)
  | 0, B, i, h1, h2 => by omega
  | f + 1, B, i, h1, h2 => by
    intro x hx
    have hx : (match e_line tp n B i with
    | .inl x => (.inl x : Fl ⊕ Bch)
    | .inr x => if tK tp n x.2 = 0 then (if 0 < x.1 8 3 then .inr x.1 else .inl (6, tS tp n x.2)) else if tK tp n x.2 = 3 then e_all tp n f x.1 (tE tp n x.2) else .inl (1, tS tp n x.2)) = .inl x := hx
    rcases he : e_line tp n B i with fl | ⟨B', j⟩
    · rw [he] at hx
      injection hx with hx
      subst hx
      exact okF_line B i fl he
    · rw [he] at hx
      obtain ⟨l1, -⟩ := e_line_ok h1 he
      by_cases hj : j ≤ n
      · by_cases hk : tK tp n j = 3
        · have h3 := tok_S hj hk
          have h4 := (tE_le (tp := tp) hj).2
          exact okF_if (okF_if okF_r (okF_l (by decide))) (okF_if (okF_all f B' (tE tp n j) h4 (by omega)) (okF_l (by decide))) x hx
        · have hx : (if tK tp n j = 0 then (if 0 < B' 8 3 then (.inr B' : Fl ⊕ Bch) else .inl (6, tS tp n j)) else if tK tp n j = 3 then e_all tp n f B' (tE tp n j) else .inl (1, tS tp n j)) = .inl x := hx
          rw [if_neg hk] at hx
          exact okF_if (okF_if okF_r (okF_l (by decide))) (okF_l (by decide)) x hx
      · have hx : (if tK tp n j = 0 then (if 0 < B' 8 3 then (.inr B' : Fl ⊕ Bch) else .inl (6, tS tp n j)) else if tK tp n j = 3 then e_all tp n f B' (tE tp n j) else .inl (1, tS tp n j)) = .inl x := hx
        have hs : tS tp n j = j := by
          unfold tS scan
          rw [show n - j = 0 by omega]
          rfl
        have hk : ¬ tK tp n j = 3 := by
          unfold tK
          rw [hs, if_pos (by omega)]
          decide
        rw [if_neg hk] at hx
        exact okF_if (okF_if okF_r (okF_l (by decide))) (okF_l (by decide)) x hx
def yrB : Int32 → jd_Hp → Option ((Int32 ⊕ Unit) × jd_Hp) := fun s1 σ1 =>
jd_if (s1 = 0) (
some ((Sum.inr ()), σ1)) (
jd_o σ1 (13, 29) (some 118) fun a3 =>
jd_b (m_X13_readLine a3 σ1) fun r4 σ4 =>
jd_b (m_X13_eatsSemicolon a3 σ4) fun r5 σ5 =>
some (Sum.inl r5, σ5))
def yrQ (tp : Nat → Nat) (n r : Nat) (x : Fl ⊕ Bch) (σ' : jd_Hp) : Prop := (∃ f, x = .inl f ∧ OV f σ') ∨ ∃ B' j, MRd tp n B' r j σ' ∧ ¬ B' 8 0 = 0 ∧ x = (if tK tp n j = 0 then (if 0 < B' 8 3 then .inr B' else .inl (6, tS tp n j)) else .inl (1, tS tp n j))
theorem y_lines : ∀ (f : Nat) (B : Bch) (i : Nat) (σ : jd_Hp) (g : Nat), MRd tp n B r i σ → n < i + f → f + 1 < g → ∃ σ', jd_lp yrB g (nI 1) σ = some ((), σ') ∧ Fr (DYr r) (LYr r) σ σ' ∧ yrQ tp n r (e_all tp n f B i) σ'
  | 0, B, i, σ, g, h, hf, _ => by
    have := h.2.2.2.1
    omega
  | f + 1, B, i, σ, g, h, hf, hg => by
    obtain ⟨g', rfl⟩ : ∃ g', g = g' + 2 := ⟨g - 2, by omega⟩
    have hi := h.2.2.2.1
    have hW := h.1.1
    have hL := y_readLine h
    have e0 : yrB (nI 1) σ = (jd_b (m_X13_readLine 118 σ) fun r4 σ4 => jd_b (m_X13_eatsSemicolon 118 σ4) fun r5 σ5 => some (Sum.inl r5, σ5)) := by
      unfold yrB
      rw [jif_f (by decide), jo_118 hW]
    have ez : ∀ σ', jd_lp yrB (g' + 1) (nI 0) σ' = some ((), σ') := fun σ' => by
      show jd_b (yrB (nI 0) σ') _ = _
      unfold yrB
      rw [jif_t (show nI 0 = (0 : Int32) from rfl)]
      rfl
    show ∃ σ', jd_b (yrB (nI 1) σ) _ = some ((), σ') ∧ _
    rw [e0]
    show ∃ σ', _ ∧ _ ∧ yrQ tp n r (match e_line tp n B i with
    | .inl x => .inl x
    | .inr x => if tK tp n x.2 = 0 then (if 0 < x.1 8 3 then .inr x.1 else .inl (6, tS tp n x.2)) else if tK tp n x.2 = 3 then e_all tp n f x.1 (tE tp n x.2) else .inl (1, tS tp n x.2)) σ'
    rcases he : e_line tp n B i with fl | ⟨B', j⟩
    · rw [he] at hL
      obtain ⟨σ2, h1, h2, h3⟩ := hL
      refine ⟨σ2, ?_, h2, Or.inl ⟨fl, rfl, h3⟩⟩
      have e2 : m_X13_eatsSemicolon 118 σ2 = some (nI 0, σ2) := by
        unfold m_X13_eatsSemicolon
        rw [h3.1, jif_t (by decide), jb_some, jif_t rfl]
        rfl
      rw [h1, jb_some, e2, jb_some, jb_some]
      exact ez σ2
    · rw [he] at hL
      obtain ⟨σ2, h1, h2, hC⟩ := hL
      have hC : MRd tp n B' r j σ2 := hC
      obtain ⟨l1, l2⟩ := e_line_ok hi he
      have hj := hC.2.2.2.1
      have hE := tE_le (tp := tp) hj
      have k4 := tK_le (tp := tp) (n := n) (i := j)
      obtain ⟨m1, m2, m3, m4, m5⟩ := mK_le _ k4
      by_cases hk3 : tK tp n j = 3
      · have hs := tok_S hj hk3
        obtain ⟨σ3, a3, hK3, F3, c3, hB3⟩ := y_go hC.1 hC.2.2.1 hj
        have e2 : m_X13_eatsSemicolon 118 σ2 = some (nI 1, σ3) := by
          unfold m_X13_eatsSemicolon
          rw [hC.2.2.1.1, jif_f (by rw [lx4, nI_eq (by omega) (by omega)]; exact fun h => h (m4.mpr hk3)), jb_some, jif_f (by decide), jo_118 hC.1.1, a3, jb_some]
          rfl
        have hM3 : MRd tp n B' r (tE tp n j) σ3 := ⟨hB3, MQr_y hC.2.1 F3, hK3, hE.2, c3.trans hC.2.2.2.2.1, hC.2.2.2.2.2⟩
        obtain ⟨σ', q1, q2, q3⟩ := y_lines f B' (tE tp n j) σ3 (g' + 1) hM3 (by omega) (by omega)
        refine ⟨σ', ?_, Fr_tr (Fr_tr h2 (up_r F3)) q2, ?_⟩
        · rw [h1, jb_some, e2, jb_some, jb_some]
          exact q1
        · show yrQ tp n r (if tK tp n j = 0 then (if 0 < B' 8 3 then .inr B' else .inl (6, tS tp n j)) else if tK tp n j = 3 then e_all tp n f B' (tE tp n j) else .inl (1, tS tp n j)) σ'
          rw [if_neg (by omega), if_pos hk3]
          exact q3
      · have e2 : m_X13_eatsSemicolon 118 σ2 = some (nI 0, σ2) := by
          unfold m_X13_eatsSemicolon
          rw [hC.2.2.1.1, jif_t (by rw [lx4, nI_eq (by omega) (by omega)]; exact fun h => hk3 (m4.mp h)), jb_some, jif_t rfl]
          rfl
        refine ⟨σ2, ?_, h2, Or.inr ⟨B', j, hC, l2, ?_⟩⟩
        · rw [h1, jb_some, e2, jb_some, jb_some]
          exact ez σ2
        · show (if tK tp n j = 0 then (if 0 < B' 8 3 then (.inr B' : Fl ⊕ Bch) else .inl (6, tS tp n j)) else if tK tp n j = 3 then e_all tp n f B' (tE tp n j) else .inl (1, tS tp n j)) = _
          rw [if_neg hk3]
theorem y_readAll (h : MRd tp n B r i σ) {f : Nat} (hf : n < i + f) (hg : f + 1 < jd_fu) : ∃ σ', m_X13_readAll 118 σ = some ((), σ') ∧ Fr (DYr r) (LYr r) σ σ' ∧ (match e_all tp n f B i with
    | .inl x => OV x σ'
    | .inr B' => (∃ j, MRd tp n B' r j σ') ∧ ¬ B' 8 0 = 0 ∧ 0 < B' 8 3) := by
  obtain ⟨σ2, e2, F2, q⟩ := y_lines f B i σ jd_fu h hf hg
  have hW2 := Fr_Wd F2 h.1.1
  have e1 : m_X13_readAll 118 σ = (jd_o σ2 (13, 29) (some 118) fun a6 =>
jd_b (α := Unit) (
jd_if ((σ2.2.1 a6 9) = 1) (
some ((), σ2)) (
jd_b (m_X13_flaw a6 1 σ2) fun r9 σ9 =>
some ((), σ9))) fun t8 σ8 =>
jd_o σ8 (13, 29) (some 118) fun a10 =>
jd_o σ8 (12, 20) (σ8.2.2.2 a10 4) fun a11 =>
jd_if (¬ (σ8.2.1 a11 3) = 0) (
some ((), σ8)) (
jd_b (m_X13_flaw a10 6 σ8) fun r12 σ12 =>
some ((), σ12))) := by
    have : ∀ K : Unit → jd_Hp → Option (Unit × jd_Hp), jd_b (jd_lp yrB jd_fu 1 σ) K = K () σ2 := fun K => by
      rw [show (1 : Int32) = nI 1 from rfl, e2, jb_some]
    exact this _
  rw [e1, jo_118 hW2]
  have hr2 : σ2.2.2.2 118 4 = some r := by
    rw [F2.2.1]
    exact h.2.1.1
  have hs2 : σ2.1[r]? = some (12, 20) := by
    rw [F2.1]
    exact h.2.1.2.2.1
  have tail : ∀ τ : jd_Hp, Wd τ → τ.2.1 118 9 = nI 5 → τ.2.2.2 118 4 = some r → τ.1[r]? = some (12, 20) → (jd_o τ (13, 29) (some 118) fun a10 =>
jd_o τ (12, 20) (τ.2.2.2 a10 4) fun a11 =>
jd_if (¬ (τ.2.1 a11 3) = 0) (
some ((), τ)) (
jd_b (m_X13_flaw a10 6 τ) fun r12 σ12 =>
some ((), σ12))) = some ((), τ) := fun τ hW h5 hr hs => by
    rw [jo_118 hW, hr, jo_of hs]
    by_cases h0 : τ.2.1 r 3 = 0
    · rw [jif_f (fun h => h h0), ov_flaw h5, jb_some]
    · rw [jif_t h0]
  rcases q with ⟨fl, he, ho⟩ | ⟨B', j, hC, l2, he⟩
  · rw [he]
    refine ⟨σ2, ?_, F2, ho⟩
    rw [ho.1, jif_f (by decide), ov_flaw ho.1, jb_some, jb_some]
    exact tail σ2 hW2 ho.1 hr2 hs2
  · have k4 := tK_le (tp := tp) (n := n) (i := j)
    obtain ⟨m1, m2, m3, m4, m5⟩ := mK_le _ k4
    have hK := hC.2.2.1
    rw [he, hK.1]
    by_cases hk0 : tK tp n j = 0
    · rw [if_pos hk0, jif_t (by rw [lx1, nI_eq (by omega) (by omega)]; exact m5.mpr hk0), jb_some, jo_118 hW2, hr2, jo_of hs2]
      have e3 : σ2.2.1 r 3 = nI (B' 8 3) := mq_s hC.2.1 (by decide)
      have b3 := hC.2.2.2.2.2.1.1
      rw [e3]
      by_cases h3 : 0 < B' 8 3
      · rw [if_pos h3, jif_t (by rw [lx0, nI_eq (by omega) (by omega)]; omega)]
        exact ⟨σ2, rfl, F2, ⟨j, hC⟩, l2, h3⟩
      · rw [if_neg h3, jif_f (by rw [lx0, nI_eq (by omega) (by omega)]; omega), show (6 : Int32) = nI 6 from rfl, y_flaw hK, jb_some]
        exact ⟨_, rfl, Fr_tr F2 (up_r fl_fr), fl_OV⟩
    · have o5 := fl_OV (σ := σ2) (f := 1) (s := tS tp n j)
      have F5 := fl_fr (σ := σ2) (f := 1) (s := tS tp n j)
      rw [if_neg hk0, jif_f (by rw [lx1, nI_eq (by omega) (by omega)]; exact fun h => hk0 (m5.mp h)), show (1 : Int32) = nI 1 from rfl, y_flaw hK, jb_some, jb_some]
      generalize jd_pi (jd_pi (jd_pi σ2 118 12 (nI 1)) 118 13 (nI (tS tp n j))) 118 9 (nI 5) = τ at *
      refine ⟨τ, tail τ (Fr_Wd F5 hW2) o5.1 (by rw [F5.2.1]; exact hr2) (by rw [F5.1]; exact hs2), Fr_tr F2 (up_r F5), o5⟩
end
/-! a new Beach -/
def shB : List (Nat × Nat) := [(20, 6), (20, 6), (20, 6), (20, 6), (20, 6), (20, 6), (20, 5), (20, 5), (23, 11), (20, 11), (20, 11)]
def Iv (σ0 : jd_Hp) (m : Nat) (τ : jd_Hp) : Prop := τ.1 = σ0.1 ++ (12, 20) :: shB.take m ∧ (∀ a k, a < σ0.1.length → τ.2.1 a k = σ0.2.1 a k ∧ τ.2.2.1 a k = σ0.2.2.1 a k ∧ τ.2.2.2 a k = σ0.2.2.2 a k) ∧ (∀ a k, σ0.1.length ≤ a → a ≤ σ0.1.length + m → τ.2.1 a k = nI 0 ∧ τ.2.2.1 a k = lN 0) ∧ ∀ i, i < m → τ.2.2.2 σ0.1.length (i + 9) = some (σ0.1.length + (i + 1))
theorem Iv_0 (σ0 : jd_Hp) : Iv σ0 0 (jd_new σ0 (12, 20)) := by
  refine ⟨rfl, fun a k h => ?_, fun a k h1 h2 => ?_, fun i hi => absurd hi (Nat.not_lt_zero i)⟩
  · have : ¬ a = σ0.1.length := by omega
    exact ⟨if_neg this, if_neg this, if_neg this⟩
  · have : a = σ0.1.length := by omega
    exact ⟨if_pos this, if_pos this⟩
theorem Iv_s {σ0 τ : jd_Hp} {m : Nat} (h : Iv σ0 m τ) {x : Nat × Nat} (hx : shB[m]? = some x) : Iv σ0 (m + 1) (jd_pr (jd_new τ x) σ0.1.length (m + 9) (some τ.1.length)) := by
  obtain ⟨h1, h2, h3, h4⟩ := h
  have hm : m < shB.length := (List.getElem?_eq_some_iff.mp hx).1
  have hl : τ.1.length = σ0.1.length + (m + 1) := by
    rw [h1, List.length_append, List.length_cons, List.length_take, Nat.min_eq_left (by omega)]
  have r1 : ∀ b j, (jd_pr (jd_new τ x) σ0.1.length (m + 9) (some τ.1.length)).2.2.2 b j = if b = σ0.1.length then (if j = m + 9 then some τ.1.length else (if b = τ.1.length then none else τ.2.2.2 b j)) else (if b = τ.1.length then none else τ.2.2.2 b j) := fun b j => rfl
  refine ⟨?_, fun a k ha => ?_, fun a k a1 a2 => ?_, fun i hi => ?_⟩
  · show τ.1 ++ [x] = _
    rw [h1, List.append_assoc]
    congr 1
    show (12, 20) :: (shB.take m ++ [x]) = _
    rw [List.take_succ, hx]
    rfl
  · have ha' : ¬ a = τ.1.length := by omega
    refine ⟨(if_neg ha').trans (h2 a k ha).1, (if_neg ha').trans (h2 a k ha).2.1, ?_⟩
    rw [r1, if_neg (by omega), if_neg ha']
    exact (h2 a k ha).2.2
  · by_cases ha : a = τ.1.length
    · exact ⟨if_pos ha, if_pos ha⟩
    · exact ⟨(if_neg ha).trans (h3 a k a1 (by omega)).1, (if_neg ha).trans (h3 a k a1 (by omega)).2⟩
  · rw [r1, if_pos rfl]
    by_cases him : i = m
    · rw [if_pos (by omega), hl, him]
    · rw [if_neg (by omega), if_neg (by omega)]
      exact h4 i (by omega)
theorem y_init (σ0 : jd_Hp) : ∃ τ, m_X12_init σ0.1.length (jd_new σ0 (12, 20)) = some ((), τ) ∧ Iv σ0 11 τ := ⟨_, rfl, Iv_s (Iv_s (Iv_s (Iv_s (Iv_s (Iv_s (Iv_s (Iv_s (Iv_s (Iv_s (Iv_s (Iv_0 σ0) rfl) rfl) rfl) rfl) rfl) rfl) rfl) rfl) rfl) rfl) rfl⟩
