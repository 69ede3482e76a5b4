/-! P (40): the reference's words -/
def OV (f : Fl) (σ : jd_Hp) : Prop := σ.2.1 118 9 = nI 5 ∧ σ.2.1 118 12 = nI f.1 ∧ σ.2.1 118 13 = nI f.2
def DY (a k : Nat) : Prop := a = 118 ∧ 8 ≤ k ∧ k ≤ 13
/-- the beach that is read, at r -/
def MQr (B : Bch) (r : Nat) (σ : jd_Hp) : Prop := σ.2.2.2 118 4 = some r ∧ 131 ≤ r ∧ σ.1[r]? = some (12, 20) ∧ (∀ i, i < 6 → σ.1[r + (i + 1)]? = some (20, 6)) ∧ (∀ i, i < 2 → σ.1[r + (i + 7)]? = some (20, 5)) ∧ σ.1[r + 9]? = some (23, 11) ∧ (∀ i, i < 2 → σ.1[r + (i + 10)]? = some (20, 11)) ∧ (∀ i, i < 11 → σ.2.2.2 r (i + 9) = some (r + (i + 1))) ∧ (∀ i, i < 9 → σ.2.1 r i = nI (B 8 i)) ∧ (∀ k p, k < 6 → p < 6 → σ.2.1 (r + (k + 1)) p = nI (B k p)) ∧ (∀ k q, k < 2 → q < 5 → σ.2.1 (r + (k + 7)) q = nI (B (k + 6) q)) ∧ (∀ k, k < 11 → σ.2.2.1 (r + 9) k = lN (B 9 k)) ∧ (∀ k, k < 11 → σ.2.1 (r + 10) k = nI (B 10 k)) ∧ ∀ k, k < 11 → σ.2.1 (r + 11) k = nI (B 11 k)
section
variable {tp : Nat → Nat} {n i r : Nat} {σ σ' σ1 : jd_Hp} {D : Nat → Nat → Prop} {L : Nat → Prop} {B : Bch}
theorem MQr_of (h : MQr B r σ) (e1 : σ'.1 = σ.1) (e2 : σ'.2.2.2 = σ.2.2.2) (e : ∀ a k, r ≤ a → a ≤ r + 11 → σ'.2.1 a k = σ.2.1 a k) (el : ∀ k, σ'.2.2.1 (r + 9) k = σ.2.2.1 (r + 9) k) : MQr B r σ' := by
  obtain ⟨h0, h1, h2, h3, h4, h5, h6, h7, h8, h9, h10, h11, h12, h13⟩ := h
  unfold MQr
  rw [e1, e2]
  exact ⟨h0, h1, h2, h3, h4, h5, h6, h7, fun i hi => (e _ _ (by omega) (by omega)).trans (h8 i hi), fun k p hk hp => (e _ _ (by omega) (by omega)).trans (h9 k p hk hp), fun k q hk hq => (e _ _ (by omega) (by omega)).trans (h10 k q hk hq), fun k hk => (el k).trans (h11 k hk), fun k hk => (e _ _ (by omega) (by omega)).trans (h12 k hk), fun k hk => (e _ _ (by omega) (by omega)).trans (h13 k hk)⟩
theorem MQr_fr (h : MQr B r σ) (f : Fr D L σ σ') (hd : ∀ a k, D a k → a < 131) (hl : ∀ a, L a → a < 131) : MQr B r σ' := by
  have h1 := h.2.1
  exact MQr_of h f.1 f.2.1 (fun a k a1 a2 => f.2.2.1 a k fun c => by have := hd a k c; omega) fun k => f.2.2.2 _ k fun c => by have := hl _ c; omega
section
variable {α : Type} {A : Nat → Option (α × jd_Hp)} {A2 : Nat → Nat → Option (α × jd_Hp)} {j : Nat}
theorem mq_o (h : MQr B r σ) : jd_o σ (12, 20) (some r) A = A r := jo_of h.2.2.1
theorem mq_j6 (h : MQr B r σ) {i : Nat} (hi : i < 6) (hj : j < 6) : jd_ia σ 20 (some (r + (i + 1))) (nI j) A2 = A2 (r + (i + 1)) j := jia_of (h.2.2.2.1 i hi) hj (by decide)
theorem mq_j5 (h : MQr B r σ) {i : Nat} (hi : i < 2) (hj : j < 5) : jd_ia σ 20 (some (r + (i + 7))) (nI j) A2 = A2 (r + (i + 7)) j := jia_of (h.2.2.2.2.1 i hi) hj (by decide)
theorem mq_jl (h : MQr B r σ) (hj : j < 11) : jd_ia σ 23 (some (r + 9)) (nI j) A2 = A2 (r + 9) j := jia_of h.2.2.2.2.2.1 hj (by decide)
theorem mq_jn (h : MQr B r σ) {i : Nat} (hi : i < 2) (hj : j < 11) : jd_ia σ 20 (some (r + (i + 10))) (nI j) A2 = A2 (r + (i + 10)) j := jia_of (h.2.2.2.2.2.2.1 i hi) hj (by decide)
theorem mq_r (h : MQr B r σ) {i : Nat} (hi : i < 11) : σ.2.2.2 r (i + 9) = some (r + (i + 1)) := h.2.2.2.2.2.2.2.1 i hi
theorem mq_s (h : MQr B r σ) {i : Nat} (hi : i < 9) : σ.2.1 r i = nI (B 8 i) := h.2.2.2.2.2.2.2.2.1 i hi
theorem mq_a (h : MQr B r σ) {k p : Nat} (hk : k < 6) (hp : p < 6) : σ.2.1 (r + (k + 1)) p = nI (B k p) := h.2.2.2.2.2.2.2.2.2.1 k p hk hp
theorem mq_b (h : MQr B r σ) {k q : Nat} (hk : k < 2) (hq : q < 5) : σ.2.1 (r + (k + 7)) q = nI (B (k + 6) q) := h.2.2.2.2.2.2.2.2.2.2.1 k q hk hq
theorem mq_l (h : MQr B r σ) (hj : j < 11) : σ.2.2.1 (r + 9) j = lN (B 9 j) := h.2.2.2.2.2.2.2.2.2.2.2.1 j hj
theorem mq_10 (h : MQr B r σ) (hj : j < 11) : σ.2.1 (r + 10) j = nI (B 10 j) := h.2.2.2.2.2.2.2.2.2.2.2.2.1 j hj
theorem mq_11 (h : MQr B r σ) (hj : j < 11) : σ.2.1 (r + 11) j = nI (B 11 j) := h.2.2.2.2.2.2.2.2.2.2.2.2.2 j hj
end
/-! strings -/
theorem pkf_s (b : Nat) (f : Nat → Nat) (l : Nat) : pkf b f (l + 1) = b * pkf b f l + f l := rfl
theorem y_packed {w : Nat} (hw : w < 18) : m_X13_packed (some w) σ = some (lN (kw w), σ) := by
  obtain ⟨s1, s2, s3⟩ := fin_su w hw
  unfold m_X13_packed kw
  rw [jlp_p (sl w) (fun k => ((lN (pkf 32 (fun k => su w k - 96) k), nI k) : Int64 × Int32)) (lN (pkf 32 (fun k => su w k - 96) (sl w))) (jfu (by omega)) ?_ ?_ ?_]
  · rfl
  · rfl
  · intro k hk
    obtain ⟨-, c1, c2⟩ := s3 k hk
    have e5 : (32 * lN (pkf 32 (fun k => su w k - 96) k) + ((nI (su w k) - 97) + 1).toInt64) = lN (pkf 32 (fun k => su w k - 96) (k + 1)) := by
      rw [lx97, nI_sub (by omega), lx1, nI_add, nI_l (by omega), show (32 : Int64) = lN 32 from rfl, lN_mul, lN_add, pkf_s]
      congr 2
      omega
    rw [sl_of hw, jif_f (by rw [nI_leI (by omega) (by omega)]; omega), sc_of hw hk, jli, e5, lx1, nI_add]
  · rw [sl_of hw, jif_t (nI_le (Nat.le_refl _) (by omega))]
theorem kw_lt {w : Nat} (hw : w < 18) : kw w < 2 ^ 40 := by
  have : ∀ w, w < 18 → kw w < 2 ^ 40 := by decide +kernel
  exact this w hw
theorem lg_eq {a b : Nat} (ha : a < 2 ^ 63) (hb : b < 2 ^ 63) : (lg_cmp (lN a) (lN b) = 0) = (a = b) := cl_eq ha hb
theorem mK_le : ∀ k, k ≤ 4 → mK k ≤ 4 ∧ (mK k = 2 ↔ k = 1) ∧ (mK k = 3 ↔ k = 2) ∧ (mK k = 4 ↔ k = 3) ∧ (mK k = 1 ↔ k = 0) := by decide
theorem y_isWord (hi : i ≤ n) (hK : MK tp n i σ) {w : Nat} (hw : w < 18) : m_X13_isWord 118 (some w) σ = some (if isWd tp n i w then nI 1 else nI 0, σ) := by
  have k4 := tK_le (tp := tp) (n := n) (i := i)
  obtain ⟨m1, m2, -⟩ := mK_le _ k4
  have hw2 := kw_lt hw
  unfold m_X13_isWord
  rw [hK.1]
  by_cases h1 : tK tp n i = 1
  · have h2 := wv_lt (tok_W hi h1).1
    rw [jif_f (by rw [lx2, nI_eq (by omega) (by omega), m2]; exact fun h => h h1), y_packed hw, jb_some, hK.2.2.2.1 h1]
    have h2 : tW tp n i < 2 ^ 40 := h2
    by_cases h3 : tW tp n i = kw w
    · rw [isWd_t.mpr ⟨h1, h3⟩, jif_f (by rw [lg_eq (by omega) (by omega)]; exact fun h => h h3)]
      rfl
    · rw [isWd_f.mpr (fun h => h3 h.2), jif_t (by rw [lg_eq (by omega) (by omega)]; exact h3)]
      rfl
  · rw [jif_t (by rw [lx2, nI_eq (by omega) (by omega), m2]; exact h1), isWd_f.mpr (fun h => h1 h.1)]
    rfl
/-! over -/
theorem ov_flaw {x : Int32} (h : σ.2.1 118 9 = nI 5) : m_X13_flaw 118 x σ = some ((), σ) := by
  unfold m_X13_flaw
  rw [h, jif_f (by simp only [Classical.not_not]; rfl)]
theorem ov_goesOn (h : σ.2.1 118 9 = nI 5) : m_X13_goesOn 118 σ = some ((), σ) := by
  unfold m_X13_goesOn
  rw [h, jif_f (by simp only [Classical.not_not]; rfl)]
theorem ov_isWord {o : Option Nat} (h : σ.2.1 118 9 = nI 5) : m_X13_isWord 118 o σ = some (nI 0, σ) := by
  unfold m_X13_isWord
  rw [h, jif_t (by decide)]
  rfl
theorem ov_needs {o : Option Nat} (h : σ.2.1 118 9 = nI 5) : m_X13_needs 118 o σ = some ((), σ) := by
  unfold m_X13_needs
  rw [ov_isWord h, jb_some, jif_f (by decide), ov_flaw h, jb_some, ov_goesOn h, jb_some]
theorem ov_readPart {o : Option Nat} {x y : Int32} (hW : Wd σ) (h : σ.2.1 118 9 = nI 5) : m_X13_readPart 118 o x y σ = some (x, σ) := by
  unfold m_X13_readPart
  rw [ov_needs h, jb_some, h, jif_f (by decide), ov_flaw h, jb_some, jb_some, jo_118 hW, h, jif_f (by simp only [Classical.not_not]; rfl), ov_goesOn h, jb_some]
theorem ov_isName (h : σ.2.1 118 9 = nI 5) : m_X13_isName 118 σ = some (nI 0, σ) := by
  unfold m_X13_isName
  rw [h, jif_t (by decide)]
  rfl
theorem y_find_any (hQ : MQr B r σ) (hm : B 8 8 ≤ 11) (x : Int64) : ∃ v, m_X12_find r x σ = some (v, σ) ∧ (v = - nI 1 ∨ ∃ k, k < B 8 8 ∧ v = nI k) := by
  have e8 : σ.2.1 r 8 = nI (B 8 8) := mq_s hQ (by decide)
  have r17 : σ.2.2.2 r 17 = some (r + 9) := mq_r hQ (i := 8) (by decide)
  unfold m_X12_find
  rw [jlp_e (B 8 8) (fun k => nI k) (fun k => decide (lg_cmp (lN (B 9 k)) x = 0)) (fun k => Sum.inr (nI k)) (Sum.inl ()) (jfu (by omega)) ?_ ?_ ?_]
  · rcases hf : (List.range (B 8 8)).find? (fun k => decide (lg_cmp (lN (B 9 k)) x = 0)) with _ | k
    · exact ⟨- nI 1, rfl, Or.inl rfl⟩
    · exact ⟨nI k, rfl, Or.inr ⟨k, List.mem_range.mp (List.mem_of_find?_eq_some hf), rfl⟩⟩
  · rfl
  · intro k hk
    have hl := mq_l hQ (j := k) (by omega)
    rw [mq_o hQ, e8, jif_f (by rw [nI_leI (by omega) (by omega)]; omega), r17, mq_jl hQ (by omega), hl]
    by_cases h : lg_cmp (lN (B 9 k)) x = 0
    · rw [jif_f (fun c => c h), decide_eq_true h]
      rfl
    · rw [jif_t h, decide_eq_false h, lx1, nI_add]
      rfl
  · rw [mq_o hQ, e8, jif_t (nI_le (Nat.le_refl _) (by omega))]
theorem y_find (hQ : MQr B r σ) (hm : B 8 8 ≤ 11) (h9 : ∀ k, B 9 k < 2 ^ 40) {w : Nat} (hw : w < 2 ^ 40) : m_X12_find r (lN w) σ = some ((fnd B w).elim (- nI 1) nI, σ) := by
  have e8 : σ.2.1 r 8 = nI (B 8 8) := mq_s hQ (by decide)
  have r17 : σ.2.2.2 r 17 = some (r + 9) := mq_r hQ (i := 8) (by decide)
  unfold m_X12_find fnd
  rw [jlp_e (B 8 8) (fun k => nI k) (fun k => decide (B 9 k = w)) (fun k => Sum.inr (nI k)) (Sum.inl ()) (jfu (by omega)) ?_ ?_ ?_]
  · rcases (List.range (B 8 8)).find? (fun k => decide (B 9 k = w)) with _ | k <;> rfl
  · rfl
  · intro k hk
    have hl := mq_l hQ (j := k) (by omega)
    have h9' := h9 k
    rw [mq_o hQ, e8, jif_f (by rw [nI_leI (by omega) (by omega)]; omega), r17, mq_jl hQ (by omega), hl]
    by_cases h : B 9 k = w
    · rw [jif_f (by rw [lg_eq (by omega) (by omega)]; exact fun c => c h), decide_eq_true h]
      rfl
    · rw [jif_t (by rw [lg_eq (by omega) (by omega)]; exact h), decide_eq_false h, lx1, nI_add]
      rfl
  · rw [mq_o hQ, e8, jif_t (nI_le (Nat.le_refl _) (by omega))]
theorem ov_readFresh (hW : Wd σ) (h : σ.2.1 118 9 = nI 5) (hQ : MQr B r σ) (hm : B 8 8 ≤ 11) : m_X13_readFresh 118 σ = some (σ.2.2.1 118 14, σ) := by
  obtain ⟨v, e, hv⟩ := y_find_any hQ hm (σ.2.2.1 118 14)
  unfold m_X13_readFresh
  rw [ov_isName h, jb_some, jif_f (by decide), ov_flaw h, jb_some, jb_some, jo_118 hW, hQ.1, mq_o hQ, e, jb_some]
  have e2 : (jd_if (v = (-1)) (some ((), σ)) (jd_b (m_X13_flaw 118 3 σ) fun _ σ10 => some ((), σ10))) = some ((), σ) := by
    by_cases h1 : v = (-1)
    · rw [jif_t h1]
    · rw [jif_f h1, ov_flaw h, jb_some]
  rw [e2, jb_some, jo_118 hW, jli, ov_goesOn h, jb_some]
theorem ov_knownOne {x : Int32} (hW : Wd σ) (h : σ.2.1 118 9 = nI 5) (hQ : MQr B r σ) (hm : B 8 8 ≤ 11) : m_X13_knownOne 118 x σ = some (nI 0, σ) := by
  obtain ⟨v, e, hv⟩ := y_find_any hQ hm (σ.2.2.1 118 14)
  have r18 : σ.2.2.2 r 18 = some (r + 10) := mq_r hQ (i := 9) (by decide)
  unfold m_X13_knownOne
  rw [ov_isName h, jb_some, jif_f (by decide), ov_flaw h, jb_some, jb_some, jo_118 hW, hQ.1, mq_o hQ, e, jb_some]
  have e2 : (jd_if (v = (-1)) (jd_b (m_X13_flaw 118 2 σ) fun _ σ13 => some ((), σ13)) (
jd_o σ (12, 20) (some r) fun a14 =>
jd_ia σ 20 (σ.2.2.2 a14 18) v fun a15 j15 =>
jd_if ((σ.2.1 a15 j15) = x) (
some ((), σ)) (
jd_b (m_X13_flaw 118 2 σ) fun _ σ16 =>
some ((), σ16)))) = some ((), σ) := by
    rcases hv with rfl | ⟨k, hk, rfl⟩
    · rw [jif_t (show - nI 1 = (-1 : Int32) from rfl), ov_flaw h, jb_some]
    · rw [jif_f (by show ¬ nI k = - nI 1; rw [nI_m1 (by omega)]; exact id), mq_o hQ, r18, mq_jn hQ (i := 0) (by decide) (by omega)]
      by_cases h1 : σ.2.1 (r + (0 + 10)) k = x
      · rw [jif_t h1]
      · rw [jif_f h1, ov_flaw h, jb_some]
  rw [hQ.1, e2, jb_some, jo_118 hW, h, jif_f (by simp only [Classical.not_not]; rfl)]
  rfl
/-! in good order -/
theorem y_flaw (hK : MK tp n i σ) {f : Nat} : m_X13_flaw 118 (nI f) σ = some ((), jd_pi (jd_pi (jd_pi σ 118 12 (nI f)) 118 13 (nI (tS tp n i))) 118 9 (nI 5)) := by
  have k4 := tK_le (tp := tp) (n := n) (i := i)
  obtain ⟨m1, -⟩ := mK_le _ k4
  unfold m_X13_flaw
  rw [hK.1, jif_t (by rw [lx5, nI_eq (by omega) (by omega)]; omega), jli, jli, pi_ne _ _ (by omega), hK.2.1, jli]
  rfl
theorem fl_OV {f s : Nat} : OV (f, s) (jd_pi (jd_pi (jd_pi σ 118 12 (nI f)) 118 13 (nI s)) 118 9 (nI 5)) := ⟨pi_eq _ _ _ _, by
  rw [pi_ne _ _ (by omega), pi_ne _ _ (by omega), pi_eq], by
  rw [pi_ne _ _ (by omega), pi_eq]⟩
theorem fl_fr {f s : Nat} : Fr DY LY σ (jd_pi (jd_pi (jd_pi σ 118 12 (nI f)) 118 13 (nI s)) 118 9 (nI 5)) := Fr_pi (Fr_pi (Fr_pi (Fr_refl σ) (by unfold DY; omega)) (by unfold DY; omega)) (by unfold DY; omega)
theorem MK_9 (hK : MK tp n i σ) : ¬ σ.2.1 118 9 = nI 5 := by
  have k4 := tK_le (tp := tp) (n := n) (i := i)
  obtain ⟨m1, -⟩ := mK_le _ k4
  rw [hK.1, nI_eq (by omega) (by omega)]
  omega
def RZ {α β : Type} (x : Fl ⊕ α) (c : Option (β × jd_Hp)) (σ : jd_Hp) (Q : α → β → jd_Hp → Prop) : Prop := match x with
  | .inl f => ∃ v σ', c = some (v, σ') ∧ Fr DY LY σ σ' ∧ OV f σ'
  | .inr a => ∃ v σ', c = some (v, σ') ∧ Fr DY LY σ σ' ∧ σ'.2.1 118 12 = σ.2.1 118 12 ∧ Q a v σ'
theorem DGY {a k : Nat} (h : DGo a k) : DY a k := ⟨h.1, h.2.1, by have := h.2.2; omega⟩
/-- the next TOKEN -/
theorem y_go (hB : MB tp n σ) (hK : MK tp n i σ) (hi : i ≤ n) : ∃ σ', m_X13_goesOn 118 σ = some ((), σ') ∧ MK tp n (tE tp n i) σ' ∧ Fr DY LY σ σ' ∧ σ'.2.1 118 12 = σ.2.1 118 12 ∧ MB tp n σ' := by
  obtain ⟨σ', e, h1, h2⟩ := y_goesOn hB (MK_9 hK) hK.2.2.1 (tE_le (tp := tp) hi).2
  exact ⟨σ', e, h1, Fr_mono h2 (fun a k h => DGY h) fun _ h => h, h2.2.2.1 118 12 (by unfold DGo; omega), MB_fr hB h2 (fun k => by unfold DGo; omega) (by unfold DGo; omega)⟩
set_option maxHeartbeats 1000000 in
theorem y_readPart (hB : MB tp n σ) (hK : MK tp n i σ) (hi : i ≤ n) {w lo hh : Nat} (hw : w < 18) (hl : lo < 1000) (hh' : hh < 1000) : RZ (e_lab tp n w lo hh i) (m_X13_readPart 118 (some w) (nI lo) (nI hh) σ) σ (fun x v σ' => v = nI x.1 ∧ MK tp n x.2 σ') := by
  have e1 := y_isWord hi hK hw
  have hj := (tE_le (tp := tp) hi).2
  unfold m_X13_readPart e_lab
  rcases h1 : isWd tp n i w with _ | _
  · rw [h1] at e1
    have e2 : m_X13_needs 118 (some w) σ = some ((), jd_pi (jd_pi (jd_pi σ 118 12 (nI 1)) 118 13 (nI (tS tp n i))) 118 9 (nI 5)) := by
      unfold m_X13_needs
      have ef := y_flaw hK (f := 1)
      have o5 := (fl_OV (σ := σ) (f := 1) (s := tS tp n i)).1
      rw [e1, jb_some, jif_f (by decide), show (1 : Int32) = nI 1 from rfl, ef, jb_some, ov_goesOn o5, jb_some]
    have o5 := fl_OV (σ := σ) (f := 1) (s := tS tp n i)
    have F5 := fl_fr (σ := σ) (f := 1) (s := tS tp n i)
    rw [e2, jb_some, if_f rfl]
    generalize jd_pi (jd_pi (jd_pi σ 118 12 (nI 1)) 118 13 (nI (tS tp n i))) 118 9 (nI 5) = τ at *
    rw [o5.1, jif_f (by decide), ov_flaw o5.1, jb_some, jb_some, jo_118 (Fr_Wd F5 hB.1), o5.1, jif_f (by simp only [Classical.not_not]; rfl), ov_goesOn o5.1, jb_some]
    exact ⟨_, τ, rfl, F5, o5⟩
  · rw [h1] at e1
    obtain ⟨σ1, a1, hK1, F1, c1, hB1⟩ := y_go hB hK hi
    have e2 : m_X13_needs 118 (some w) σ = some ((), σ1) := by
      unfold m_X13_needs
      rw [e1, jb_some, jif_t (by decide), a1, jb_some]
    have k4 := tK_le (tp := tp) (n := n) (i := tE tp n i)
    obtain ⟨m1, m2, m3, -⟩ := mK_le _ k4
    have ff : ∀ f, RZ (.inl (f, tS tp n (tE tp n i))) (jd_o (jd_pi (jd_pi (jd_pi σ1 118 12 (nI f)) 118 13 (nI (tS tp n (tE tp n i)))) 118 9 (nI 5)) (13, 29) (some 118) fun a9 => jd_if (¬ ((jd_pi (jd_pi (jd_pi σ1 118 12 (nI f)) 118 13 (nI (tS tp n (tE tp n i)))) 118 9 (nI 5)).2.1 a9 9) = 5) (
jd_li ((jd_pi (jd_pi (jd_pi σ1 118 12 (nI f)) 118 13 (nI (tS tp n (tE tp n i)))) 118 9 (nI 5)).2.1 a9 11) fun x10 =>
jd_b (m_X13_goesOn a9 (jd_pi (jd_pi (jd_pi σ1 118 12 (nI f)) 118 13 (nI (tS tp n (tE tp n i)))) 118 9 (nI 5))) fun r11 σ11 =>
some (x10, σ11)) (
jd_b (m_X13_goesOn a9 (jd_pi (jd_pi (jd_pi σ1 118 12 (nI f)) 118 13 (nI (tS tp n (tE tp n i)))) 118 9 (nI 5))) fun r12 σ12 =>
some (nI lo, σ12))) σ (fun (x : Nat × Nat) v σ' => v = nI x.1 ∧ MK tp n x.2 σ') := fun f => by
      have o5 := fl_OV (σ := σ1) (f := f) (s := tS tp n (tE tp n i))
      have F5 := Fr_tr F1 (fl_fr (σ := σ1) (f := f) (s := tS tp n (tE tp n i)))
      generalize jd_pi (jd_pi (jd_pi σ1 118 12 (nI f)) 118 13 (nI (tS tp n (tE tp n i)))) 118 9 (nI 5) = τ at *
      rw [jo_118 (Fr_Wd F5 hB.1), o5.1, jif_f (by simp only [Classical.not_not]; rfl), ov_goesOn o5.1, jb_some]
      exact ⟨_, τ, rfl, F5, o5⟩
    rw [e2, jb_some, if_t rfl, hK1.1]
    by_cases h2 : tK tp n (tE tp n i) = 2
    · obtain ⟨hk, -⟩ := tok_V hj h2
      have hv : tV tp n (tE tp n i) < 1000 := nv_lt hk
      rw [jif_t (by rw [lx3, nI_eq (by omega) (by omega)]; exact m3.mpr h2), hK1.2.2.2.2 h2, y_in _ _ _ (by omega) (by omega), jb_some, if_pos h2]
      by_cases h3 : lo ≤ tV tp n (tE tp n i) ∧ tV tp n (tE tp n i) ≤ hh
      · have e3 : rgN (nI (tV tp n (tE tp n i))) lo hh = some (tV tp n (tE tp n i)) := by
          unfold rgN
          rw [if_neg (by rw [nI_ltI (by omega) (by omega), nI_ltI (by omega) (by omega)]; omega), nI_clamp (by omega)]
        rw [e3, if_pos h3]
        obtain ⟨σ2, a2, hK2, F2, c2, hB2⟩ := y_go hB1 hK1 hj
        rw [show (Option.isSome (some (tV tp n (tE tp n i)))) = true from rfl, if_t rfl, jif_t (by decide), jb_some, jo_118 hB1.1, hK1.1, jif_t (by rw [lx5, nI_eq (by omega) (by omega)]; omega), jli, hK1.2.2.2.2 h2, a2, jb_some]
        exact ⟨_, σ2, rfl, Fr_tr F1 F2, c2.trans c1, rfl, hK2⟩
      · have e3 : rgN (nI (tV tp n (tE tp n i))) lo hh = none := by
          unfold rgN
          rw [if_pos (by rw [nI_ltI (by omega) (by omega), nI_ltI (by omega) (by omega)]; omega)]
        rw [e3, if_neg h3, show (Option.isSome (none : Option Nat)) = false from rfl, if_f rfl, jif_f (by decide), show (4 : Int32) = nI 4 from rfl, y_flaw hK1, jb_some, jb_some]
        exact ff 4
    · rw [jif_f (by rw [lx3, nI_eq (by omega) (by omega)]; exact fun h => h2 (m3.mp h)), if_neg h2, show (1 : Int32) = nI 1 from rfl, y_flaw hK1, jb_some, jb_some]
      exact ff 1
theorem y_isName (hi : i ≤ n) (hK : MK tp n i σ) : m_X13_isName 118 σ = some (if isNm tp n i then nI 1 else nI 0, σ) := by
  have k4 := tK_le (tp := tp) (n := n) (i := i)
  obtain ⟨m1, m2, -⟩ := mK_le _ k4
  have e := fun (w : Nat) hw => y_isWord hi hK (w := w) hw
  unfold m_X13_isName isNm isLW
  rw [hK.1]
  by_cases h1 : tK tp n i = 1
  · rw [jif_f (by rw [lx2, nI_eq (by omega) (by omega), m2]; exact fun h => h h1), decide_eq_true h1, Bool.true_and]
    simp only [jb_some, e 0 (by decide), e 1 (by decide), e 2 (by decide), e 3 (by decide), e 4 (by decide), e 5 (by decide), e 6 (by decide)]
    rcases isWd tp n i 0 with _ | _
    · rcases isWd tp n i 1 with _ | _
      · rcases isWd tp n i 2 with _ | _
        · rcases isWd tp n i 3 with _ | _
          · rcases isWd tp n i 4 with _ | _
            · rcases isWd tp n i 5 with _ | _
              · rcases isWd tp n i 6 with _ | _ <;> rfl
              · rfl
            · rfl
          · rfl
        · rfl
      · rfl
    · rfl
  · rw [jif_t (by rw [lx2, nI_eq (by omega) (by omega), m2]; exact h1), decide_eq_false h1, Bool.false_and]
    rfl
end
