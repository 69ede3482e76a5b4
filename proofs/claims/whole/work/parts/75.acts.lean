/-! P (25): the whole state, what each side holds of it -/
abbrev Zt : Type := BO × (Nat × (Nat → Nw)) × (Nat × (Nat → Nw)) × (Nat × (Nat → Nat)) × Nat × Int32 × Nat
def nB (o : BO) : Nat := o.elim 0 fun x => x.1 8 3
def bI (u : Nat) : Int32 := (nI u).toInt8.toInt32
def TX (tl : Nat) (tp : Nat → Nat) (σ : jd_Hp) : Prop := σ.2.1 33 1 = nI tl ∧ ∀ k, k < tl → σ.2.1 34 k = bI (tp k)
def TM (tl : Nat) (tp : Nat → Nat) (σ : jd_Hp) : Prop := σ.2.1 118 6 = nI tl ∧ ∀ k, k < tl → σ.2.1 119 k = bI (tp k)
def ScM (n : Nat) (N : Nw) (a o : Nat) (σ : jd_Hp) : Prop := (∀ p, p < n → σ.2.1 a (o + p) = nI (N p)) ∧ σ.2.1 a (o + 6) = nI (N 6) ∧ σ.2.1 a (o + 7) = nI (N 7) ∧ σ.2.1 a (o + 8) = nI (N 8)
def PM (n na : Nat) (H : Nat → Nw) (ni : Nat) (I : Nat → Nw) (σ : jd_Hp) : Prop := σ.2.1 118 19 = nI na ∧ σ.2.1 118 20 = nI ni ∧ (∀ k, k < na → ScM n (H k) 122 (9 * (na - 1 - k)) σ) ∧ ∀ i, i < ni → ScM n (I i) 123 (9 * i) σ
def XR (z : Zt) (σ : jd_Hp) : Prop := match z with
  | (o, (na, H), (ni, I), (tl, tp), fl, wh, tr) => ∃ T, (T = 47 ∨ T = 109) ∧ σ.2.2.2 40 5 = some T ∧ σ.2.2.2 32 9 = some (156 - T) ∧ RXc o T σ ∧ PX (nB o) na H ni I σ ∧ TX tl tp σ ∧ σ.2.1 35 14 = nI fl ∧ σ.2.1 35 15 = wh ∧ σ.2.1 32 11 = nI tr
def MR (z : Zt) (σ : jd_Hp) : Prop := match z with
  | (o, (na, H), (ni, I), (tl, tp), fl, wh, tr) => ∃ b, RMc o b σ ∧ PM (nB o) na H ni I σ ∧ TM tl tp σ ∧ σ.2.1 118 12 = nI fl ∧ σ.2.1 118 1 = nI tr ∧ σ.2.1 118 2 = if tr = 4 then wh else - nI 1
def HZ (z : Zt) : Prop := match z with
  | (o, (na, H), (ni, I), (tl, tp), _, _, _) => na ≤ 16 ∧ ni ≤ 3 ∧ tl ≤ 900 ∧ (∀ k, tp k < 256) ∧ o.elim (na = 0 ∧ ni = 0) fun x => (∀ k, k < na → nOk x.1 (H k)) ∧ ∀ i, i < ni → nOk x.1 (I i)
def Gr (σ σ' : jd_Hp) : Prop := ∃ t, σ'.1 = σ.1 ++ t ∧ t.length ≤ 12 ∧ (t.map Prod.snd).sum ≤ 128
def GX (σ σ' : jd_Hp) : Prop := Gr σ σ' ∧ ∀ a k, 118 ≤ a → ¬ a = 130 → a < σ.1.length → σ'.2.1 a k = σ.2.1 a k ∧ σ'.2.2.1 a k = σ.2.2.1 a k ∧ σ'.2.2.2 a k = σ.2.2.2 a k
def GM (σ σ' : jd_Hp) : Prop := Gr σ σ' ∧ ∀ a k, a < 118 → σ'.2.1 a k = σ.2.1 a k ∧ σ'.2.2.1 a k = σ.2.2.1 a k ∧ σ'.2.2.2 a k = σ.2.2.2 a k
def ZR {α : Type} (c : Option (α × jd_Hp)) (r : α × Zt) (σ : jd_Hp) : Prop := ∃ σ', c = some (r.1, σ') ∧ XR r.2 σ' ∧ GX σ σ'
def ZS {α : Type} (c : Option (α × jd_Hp)) (r : α × Zt) (σ : jd_Hp) : Prop := ∃ σ', c = some (r.1, σ') ∧ MR r.2 σ' ∧ GM σ σ'
theorem Gr_same {σ σ' : jd_Hp} (h : σ'.1 = σ.1) : Gr σ σ' := ⟨[], by rw [h, List.append_nil], by decide, by decide⟩
theorem GX_fr {σ σ' : jd_Hp} {D : Nat → Nat → Prop} {L : Nat → Prop} (f : Fr D L σ σ') (h : ∀ a k, D a k → a < 118) (h' : ∀ a, L a → a < 118) : GX σ σ' := ⟨Gr_same f.1, fun a k ha _ _ => ⟨f.2.2.1 a k fun c => by have := h a k c; omega, f.2.2.2 a k fun c => by have := h' a c; omega, by rw [f.2.1]⟩⟩
theorem GM_fr {σ σ' : jd_Hp} {D : Nat → Nat → Prop} {L : Nat → Prop} (f : Fr D L σ σ') (h : ∀ a k, D a k → 118 ≤ a) (h' : ∀ a, L a → 118 ≤ a) : GM σ σ' := ⟨Gr_same f.1, fun a k ha => ⟨f.2.2.1 a k fun c => by have := h a k c; omega, f.2.2.2 a k fun c => by have := h' a c; omega, by rw [f.2.1]⟩⟩
def sTr (z : Zt) (t : Nat) : Zt := (z.1, z.2.1, z.2.2.1, z.2.2.2.1, z.2.2.2.2.1, z.2.2.2.2.2.1, t)
def actZ (z : Zt) (B : Bch) (N N' : Nw) : Zt := (some (B, N'), (min (z.2.1.1 + 1) 16, hc N z.2.1.2), z.2.2.1, z.2.2.2.1, z.2.2.2.2.1, z.2.2.2.2.2.1, 0)
def uN (N : Nw) (k v : Nat) : Nw := fun j => if j = k then v else N j
def z_man (z : Zt) (q : Int32) : Int32 × Zt := match z.1 with
  | none => (nI 0, sTr z 1)
  | some (B, N) => match ixN q (B 8 4) with
    | none => (nI 0, sTr z 1)
    | some j => if (N 6).testBit j then (nI 0, sTr z 5) else (nI 1, actZ z B N (uN N 6 (N 6 ||| 2 ^ j)))
def z_leave (z : Zt) (q : Int32) : Int32 × Zt := match z.1 with
  | none => (nI 0, sTr z 1)
  | some (B, N) => match ixN q (B 8 4) with
    | none => (nI 0, sTr z 1)
    | some j => if (N 6).testBit j then (nI 1, actZ z B N (uN N 6 (N 6 - 2 ^ j))) else (nI 0, sTr z 5)
def z_seat (z : Zt) (p pl : Int32) : Int32 × Zt := match z.1 with
  | none => (- nI 1, sTr z 1)
  | some (B, N) => match ixN p (B 8 3) with
    | none => (- nI 1, sTr z 1)
    | some j => match rgN pl 0 99 with
      | none => (- nI 1, sTr z 2)
      | some k => if N j = k then (- nI 1, sTr z 5) else (cs (sink B (uN N j k) j), actZ z B N (uN N j k))
def z_minute (z : Zt) (n : Int32) : Int32 × Zt := match z.1 with
  | none => (- nI 1, sTr z 1)
  | some (B, N) => match rgN n 1 60 with
    | none => (- nI 1, sTr z 2)
    | some k => if N 8 + k ≤ 999 then (nI (bN (underC B (uN N 8 (N 8 + k)) (N 8 + k)) (B 8 3)), actZ z B N (uN N 8 (N 8 + k))) else (- nI 1, sTr z 3)
def z_lift (z : Zt) (p : Int32) : Int32 × Zt := match z.1 with
  | none => (- nI 1, sTr z 1)
  | some (B, N) => match ixN p (B 8 3) with
    | none => (- nI 1, sTr z 1)
    | some j => if underC B N (N 8) j then (match nrO B N j with
      | none => (- nI 1, sTr z 6)
      | some x => if x.2 ≤ B 8 0 then (nI x.1, actZ z B N (uN N 7 (N 7 ||| 2 ^ j))) else (- nI 1, sTr z 6)) else (- nI 1, sTr z 5)
def z_undo (z : Zt) : Int32 × Zt := match z.1 with
  | none => (nI 0, sTr z 6)
  | some (B, _) => if z.2.1.1 = 0 then (nI 0, sTr z 6) else (nI 1, (some (B, z.2.1.2 0), (z.2.1.1 - 1, fun k => z.2.1.2 (k + 1)), z.2.2.1, z.2.2.2.1, z.2.2.2.2.1, z.2.2.2.2.2.1, 0))
def z_image (z : Zt) : Int32 × Zt := match z.1 with
  | none => (- nI 1, sTr z 1)
  | some (B, N) => if z.2.2.1.1 < 3 then (nI z.2.2.1.1, (some (B, N), z.2.1, (z.2.2.1.1 + 1, imA z.2.2.1.2 z.2.2.1.1 N), z.2.2.2.1, z.2.2.2.2.1, z.2.2.2.2.2.1, 0)) else (- nI 1, sTr z 3)
def z_back (z : Zt) (i : Int32) : Int32 × Zt := match z.1 with
  | none => (nI 0, sTr z 1)
  | some (B, _) => match ixN i z.2.2.1.1 with
    | none => (nI 0, sTr z 1)
    | some j => (nI 1, (some (B, z.2.2.1.2 j), (0, z.2.1.2), z.2.2.1, z.2.2.2.1, z.2.2.2.2.1, z.2.2.2.2.2.1, 0))
/-! the class's acts -/
theorem ixN_0 (i : Int32) : ixN i 0 = none := if_neg fun h => absurd h.2 (Nat.not_lt_zero _)
theorem n_11 : nI 1 &&& nI 1 = nI 1 := rfl
theorem n_01 : nI 0 &&& nI 1 = nI 0 := rfl
def DAc (a k : Nat) : Prop := DK a k ∨ DS a k ∨ a = 32 ∧ k = 11
section
variable {B : Bch} {N N' : Nw} {σ σ1 : jd_Hp} {na ni na' ni' tl fl tr : Nat} {H I H' I' : Nat → Nw} {tp : Nat → Nat} {wh : Int32} {o : BO} {T : Nat}
theorem SG_fr {D : Nat → Nat → Prop} {L : Nat → Prop} (h : SG B σ) (f : Fr D L σ σ1) (h1 : ∀ k, ¬ D 104 k) (h2 : ¬ L 104) (h3 : ¬ L 105) : SG B σ1 := ⟨fun p hp => (f.2.2.2 105 p h3).trans (h.1 p hp), (f.2.2.1 104 1 (h1 1)).trans h.2.1, (f.2.2.2 104 2 h2).trans h.2.2⟩
set_option maxHeartbeats 1000000 in
theorem XR_act (h : XR (some (B, N), (na, H), (ni, I), (tl, tp), fl, wh, tr) σ) (f : Fr DK L0 σ σ1) (hN : ScX (B 8 3) N' 41 σ1) (hn : nOk B N') (hP : PX (B 8 3) na' H' ni' I' σ1) (ha : na' ≤ 16) (hi : ni' ≤ 3) : ∃ σ', m_X11_acted 32 σ1 = some (nI 1, σ') ∧ XR (some (B, N'), (na', H'), (ni', I'), (tl, tp), fl, wh, 0) σ' ∧ GX σ σ' := by
  obtain ⟨T, hT, hS, hD, ⟨hW, h10, hX, hb, hn0, hG⟩, hP0, hTX, f1, f2, f3⟩ := h
  have hW1 := Fr_Wd f hW
  have hA : CA B N' T σ1 := ⟨hW1, hT, by rw [f.2.1]; exact hS, CT_of hX.1.2.2.2.1 fun a k h1 h2 => f.2.2.1 a k (by unfold DK; omega), hN⟩
  obtain ⟨σ2, e2, F2, hD2⟩ := x_settle hA hb hn
  have hA2 := CA_fr hA F2
  have F : Fr DAc L0 σ (jd_pi σ2 32 11 (nI 0)) := Fr_pi (Fr_tr (Fr_mono f (fun a k h => Or.inl h) fun _ h => h) (Fr_mono F2 (fun a k h => Or.inr (Or.inl h)) fun _ h => h)) (Or.inr (Or.inr ⟨rfl, rfl⟩))
  have F3 : Fr (fun a k => a = 32 ∧ k = 11) L0 σ2 (jd_pi σ2 32 11 (nI 0)) := Fr_pi (Fr_refl _) ⟨rfl, rfl⟩
  have g : ∀ a k, ¬ DAc a k → (jd_pi σ2 32 11 (nI 0)).2.1 a k = σ.2.1 a k := F.2.2.1
  refine ⟨jd_pi σ2 32 11 (nI 0), ?_, ⟨T, hT, ?_, ?_, ⟨Fr_Wd F hW, ?_, ⟨⟨Fr_Wd F hW, hT, hA2.2.2.1, CT_of hA2.2.2.2.1 fun a k h1 h2 => F3.2.2.1 a k (by omega), CN_of hA2.2.2.2.2 fun a k h1 => F3.2.2.1 a k (by omega)⟩, fun p hp => (F3.2.2.1 _ _ (by omega)).trans (hD2.1 p hp), fun p hp => (F3.2.2.1 _ _ (by omega)).trans (hD2.2.1 p hp), fun p hp => (F3.2.2.1 _ _ (by omega)).trans (hD2.2.2.1 p hp), (F3.2.2.1 _ _ (by omega)).trans hD2.2.2.2.1, (F3.2.2.1 _ _ (by omega)).trans hD2.2.2.2.2⟩, hb, hn, SG_fr hG F (fun k => by unfold DAc DK DS; omega) (by unfold L0; exact id) (by unfold L0; exact id)⟩, PX_fr (PX_fr hP F2 (fun a k h => by unfold DP at h; unfold DS; omega) ha hi) F3 (fun a k h => by unfold DP at h; omega) ha hi, ⟨(g _ _ (by unfold DAc DK DS; omega)).trans hTX.1, fun k hk => (g _ _ (by unfold DAc DK DS; omega)).trans (hTX.2 k hk)⟩, (g _ _ (by unfold DAc DK DS; omega)).trans f1, (g _ _ (by unfold DAc DK DS; omega)).trans f2, pi_eq _ _ _ _⟩, GX_fr F (fun a k h => by unfold DAc DK DS at h; omega) fun a h => absurd h id⟩
  · unfold m_X11_acted
    rw [wr_32_2 hW1, jo_40 hW1, e2, jb_some, jli]
    rfl
  · rw [F.2.1]
    exact hS
  · rw [F.2.1]
    exact hD
  · exact (g _ _ (by unfold DAc DK DS; omega)).trans h10
theorem XR_fr {z : Zt} (h : XR z σ) (hz : HZ z) {D : Nat → Nat → Prop} {L : Nat → Prop} {t : Nat} (f : Fr D L σ σ1) (hd : ∀ a k, D a k → DQ a k) (hl : ∀ a, L a → LQ a) (ht : σ1.2.1 32 11 = nI t) : XR (sTr z t) σ1 ∧ GX σ σ1 := by
  obtain ⟨o, ⟨na, H⟩, ⟨ni, I⟩, ⟨tl, tp⟩, fl, wh, tr⟩ := z
  obtain ⟨T, hT, hS, hD, hR, hP, hTX, f1, f2, f3⟩ := h
  obtain ⟨z1, z2, z3, z4, z5⟩ := hz
  have F : Fr DQ LQ σ σ1 := Fr_mono f hd hl
  have g : ∀ a k, ¬ DQ a k → σ1.2.1 a k = σ.2.1 a k := F.2.2.1
  refine ⟨⟨T, hT, by rw [F.2.1]; exact hS, by rw [F.2.1]; exact hD, RXc_fr hR F, PX_fr hP F (fun a k h => by unfold DP at h; unfold DQ; omega) z1 z2, ⟨(g _ _ (by unfold DQ; omega)).trans hTX.1, fun k hk => (g _ _ (by unfold DQ; omega)).trans (hTX.2 k hk)⟩, (g _ _ (by unfold DQ; omega)).trans f1, (g _ _ (by unfold DQ; omega)).trans f2, ht⟩, GX_fr F (fun a k h => by unfold DQ at h; omega) fun a h => by unfold LQ at h; omega⟩
theorem ZR_q {α : Type} {z : Zt} {c : Option (α × jd_Hp)} {r : α × Nat} (h : XR z σ) (hz : HZ z) (q : OX c r σ) : ZR c (r.1, sTr z r.2) σ := by
  obtain ⟨σ', e, f, ht⟩ := q
  obtain ⟨h1, h2⟩ := XR_fr h hz f (fun _ _ h => h) (fun _ h => h) ht
  exact ⟨σ', e, h1, h2⟩
theorem ZR_tr {α : Type} {z : Zt} (h : XR z σ) (hz : HZ z) (v : α) (t : Nat) : ZR (some (v, jd_pi σ 32 11 (nI t))) (v, sTr z t) σ := ZR_q h hz (r := (v, t)) (OX_of (Fr_refl _))
theorem fin_man : ∀ x, x < 32 → ∀ j, j < 5 → x.testBit j = false → nI x ||| (nI 1 <<< (nI j &&& 31)) = nI (x ||| 2 ^ j) ∧ nI x ^^^ (nI 1 <<< (nI j &&& 31)) = nI (x ||| 2 ^ j) := by decide +kernel
theorem fin_leave : ∀ x, x < 32 → ∀ j, j < 5 → x.testBit j = true → nI x &&& ((nI 1 <<< (nI j &&& 31)) ^^^ (- nI 1)) = nI (x - 2 ^ j) ∧ nI x ^^^ (nI 1 <<< (nI j &&& 31)) = nI (x - 2 ^ j) := by decide +kernel
theorem fin_lift : ∀ x, x < 64 → ∀ j, j < 6 → nI x ||| (nI 1 <<< (nI j &&& 31)) = nI (x ||| 2 ^ j) := by decide +kernel
theorem or_pow {x j n : Nat} (hx : x < 2 ^ n) (hj : j < n) : x ||| 2 ^ j < 2 ^ n := Nat.or_lt_two_pow hx (Nat.pow_lt_pow_right (by decide) hj)
theorem uN_6 (N : Nw) (v : Nat) : uN N 6 v 6 = v := rfl
theorem uN_7 (N : Nw) (v : Nat) : uN N 7 v 7 = v := rfl
theorem uN_8 (N : Nw) (v : Nat) : uN N 8 v 8 = v := rfl
theorem uN_e (N : Nw) (k v : Nat) : uN N k v k = v := if_pos rfl
theorem uN_n (N : Nw) {k j : Nat} (v : Nat) (h : ¬ j = k) : uN N k v j = N j := if_neg h
theorem nOk_6 (hn : nOk B N) {v : Nat} (hv : v < 2 ^ B 8 4) : nOk B (uN N 6 v) := ⟨fun p hp => by rw [uN_n _ _ (by omega)]; exact hn.1 p hp, hv, hn.2.2.1, hn.2.2.2⟩
theorem nOk_7 (hn : nOk B N) {v : Nat} (hv : v < 2 ^ B 8 3) : nOk B (uN N 7 v) := ⟨fun p hp => by rw [uN_n _ _ (by omega)]; exact hn.1 p hp, hn.2.1, hv, hn.2.2.2⟩
theorem nOk_8 (hn : nOk B N) {v : Nat} (hv : v ≤ 999) : nOk B (uN N 8 v) := ⟨fun p hp => by rw [uN_n _ _ (by omega)]; exact hn.1 p hp, hn.2.1, hn.2.2.1, hv⟩
theorem nOk_p (hn : nOk B N) {j v : Nat} (hj : j < 6) (hv : v ≤ 99) : nOk B (uN N j v) := ⟨fun p hp => by
  by_cases h : p = j
  · rw [h, uN_e]
    exact hv
  · rw [uN_n _ _ h]
    exact hn.1 p hp, by rw [uN_n _ _ (by omega)]; exact hn.2.1, by rw [uN_n _ _ (by omega)]; exact hn.2.2.1, by rw [uN_n _ _ (by omega)]; exact hn.2.2.2⟩
theorem x_reaches (h : CX B N T σ) (hb : bOk B) {q p : Nat} (hq : q < B 8 4) (hp : p < B 8 3) : m_X6_reaches 40 (nI q) (nI p) σ = some (if time B N q p ≤ B 8 0 then nI 1 else nI 0, σ) := by
  have e1 := reach_64 hb N q
  have e2 := reach_test hb (N := N) (q := q) hp
  obtain ⟨⟨hW, hT, hS, hC, hN⟩, hD⟩ := h
  obtain ⟨b1, b2, b3, b4, b5, b6, b7, b8, b9, b10, bp⟩ := hb
  unfold m_X6_reaches
  simp (disch := omega) only [jb_some, jli, jif, jd_q, jd_K0, jpi_s, jpi_l, jpi_p, jpl_s, jpl_i, jpl_p, if_true, if_false, if_pos, if_neg, not_true_eq_false, not_false_eq_true, ite_true, ite_false, Nat.not_lt_zero, eq_self, Nat.le_refl, Nat.lt_irrefl, Bool.false_eq_true, or0, jo_pi, jo_pl, jia_pi, jia_pl, jo_cpy, jia_cpy, cpy_r, m_X11_grant, m_X11_refuse, m_X13_good, m_X13_refused, reduceCtorEq, nI_add, nI_leI, nI_ltI, nI_eq, pk_mul, abs_nI, max_nI, min_nI, nI_m1, nI_m2, nI_le1, m1_lt, m2_lt, and_nI, or_nI, an_nI, has_nI, bit_nI, bc_nI, bits_nI, lx0, lx1, lx2, lx3, lx4, lx5, lx6, lx7, lx8, lx9, lx10, lx11, lx16, lx20, lx40, lx60, lx90, lx99, lx100, lx200, lx900, lx999, lx9999, jo_32 hW, jo_33 hW, jo_35 hW, jo_40 hW, jo_41 hW, jo_56 hW, jo_97 hW, jo_100 hW, jo_104 hW, jo_106 hW, jo_108 hW, ja_34 hW, ja_36 hW, ja_37 hW, ja_38 hW, ja_39 hW, ja_42 hW, ja_43 hW, ja_44 hW, ja_45 hW, ja_46 hW, ja_98 hW, ja_99 hW, ja_101 hW, ja_102 hW, ja_103 hW, wr_32_0 hW, wr_32_1 hW, wr_32_2 hW, wr_32_3 hW, wr_32_4 hW, wr_32_5 hW, wr_32_6 hW, wr_32_7 hW, wr_32_8 hW, wr_33_0 hW, wr_35_0 hW, wr_35_1 hW, wr_35_2 hW, wr_35_3 hW, wr_35_4 hW, wr_40_0 hW, wr_40_1 hW, wr_40_2 hW, wr_40_3 hW, wr_40_4 hW, wr_41_0 hW, wr_56_0 hW, wr_56_1 hW, wr_97_0 hW, wr_97_1 hW, wr_100_0 hW, wr_100_1 hW, wr_100_2 hW, wr_104_0 hW, wr_106_0 hW, joT hW hT, jaT1 hW hT, jaT2 hW hT, jaT3 hW hT, jaT4 hW hT, jaT5 hW hT, jaT6 hW hT, jaT7 hW hT, jaT8 hW hT, wrT0 hW hT, wrT1 hW hT, wrT2 hW hT, wrT3 hW hT, wrT4 hW hT, wrT5 hW hT, wrT6 hW hT, wrT7 hW hT, hS, ct_a0 hC, ct_a1 hC, ct_a2 hC, ct_a3 hC, ct_a4 hC, ct_a5 hC, ct_a6 hC, ct_a7 hC, ct_s0 hC, ct_s1 hC, ct_s2 hC, ct_s3 hC, ct_s4 hC, ct_s5 hC, ct_s6 hC, ct_s7 hC, cn_p hN, cn_m hN, cn_l hN, cn_t hN, cd_n hD, cd_s hD, cd_r hD, cd_b hD, cd_c hD, e2]
  unfold reachC
  by_cases h : time B N q p ≤ B 8 0
  · simp only [if_pos h, decide_eq_true h, if_true, n_11]
  · simp only [if_neg h, decide_eq_false h, Bool.false_eq_true, if_false, n_01]
end
set_option maxHeartbeats 2000000 in
theorem ZX_man {z : Zt} {σ : jd_Hp} (h : XR z σ) (hz : HZ z) (q : Int32) : ZR (m_X11_man 32 q σ) (z_man z q) σ := by
  obtain ⟨o, ⟨na, H⟩, ⟨ni, I⟩, ⟨tl, tp⟩, fl, wh, tr⟩ := z
  have h0 := h
  have hz0 := hz
  obtain ⟨T, hT, hS0, hD0, ⟨hW, hR⟩, hP, hTX, f1, f2, f3⟩ := h
  obtain ⟨z1, z2, z3, z4, z5⟩ := hz
  rcases o with _ | ⟨B, N⟩
  · have h10 : σ.2.1 32 10 = nI 0 := hR
    obtain ⟨rfl, rfl⟩ : na = 0 ∧ ni = 0 := z5
    show ZR _ (z_man (none, (0, H), (0, I), (tl, tp), fl, wh, tr) q) σ
    unfold m_X11_man z_man
    simp (disch := omega) only [jb_some, jli, jif, jd_q, jd_K0, jpi_s, jpi_l, jpi_p, jpl_s, jpl_i, jpl_p, if_true, if_false, if_pos, if_neg, not_true_eq_false, not_false_eq_true, ite_true, ite_false, Nat.not_lt_zero, eq_self, Nat.le_refl, Nat.lt_irrefl, Bool.false_eq_true, or0, jo_pi, jo_pl, jia_pi, jia_pl, jo_cpy, jia_cpy, cpy_r, m_X11_grant, m_X11_refuse, m_X13_good, m_X13_refused, reduceCtorEq, nI_add, nI_leI, nI_ltI, nI_eq, pk_mul, abs_nI, max_nI, min_nI, nI_m1, nI_m2, nI_le1, m1_lt, m2_lt, or_nI, an_nI, has_nI, bit_nI, bc_nI, bits_nI, lx0, lx1, lx2, lx3, lx4, lx5, lx6, lx7, lx8, lx9, lx10, lx11, lx16, lx20, lx40, lx60, lx90, lx99, lx100, lx200, lx900, lx999, lx9999, jo_32 hW, jo_33 hW, jo_35 hW, jo_40 hW, jo_41 hW, jo_56 hW, jo_97 hW, jo_100 hW, jo_104 hW, jo_106 hW, jo_108 hW, ja_34 hW, ja_36 hW, ja_37 hW, ja_38 hW, ja_39 hW, ja_42 hW, ja_43 hW, ja_44 hW, ja_45 hW, ja_46 hW, ja_98 hW, ja_99 hW, ja_101 hW, ja_102 hW, ja_103 hW, wr_32_0 hW, wr_32_1 hW, wr_32_2 hW, wr_32_3 hW, wr_32_4 hW, wr_32_5 hW, wr_32_6 hW, wr_32_7 hW, wr_32_8 hW, wr_33_0 hW, wr_35_0 hW, wr_35_1 hW, wr_35_2 hW, wr_35_3 hW, wr_35_4 hW, wr_40_0 hW, wr_40_1 hW, wr_40_2 hW, wr_40_3 hW, wr_40_4 hW, wr_41_0 hW, wr_56_0 hW, wr_56_1 hW, wr_97_0 hW, wr_97_1 hW, wr_100_0 hW, wr_100_1 hW, wr_100_2 hW, wr_104_0 hW, wr_106_0 hW, n_01, n_11, h10, m_X11_isPerson, m_X11_isPost, m_X11_deny]
    exact ZR_tr h0 hz0 _ _
  · obtain ⟨h10, hX, hb, hn, hG⟩ : σ.2.1 32 10 = nI 1 ∧ CX B N T σ ∧ bOk B ∧ nOk B N ∧ SG B σ := hR
    have hb2 := hb.2.1
    have hb3 := hb.2.2.1
    have ePe := x_isPerson hX h10 hb
    have ePo := x_isPost hX h10 hb
    have hN : ScX (B 8 3) N 41 σ := hX.1.2.2.2.2
    have hP : PX (B 8 3) na H ni I σ := hP
    have z5 : (∀ k, k < na → nOk B (H k)) ∧ ∀ i, i < ni → nOk B (I i) := z5
    show ZR _ (z_man (some (B, N), (na, H), (ni, I), (tl, tp), fl, wh, tr) q) σ
    unfold m_X11_man z_man
    rcases hj : ixN q (B 8 4) with _ | j
    · simp (disch := omega) only [jb_some, jli, jif, jd_q, jd_K0, jpi_s, jpi_l, jpi_p, jpl_s, jpl_i, jpl_p, if_true, if_false, if_pos, if_neg, not_true_eq_false, not_false_eq_true, ite_true, ite_false, Nat.not_lt_zero, eq_self, Nat.le_refl, Nat.lt_irrefl, Bool.false_eq_true, or0, jo_pi, jo_pl, jia_pi, jia_pl, jo_cpy, jia_cpy, cpy_r, m_X11_grant, m_X11_refuse, m_X13_good, m_X13_refused, reduceCtorEq, nI_add, nI_leI, nI_ltI, nI_eq, pk_mul, abs_nI, max_nI, min_nI, nI_m1, nI_m2, nI_le1, m1_lt, m2_lt, or_nI, an_nI, has_nI, bit_nI, bc_nI, bits_nI, lx0, lx1, lx2, lx3, lx4, lx5, lx6, lx7, lx8, lx9, lx10, lx11, lx16, lx20, lx40, lx60, lx90, lx99, lx100, lx200, lx900, lx999, lx9999, jo_32 hW, jo_33 hW, jo_35 hW, jo_40 hW, jo_41 hW, jo_56 hW, jo_97 hW, jo_100 hW, jo_104 hW, jo_106 hW, jo_108 hW, ja_34 hW, ja_36 hW, ja_37 hW, ja_38 hW, ja_39 hW, ja_42 hW, ja_43 hW, ja_44 hW, ja_45 hW, ja_46 hW, ja_98 hW, ja_99 hW, ja_101 hW, ja_102 hW, ja_103 hW, wr_32_0 hW, wr_32_1 hW, wr_32_2 hW, wr_32_3 hW, wr_32_4 hW, wr_32_5 hW, wr_32_6 hW, wr_32_7 hW, wr_32_8 hW, wr_33_0 hW, wr_35_0 hW, wr_35_1 hW, wr_35_2 hW, wr_35_3 hW, wr_35_4 hW, wr_40_0 hW, wr_40_1 hW, wr_40_2 hW, wr_40_3 hW, wr_40_4 hW, wr_41_0 hW, wr_56_0 hW, wr_56_1 hW, wr_97_0 hW, wr_97_1 hW, wr_100_0 hW, wr_100_1 hW, wr_100_2 hW, wr_104_0 hW, wr_106_0 hW, n_01, n_11, h10, ePo, hj, Option.isSome, m_X11_deny]
      exact ZR_tr h0 hz0 _ _
    · obtain ⟨h1, rfl⟩ := ixN_some hj
      have e1 := x_isManned hX.1 hb hn (q := j) (by omega)
      by_cases h2 : (N 6).testBit j = true
      · simp (disch := omega) only [jb_some, jli, jif, jd_q, jd_K0, jpi_s, jpi_l, jpi_p, jpl_s, jpl_i, jpl_p, if_true, if_false, if_pos, if_neg, not_true_eq_false, not_false_eq_true, ite_true, ite_false, Nat.not_lt_zero, eq_self, Nat.le_refl, Nat.lt_irrefl, Bool.false_eq_true, or0, jo_pi, jo_pl, jia_pi, jia_pl, jo_cpy, jia_cpy, cpy_r, m_X11_grant, m_X11_refuse, m_X13_good, m_X13_refused, reduceCtorEq, nI_add, nI_leI, nI_ltI, nI_eq, pk_mul, abs_nI, max_nI, min_nI, nI_m1, nI_m2, nI_le1, m1_lt, m2_lt, or_nI, an_nI, has_nI, bit_nI, bc_nI, bits_nI, lx0, lx1, lx2, lx3, lx4, lx5, lx6, lx7, lx8, lx9, lx10, lx11, lx16, lx20, lx40, lx60, lx90, lx99, lx100, lx200, lx900, lx999, lx9999, jo_32 hW, jo_33 hW, jo_35 hW, jo_40 hW, jo_41 hW, jo_56 hW, jo_97 hW, jo_100 hW, jo_104 hW, jo_106 hW, jo_108 hW, ja_34 hW, ja_36 hW, ja_37 hW, ja_38 hW, ja_39 hW, ja_42 hW, ja_43 hW, ja_44 hW, ja_45 hW, ja_46 hW, ja_98 hW, ja_99 hW, ja_101 hW, ja_102 hW, ja_103 hW, wr_32_0 hW, wr_32_1 hW, wr_32_2 hW, wr_32_3 hW, wr_32_4 hW, wr_32_5 hW, wr_32_6 hW, wr_32_7 hW, wr_32_8 hW, wr_33_0 hW, wr_35_0 hW, wr_35_1 hW, wr_35_2 hW, wr_35_3 hW, wr_35_4 hW, wr_40_0 hW, wr_40_1 hW, wr_40_2 hW, wr_40_3 hW, wr_40_4 hW, wr_41_0 hW, wr_56_0 hW, wr_56_1 hW, wr_97_0 hW, wr_97_1 hW, wr_100_0 hW, wr_100_1 hW, wr_100_2 hW, wr_104_0 hW, wr_106_0 hW, n_01, n_11, h10, ePo, hj, Option.isSome, m_X11_deny, e1, h2]
        exact ZR_tr h0 hz0 _ _
      · rw [Bool.not_eq_true] at h2
        obtain ⟨σ6, e6, hP6, F6⟩ := x_keep hW hP hN hb2 z1 z2
        have hW6 := Fr_Wd F6 hW
        have hN6 := ScX_fr hN F6 fun a k ha => by unfold DP; omega
        have m6 : σ6.2.1 41 1 = nI (N 6) := hN6.2.1
        have e7 := (fin_man _ (nOk6 hb hn) j (by omega) h2).1
        have F7 : Fr DK L0 σ (jd_pi σ6 41 1 (nI (N 6 ||| 2 ^ j))) := Fr_pi (Fr_mono F6 (fun a k h => by unfold DP at h; unfold DK; omega) fun _ h => h) (by unfold DK; omega)
        obtain ⟨σ', e8, h8, g8⟩ := XR_act (N' := uN N 6 (N 6 ||| 2 ^ j)) h0 F7 ⟨fun p hp => by
          rw [pi_ne _ _ (by omega), uN_n _ _ (by omega)]
          exact hN6.1 p hp, pi_eq _ _ _ _, (pi_ne _ _ (by omega)).trans hN6.2.2.1, (pi_ne _ _ (by omega)).trans hN6.2.2.2⟩ (nOk_6 hn (or_pow hn.2.1 h1)) (PX_fr hP6 (Fr_pi (D := fun a _ => a = 41) (L := L0) (Fr_refl _) rfl) (fun a k h => by unfold DP at h; omega) (by omega) z2) (by omega) z2
        simp (disch := omega) only [jb_some, jli, jif, jd_q, jd_K0, jpi_s, jpi_l, jpi_p, jpl_s, jpl_i, jpl_p, if_true, if_false, if_pos, if_neg, not_true_eq_false, not_false_eq_true, ite_true, ite_false, Nat.not_lt_zero, eq_self, Nat.le_refl, Nat.lt_irrefl, Bool.false_eq_true, or0, jo_pi, jo_pl, jia_pi, jia_pl, jo_cpy, jia_cpy, cpy_r, m_X11_grant, m_X11_refuse, m_X13_good, m_X13_refused, reduceCtorEq, nI_add, nI_leI, nI_ltI, nI_eq, pk_mul, abs_nI, max_nI, min_nI, nI_m1, nI_m2, nI_le1, m1_lt, m2_lt, or_nI, an_nI, has_nI, bit_nI, bc_nI, bits_nI, lx0, lx1, lx2, lx3, lx4, lx5, lx6, lx7, lx8, lx9, lx10, lx11, lx16, lx20, lx40, lx60, lx90, lx99, lx100, lx200, lx900, lx999, lx9999, jo_32 hW, jo_33 hW, jo_35 hW, jo_40 hW, jo_41 hW, jo_56 hW, jo_97 hW, jo_100 hW, jo_104 hW, jo_106 hW, jo_108 hW, ja_34 hW, ja_36 hW, ja_37 hW, ja_38 hW, ja_39 hW, ja_42 hW, ja_43 hW, ja_44 hW, ja_45 hW, ja_46 hW, ja_98 hW, ja_99 hW, ja_101 hW, ja_102 hW, ja_103 hW, wr_32_0 hW, wr_32_1 hW, wr_32_2 hW, wr_32_3 hW, wr_32_4 hW, wr_32_5 hW, wr_32_6 hW, wr_32_7 hW, wr_32_8 hW, wr_33_0 hW, wr_35_0 hW, wr_35_1 hW, wr_35_2 hW, wr_35_3 hW, wr_35_4 hW, wr_40_0 hW, wr_40_1 hW, wr_40_2 hW, wr_40_3 hW, wr_40_4 hW, wr_41_0 hW, wr_56_0 hW, wr_56_1 hW, wr_97_0 hW, wr_97_1 hW, wr_100_0 hW, wr_100_1 hW, wr_100_2 hW, wr_104_0 hW, wr_106_0 hW, n_01, n_11, h10, ePo, hj, Option.isSome, e1, h2, e6, m6, e7, e8, jo_40 hW6, jo_41 hW6, wr_32_2 hW6, wr_40_0 hW6]
        exact ⟨σ', rfl, h8, g8⟩
set_option maxHeartbeats 2000000 in
theorem ZX_leave {z : Zt} {σ : jd_Hp} (h : XR z σ) (hz : HZ z) (q : Int32) : ZR (m_X11_leave 32 q σ) (z_leave z q) σ := by
  obtain ⟨o, ⟨na, H⟩, ⟨ni, I⟩, ⟨tl, tp⟩, fl, wh, tr⟩ := z
  have h0 := h
  have hz0 := hz
  obtain ⟨T, hT, hS0, hD0, ⟨hW, hR⟩, hP, hTX, f1, f2, f3⟩ := h
  obtain ⟨z1, z2, z3, z4, z5⟩ := hz
  rcases o with _ | ⟨B, N⟩
  · have h10 : σ.2.1 32 10 = nI 0 := hR
    obtain ⟨rfl, rfl⟩ : na = 0 ∧ ni = 0 := z5
    show ZR _ (z_leave (none, (0, H), (0, I), (tl, tp), fl, wh, tr) q) σ
    unfold m_X11_leave z_leave
    simp (disch := omega) only [jb_some, jli, jif, jd_q, jd_K0, jpi_s, jpi_l, jpi_p, jpl_s, jpl_i, jpl_p, if_true, if_false, if_pos, if_neg, not_true_eq_false, not_false_eq_true, ite_true, ite_false, Nat.not_lt_zero, eq_self, Nat.le_refl, Nat.lt_irrefl, Bool.false_eq_true, or0, jo_pi, jo_pl, jia_pi, jia_pl, jo_cpy, jia_cpy, cpy_r, m_X11_grant, m_X11_refuse, m_X13_good, m_X13_refused, reduceCtorEq, nI_add, nI_leI, nI_ltI, nI_eq, pk_mul, abs_nI, max_nI, min_nI, nI_m1, nI_m2, nI_le1, m1_lt, m2_lt, or_nI, an_nI, has_nI, bit_nI, bc_nI, bits_nI, lx0, lx1, lx2, lx3, lx4, lx5, lx6, lx7, lx8, lx9, lx10, lx11, lx16, lx20, lx40, lx60, lx90, lx99, lx100, lx200, lx900, lx999, lx9999, jo_32 hW, jo_33 hW, jo_35 hW, jo_40 hW, jo_41 hW, jo_56 hW, jo_97 hW, jo_100 hW, jo_104 hW, jo_106 hW, jo_108 hW, ja_34 hW, ja_36 hW, ja_37 hW, ja_38 hW, ja_39 hW, ja_42 hW, ja_43 hW, ja_44 hW, ja_45 hW, ja_46 hW, ja_98 hW, ja_99 hW, ja_101 hW, ja_102 hW, ja_103 hW, wr_32_0 hW, wr_32_1 hW, wr_32_2 hW, wr_32_3 hW, wr_32_4 hW, wr_32_5 hW, wr_32_6 hW, wr_32_7 hW, wr_32_8 hW, wr_33_0 hW, wr_35_0 hW, wr_35_1 hW, wr_35_2 hW, wr_35_3 hW, wr_35_4 hW, wr_40_0 hW, wr_40_1 hW, wr_40_2 hW, wr_40_3 hW, wr_40_4 hW, wr_41_0 hW, wr_56_0 hW, wr_56_1 hW, wr_97_0 hW, wr_97_1 hW, wr_100_0 hW, wr_100_1 hW, wr_100_2 hW, wr_104_0 hW, wr_106_0 hW, n_01, n_11, h10, m_X11_isPerson, m_X11_isPost, m_X11_deny]
    exact ZR_tr h0 hz0 _ _
  · obtain ⟨h10, hX, hb, hn, hG⟩ : σ.2.1 32 10 = nI 1 ∧ CX B N T σ ∧ bOk B ∧ nOk B N ∧ SG B σ := hR
    have hb2 := hb.2.1
    have hb3 := hb.2.2.1
    have ePe := x_isPerson hX h10 hb
    have ePo := x_isPost hX h10 hb
    have hN : ScX (B 8 3) N 41 σ := hX.1.2.2.2.2
    have hP : PX (B 8 3) na H ni I σ := hP
    have z5 : (∀ k, k < na → nOk B (H k)) ∧ ∀ i, i < ni → nOk B (I i) := z5
    show ZR _ (z_leave (some (B, N), (na, H), (ni, I), (tl, tp), fl, wh, tr) q) σ
    unfold m_X11_leave z_leave
    rcases hj : ixN q (B 8 4) with _ | j
    · simp (disch := omega) only [jb_some, jli, jif, jd_q, jd_K0, jpi_s, jpi_l, jpi_p, jpl_s, jpl_i, jpl_p, if_true, if_false, if_pos, if_neg, not_true_eq_false, not_false_eq_true, ite_true, ite_false, Nat.not_lt_zero, eq_self, Nat.le_refl, Nat.lt_irrefl, Bool.false_eq_true, or0, jo_pi, jo_pl, jia_pi, jia_pl, jo_cpy, jia_cpy, cpy_r, m_X11_grant, m_X11_refuse, m_X13_good, m_X13_refused, reduceCtorEq, nI_add, nI_leI, nI_ltI, nI_eq, pk_mul, abs_nI, max_nI, min_nI, nI_m1, nI_m2, nI_le1, m1_lt, m2_lt, or_nI, an_nI, has_nI, bit_nI, bc_nI, bits_nI, lx0, lx1, lx2, lx3, lx4, lx5, lx6, lx7, lx8, lx9, lx10, lx11, lx16, lx20, lx40, lx60, lx90, lx99, lx100, lx200, lx900, lx999, lx9999, jo_32 hW, jo_33 hW, jo_35 hW, jo_40 hW, jo_41 hW, jo_56 hW, jo_97 hW, jo_100 hW, jo_104 hW, jo_106 hW, jo_108 hW, ja_34 hW, ja_36 hW, ja_37 hW, ja_38 hW, ja_39 hW, ja_42 hW, ja_43 hW, ja_44 hW, ja_45 hW, ja_46 hW, ja_98 hW, ja_99 hW, ja_101 hW, ja_102 hW, ja_103 hW, wr_32_0 hW, wr_32_1 hW, wr_32_2 hW, wr_32_3 hW, wr_32_4 hW, wr_32_5 hW, wr_32_6 hW, wr_32_7 hW, wr_32_8 hW, wr_33_0 hW, wr_35_0 hW, wr_35_1 hW, wr_35_2 hW, wr_35_3 hW, wr_35_4 hW, wr_40_0 hW, wr_40_1 hW, wr_40_2 hW, wr_40_3 hW, wr_40_4 hW, wr_41_0 hW, wr_56_0 hW, wr_56_1 hW, wr_97_0 hW, wr_97_1 hW, wr_100_0 hW, wr_100_1 hW, wr_100_2 hW, wr_104_0 hW, wr_106_0 hW, n_01, n_11, h10, ePo, hj, Option.isSome, m_X11_deny]
      exact ZR_tr h0 hz0 _ _
    · obtain ⟨h1, rfl⟩ := ixN_some hj
      have e1 := x_isManned hX.1 hb hn (q := j) (by omega)
      by_cases h2 : (N 6).testBit j = true
      · obtain ⟨σ6, e6, hP6, F6⟩ := x_keep hW hP hN hb2 z1 z2
        have hW6 := Fr_Wd F6 hW
        have hN6 := ScX_fr hN F6 fun a k ha => by unfold DP; omega
        have m6 : σ6.2.1 41 1 = nI (N 6) := hN6.2.1
        have e7 := (fin_leave _ (nOk6 hb hn) j (by omega) h2).1
        have F7 : Fr DK L0 σ (jd_pi σ6 41 1 (nI (N 6 - 2 ^ j))) := Fr_pi (Fr_mono F6 (fun a k h => by unfold DP at h; unfold DK; omega) fun _ h => h) (by unfold DK; omega)
        obtain ⟨σ', e8, h8, g8⟩ := XR_act (N' := uN N 6 (N 6 - 2 ^ j)) h0 F7 ⟨fun p hp => by
          rw [pi_ne _ _ (by omega), uN_n _ _ (by omega)]
          exact hN6.1 p hp, pi_eq _ _ _ _, (pi_ne _ _ (by omega)).trans hN6.2.2.1, (pi_ne _ _ (by omega)).trans hN6.2.2.2⟩ (nOk_6 hn (Nat.lt_of_le_of_lt (Nat.sub_le _ _) hn.2.1)) (PX_fr hP6 (Fr_pi (D := fun a _ => a = 41) (L := L0) (Fr_refl _) rfl) (fun a k h => by unfold DP at h; omega) (by omega) z2) (by omega) z2
        simp (disch := omega) only [jb_some, jli, jif, jd_q, jd_K0, jpi_s, jpi_l, jpi_p, jpl_s, jpl_i, jpl_p, if_true, if_false, if_pos, if_neg, not_true_eq_false, not_false_eq_true, ite_true, ite_false, Nat.not_lt_zero, eq_self, Nat.le_refl, Nat.lt_irrefl, Bool.false_eq_true, or0, jo_pi, jo_pl, jia_pi, jia_pl, jo_cpy, jia_cpy, cpy_r, m_X11_grant, m_X11_refuse, m_X13_good, m_X13_refused, reduceCtorEq, nI_add, nI_leI, nI_ltI, nI_eq, pk_mul, abs_nI, max_nI, min_nI, nI_m1, nI_m2, nI_le1, m1_lt, m2_lt, or_nI, an_nI, has_nI, bit_nI, bc_nI, bits_nI, lx0, lx1, lx2, lx3, lx4, lx5, lx6, lx7, lx8, lx9, lx10, lx11, lx16, lx20, lx40, lx60, lx90, lx99, lx100, lx200, lx900, lx999, lx9999, jo_32 hW, jo_33 hW, jo_35 hW, jo_40 hW, jo_41 hW, jo_56 hW, jo_97 hW, jo_100 hW, jo_104 hW, jo_106 hW, jo_108 hW, ja_34 hW, ja_36 hW, ja_37 hW, ja_38 hW, ja_39 hW, ja_42 hW, ja_43 hW, ja_44 hW, ja_45 hW, ja_46 hW, ja_98 hW, ja_99 hW, ja_101 hW, ja_102 hW, ja_103 hW, wr_32_0 hW, wr_32_1 hW, wr_32_2 hW, wr_32_3 hW, wr_32_4 hW, wr_32_5 hW, wr_32_6 hW, wr_32_7 hW, wr_32_8 hW, wr_33_0 hW, wr_35_0 hW, wr_35_1 hW, wr_35_2 hW, wr_35_3 hW, wr_35_4 hW, wr_40_0 hW, wr_40_1 hW, wr_40_2 hW, wr_40_3 hW, wr_40_4 hW, wr_41_0 hW, wr_56_0 hW, wr_56_1 hW, wr_97_0 hW, wr_97_1 hW, wr_100_0 hW, wr_100_1 hW, wr_100_2 hW, wr_104_0 hW, wr_106_0 hW, n_01, n_11, h10, ePo, hj, Option.isSome, e1, h2, e6, m6, e7, e8, jo_40 hW6, jo_41 hW6, wr_32_2 hW6, wr_40_0 hW6]
        exact ⟨σ', rfl, h8, g8⟩
      · rw [Bool.not_eq_true] at h2
        simp (disch := omega) only [jb_some, jli, jif, jd_q, jd_K0, jpi_s, jpi_l, jpi_p, jpl_s, jpl_i, jpl_p, if_true, if_false, if_pos, if_neg, not_true_eq_false, not_false_eq_true, ite_true, ite_false, Nat.not_lt_zero, eq_self, Nat.le_refl, Nat.lt_irrefl, Bool.false_eq_true, or0, jo_pi, jo_pl, jia_pi, jia_pl, jo_cpy, jia_cpy, cpy_r, m_X11_grant, m_X11_refuse, m_X13_good, m_X13_refused, reduceCtorEq, nI_add, nI_leI, nI_ltI, nI_eq, pk_mul, abs_nI, max_nI, min_nI, nI_m1, nI_m2, nI_le1, m1_lt, m2_lt, or_nI, an_nI, has_nI, bit_nI, bc_nI, bits_nI, lx0, lx1, lx2, lx3, lx4, lx5, lx6, lx7, lx8, lx9, lx10, lx11, lx16, lx20, lx40, lx60, lx90, lx99, lx100, lx200, lx900, lx999, lx9999, jo_32 hW, jo_33 hW, jo_35 hW, jo_40 hW, jo_41 hW, jo_56 hW, jo_97 hW, jo_100 hW, jo_104 hW, jo_106 hW, jo_108 hW, ja_34 hW, ja_36 hW, ja_37 hW, ja_38 hW, ja_39 hW, ja_42 hW, ja_43 hW, ja_44 hW, ja_45 hW, ja_46 hW, ja_98 hW, ja_99 hW, ja_101 hW, ja_102 hW, ja_103 hW, wr_32_0 hW, wr_32_1 hW, wr_32_2 hW, wr_32_3 hW, wr_32_4 hW, wr_32_5 hW, wr_32_6 hW, wr_32_7 hW, wr_32_8 hW, wr_33_0 hW, wr_35_0 hW, wr_35_1 hW, wr_35_2 hW, wr_35_3 hW, wr_35_4 hW, wr_40_0 hW, wr_40_1 hW, wr_40_2 hW, wr_40_3 hW, wr_40_4 hW, wr_41_0 hW, wr_56_0 hW, wr_56_1 hW, wr_97_0 hW, wr_97_1 hW, wr_100_0 hW, wr_100_1 hW, wr_100_2 hW, wr_104_0 hW, wr_106_0 hW, n_01, n_11, h10, ePo, hj, Option.isSome, m_X11_deny, e1, h2]
        exact ZR_tr h0 hz0 _ _
set_option maxHeartbeats 2000000 in
theorem ZX_seat {z : Zt} {σ : jd_Hp} (h : XR z σ) (hz : HZ z) (p : Int32) (pl : Int32) : ZR (m_X11_seat 32 p pl σ) (z_seat z p pl) σ := by
  obtain ⟨o, ⟨na, H⟩, ⟨ni, I⟩, ⟨tl, tp⟩, fl, wh, tr⟩ := z
  have h0 := h
  have hz0 := hz
  obtain ⟨T, hT, hS0, hD0, ⟨hW, hR⟩, hP, hTX, f1, f2, f3⟩ := h
  obtain ⟨z1, z2, z3, z4, z5⟩ := hz
  rcases o with _ | ⟨B, N⟩
  · have h10 : σ.2.1 32 10 = nI 0 := hR
    obtain ⟨rfl, rfl⟩ : na = 0 ∧ ni = 0 := z5
    show ZR _ (z_seat (none, (0, H), (0, I), (tl, tp), fl, wh, tr) p pl) σ
    unfold m_X11_seat z_seat
    simp (disch := omega) only [jb_some, jli, jif, jd_q, jd_K0, jpi_s, jpi_l, jpi_p, jpl_s, jpl_i, jpl_p, if_true, if_false, if_pos, if_neg, not_true_eq_false, not_false_eq_true, ite_true, ite_false, Nat.not_lt_zero, eq_self, Nat.le_refl, Nat.lt_irrefl, Bool.false_eq_true, or0, jo_pi, jo_pl, jia_pi, jia_pl, jo_cpy, jia_cpy, cpy_r, m_X11_grant, m_X11_refuse, m_X13_good, m_X13_refused, reduceCtorEq, nI_add, nI_leI, nI_ltI, nI_eq, pk_mul, abs_nI, max_nI, min_nI, nI_m1, nI_m2, nI_le1, m1_lt, m2_lt, or_nI, an_nI, has_nI, bit_nI, bc_nI, bits_nI, lx0, lx1, lx2, lx3, lx4, lx5, lx6, lx7, lx8, lx9, lx10, lx11, lx16, lx20, lx40, lx60, lx90, lx99, lx100, lx200, lx900, lx999, lx9999, jo_32 hW, jo_33 hW, jo_35 hW, jo_40 hW, jo_41 hW, jo_56 hW, jo_97 hW, jo_100 hW, jo_104 hW, jo_106 hW, jo_108 hW, ja_34 hW, ja_36 hW, ja_37 hW, ja_38 hW, ja_39 hW, ja_42 hW, ja_43 hW, ja_44 hW, ja_45 hW, ja_46 hW, ja_98 hW, ja_99 hW, ja_101 hW, ja_102 hW, ja_103 hW, wr_32_0 hW, wr_32_1 hW, wr_32_2 hW, wr_32_3 hW, wr_32_4 hW, wr_32_5 hW, wr_32_6 hW, wr_32_7 hW, wr_32_8 hW, wr_33_0 hW, wr_35_0 hW, wr_35_1 hW, wr_35_2 hW, wr_35_3 hW, wr_35_4 hW, wr_40_0 hW, wr_40_1 hW, wr_40_2 hW, wr_40_3 hW, wr_40_4 hW, wr_41_0 hW, wr_56_0 hW, wr_56_1 hW, wr_97_0 hW, wr_97_1 hW, wr_100_0 hW, wr_100_1 hW, wr_100_2 hW, wr_104_0 hW, wr_106_0 hW, n_01, n_11, h10, m_X11_isPerson, m_X11_isPost, m_X11_deny]
    exact ZR_tr h0 hz0 _ _
  · obtain ⟨h10, hX, hb, hn, hG⟩ : σ.2.1 32 10 = nI 1 ∧ CX B N T σ ∧ bOk B ∧ nOk B N ∧ SG B σ := hR
    have hb2 := hb.2.1
    have hb3 := hb.2.2.1
    have ePe := x_isPerson hX h10 hb
    have ePo := x_isPost hX h10 hb
    have hN : ScX (B 8 3) N 41 σ := hX.1.2.2.2.2
    have hP : PX (B 8 3) na H ni I σ := hP
    have z5 : (∀ k, k < na → nOk B (H k)) ∧ ∀ i, i < ni → nOk B (I i) := z5
    show ZR _ (z_seat (some (B, N), (na, H), (ni, I), (tl, tp), fl, wh, tr) p pl) σ
    unfold m_X11_seat z_seat
    rcases hj : ixN p (B 8 3) with _ | j
    · simp (disch := omega) only [jb_some, jli, jif, jd_q, jd_K0, jpi_s, jpi_l, jpi_p, jpl_s, jpl_i, jpl_p, if_true, if_false, if_pos, if_neg, not_true_eq_false, not_false_eq_true, ite_true, ite_false, Nat.not_lt_zero, eq_self, Nat.le_refl, Nat.lt_irrefl, Bool.false_eq_true, or0, jo_pi, jo_pl, jia_pi, jia_pl, jo_cpy, jia_cpy, cpy_r, m_X11_grant, m_X11_refuse, m_X13_good, m_X13_refused, reduceCtorEq, nI_add, nI_leI, nI_ltI, nI_eq, pk_mul, abs_nI, max_nI, min_nI, nI_m1, nI_m2, nI_le1, m1_lt, m2_lt, and_nI, or_nI, an_nI, has_nI, bit_nI, bc_nI, bits_nI, lx0, lx1, lx2, lx3, lx4, lx5, lx6, lx7, lx8, lx9, lx10, lx11, lx16, lx20, lx40, lx60, lx90, lx99, lx100, lx200, lx900, lx999, lx9999, jo_32 hW, jo_33 hW, jo_35 hW, jo_40 hW, jo_41 hW, jo_56 hW, jo_97 hW, jo_100 hW, jo_104 hW, jo_106 hW, jo_108 hW, ja_34 hW, ja_36 hW, ja_37 hW, ja_38 hW, ja_39 hW, ja_42 hW, ja_43 hW, ja_44 hW, ja_45 hW, ja_46 hW, ja_98 hW, ja_99 hW, ja_101 hW, ja_102 hW, ja_103 hW, wr_32_0 hW, wr_32_1 hW, wr_32_2 hW, wr_32_3 hW, wr_32_4 hW, wr_32_5 hW, wr_32_6 hW, wr_32_7 hW, wr_32_8 hW, wr_33_0 hW, wr_35_0 hW, wr_35_1 hW, wr_35_2 hW, wr_35_3 hW, wr_35_4 hW, wr_40_0 hW, wr_40_1 hW, wr_40_2 hW, wr_40_3 hW, wr_40_4 hW, wr_41_0 hW, wr_56_0 hW, wr_56_1 hW, wr_97_0 hW, wr_97_1 hW, wr_100_0 hW, wr_100_1 hW, wr_100_2 hW, wr_104_0 hW, wr_106_0 hW, h10, ePe, hj, Option.isSome]
      exact ZR_tr h0 hz0 _ _
    · obtain ⟨h1, rfl⟩ := ixN_some hj
      rcases hk : rgN pl 0 99 with _ | k
      · rcases rgN_none hk with h2 | ⟨h2, h3⟩
        · simp (disch := omega) only [jb_some, jli, jif, jd_q, jd_K0, jpi_s, jpi_l, jpi_p, jpl_s, jpl_i, jpl_p, if_true, if_false, if_pos, if_neg, not_true_eq_false, not_false_eq_true, ite_true, ite_false, Nat.not_lt_zero, eq_self, Nat.le_refl, Nat.lt_irrefl, Bool.false_eq_true, or0, jo_pi, jo_pl, jia_pi, jia_pl, jo_cpy, jia_cpy, cpy_r, m_X11_grant, m_X11_refuse, m_X13_good, m_X13_refused, reduceCtorEq, nI_add, nI_leI, nI_ltI, nI_eq, pk_mul, abs_nI, max_nI, min_nI, nI_m1, nI_m2, nI_le1, m1_lt, m2_lt, and_nI, or_nI, an_nI, has_nI, bit_nI, bc_nI, bits_nI, lx0, lx1, lx2, lx3, lx4, lx5, lx6, lx7, lx8, lx9, lx10, lx11, lx16, lx20, lx40, lx60, lx90, lx99, lx100, lx200, lx900, lx999, lx9999, jo_32 hW, jo_33 hW, jo_35 hW, jo_40 hW, jo_41 hW, jo_56 hW, jo_97 hW, jo_100 hW, jo_104 hW, jo_106 hW, jo_108 hW, ja_34 hW, ja_36 hW, ja_37 hW, ja_38 hW, ja_39 hW, ja_42 hW, ja_43 hW, ja_44 hW, ja_45 hW, ja_46 hW, ja_98 hW, ja_99 hW, ja_101 hW, ja_102 hW, ja_103 hW, wr_32_0 hW, wr_32_1 hW, wr_32_2 hW, wr_32_3 hW, wr_32_4 hW, wr_32_5 hW, wr_32_6 hW, wr_32_7 hW, wr_32_8 hW, wr_33_0 hW, wr_35_0 hW, wr_35_1 hW, wr_35_2 hW, wr_35_3 hW, wr_35_4 hW, wr_40_0 hW, wr_40_1 hW, wr_40_2 hW, wr_40_3 hW, wr_40_4 hW, wr_41_0 hW, wr_56_0 hW, wr_56_1 hW, wr_97_0 hW, wr_97_1 hW, wr_100_0 hW, wr_100_1 hW, wr_100_2 hW, wr_104_0 hW, wr_106_0 hW, h10, ePe, hj, Option.isSome, h2]
          exact ZR_tr h0 hz0 _ _
        · have h3' := Int32.not_le.mpr h3
          simp (disch := omega) only [jb_some, jli, jif, jd_q, jd_K0, jpi_s, jpi_l, jpi_p, jpl_s, jpl_i, jpl_p, if_true, if_false, if_pos, if_neg, not_true_eq_false, not_false_eq_true, ite_true, ite_false, Nat.not_lt_zero, eq_self, Nat.le_refl, Nat.lt_irrefl, Bool.false_eq_true, or0, jo_pi, jo_pl, jia_pi, jia_pl, jo_cpy, jia_cpy, cpy_r, m_X11_grant, m_X11_refuse, m_X13_good, m_X13_refused, reduceCtorEq, nI_add, nI_leI, nI_ltI, nI_eq, pk_mul, abs_nI, max_nI, min_nI, nI_m1, nI_m2, nI_le1, m1_lt, m2_lt, and_nI, or_nI, an_nI, has_nI, bit_nI, bc_nI, bits_nI, lx0, lx1, lx2, lx3, lx4, lx5, lx6, lx7, lx8, lx9, lx10, lx11, lx16, lx20, lx40, lx60, lx90, lx99, lx100, lx200, lx900, lx999, lx9999, jo_32 hW, jo_33 hW, jo_35 hW, jo_40 hW, jo_41 hW, jo_56 hW, jo_97 hW, jo_100 hW, jo_104 hW, jo_106 hW, jo_108 hW, ja_34 hW, ja_36 hW, ja_37 hW, ja_38 hW, ja_39 hW, ja_42 hW, ja_43 hW, ja_44 hW, ja_45 hW, ja_46 hW, ja_98 hW, ja_99 hW, ja_101 hW, ja_102 hW, ja_103 hW, wr_32_0 hW, wr_32_1 hW, wr_32_2 hW, wr_32_3 hW, wr_32_4 hW, wr_32_5 hW, wr_32_6 hW, wr_32_7 hW, wr_32_8 hW, wr_33_0 hW, wr_35_0 hW, wr_35_1 hW, wr_35_2 hW, wr_35_3 hW, wr_35_4 hW, wr_40_0 hW, wr_40_1 hW, wr_40_2 hW, wr_40_3 hW, wr_40_4 hW, wr_41_0 hW, wr_56_0 hW, wr_56_1 hW, wr_97_0 hW, wr_97_1 hW, wr_100_0 hW, wr_100_1 hW, wr_100_2 hW, wr_104_0 hW, wr_106_0 hW, h10, ePe, hj, Option.isSome, h2, h3, h3']
          exact ZR_tr h0 hz0 _ _
      · obtain ⟨rfl, -, h3⟩ := rgN_some (by decide) hk (by decide)
        have e1 : σ.2.1 42 j = nI (N j) := hN.1 j h1
        have e2 := hn.1 j (by omega)
        by_cases h4 : N j = k
        · simp (disch := omega) only [jb_some, jli, jif, jd_q, jd_K0, jpi_s, jpi_l, jpi_p, jpl_s, jpl_i, jpl_p, if_true, if_false, if_pos, if_neg, not_true_eq_false, not_false_eq_true, ite_true, ite_false, Nat.not_lt_zero, eq_self, Nat.le_refl, Nat.lt_irrefl, Bool.false_eq_true, or0, jo_pi, jo_pl, jia_pi, jia_pl, jo_cpy, jia_cpy, cpy_r, m_X11_grant, m_X11_refuse, m_X13_good, m_X13_refused, reduceCtorEq, nI_add, nI_leI, nI_ltI, nI_eq, pk_mul, abs_nI, max_nI, min_nI, nI_m1, nI_m2, nI_le1, m1_lt, m2_lt, and_nI, or_nI, an_nI, has_nI, bit_nI, bc_nI, bits_nI, lx0, lx1, lx2, lx3, lx4, lx5, lx6, lx7, lx8, lx9, lx10, lx11, lx16, lx20, lx40, lx60, lx90, lx99, lx100, lx200, lx900, lx999, lx9999, jo_32 hW, jo_33 hW, jo_35 hW, jo_40 hW, jo_41 hW, jo_56 hW, jo_97 hW, jo_100 hW, jo_104 hW, jo_106 hW, jo_108 hW, ja_34 hW, ja_36 hW, ja_37 hW, ja_38 hW, ja_39 hW, ja_42 hW, ja_43 hW, ja_44 hW, ja_45 hW, ja_46 hW, ja_98 hW, ja_99 hW, ja_101 hW, ja_102 hW, ja_103 hW, wr_32_0 hW, wr_32_1 hW, wr_32_2 hW, wr_32_3 hW, wr_32_4 hW, wr_32_5 hW, wr_32_6 hW, wr_32_7 hW, wr_32_8 hW, wr_33_0 hW, wr_35_0 hW, wr_35_1 hW, wr_35_2 hW, wr_35_3 hW, wr_35_4 hW, wr_40_0 hW, wr_40_1 hW, wr_40_2 hW, wr_40_3 hW, wr_40_4 hW, wr_41_0 hW, wr_56_0 hW, wr_56_1 hW, wr_97_0 hW, wr_97_1 hW, wr_100_0 hW, wr_100_1 hW, wr_100_2 hW, wr_104_0 hW, wr_106_0 hW, h10, ePe, hj, Option.isSome, h3, e1, h4]
          exact ZR_tr h0 hz0 _ _
        · obtain ⟨σ6, e6, hP6, F6⟩ := x_keep hW hP hN hb2 z1 z2
          have hW6 := Fr_Wd F6 hW
          have hN6 := ScX_fr hN F6 fun a k ha => by unfold DP; omega
          have F7 : Fr DK L0 σ (jd_pi σ6 42 j (nI k)) := Fr_pi (Fr_mono F6 (fun a k h => by unfold DP at h; unfold DK; omega) fun _ h => h) (by unfold DK; omega)
          obtain ⟨σ', e8, h8, g8⟩ := XR_act (N' := uN N j k) h0 F7 ⟨fun p hp => by
            by_cases hpj : p = j
            · rw [hpj, pi_eq, uN_e]
            · rw [pi_ne _ _ (by omega), uN_n _ _ hpj]
              exact hN6.1 p hp, by
            rw [pi_ne _ _ (by omega), uN_n _ _ (by omega)]
            exact hN6.2.1, by
            rw [pi_ne _ _ (by omega), uN_n _ _ (by omega)]
            exact hN6.2.2.1, by
            rw [pi_ne _ _ (by omega), uN_n _ _ (by omega)]
            exact hN6.2.2.2⟩ (nOk_p hn (by omega) h3) (PX_fr hP6 (Fr_pi (D := fun a _ => a = 42) (L := L0) (Fr_refl _) rfl) (fun a k h => by unfold DP at h; omega) (by omega) z2) (by omega) z2
          have h8' := h8
          obtain ⟨T', -, -, -, ⟨hW8, -, hX8, -, -, -⟩, -⟩ := h8'
          have e9 : σ'.2.1 44 j = cs (sink B (uN N j k) j) := hX8.2.2.1 j h1
          simp (disch := omega) only [jb_some, jli, jif, jd_q, jd_K0, jpi_s, jpi_l, jpi_p, jpl_s, jpl_i, jpl_p, if_true, if_false, if_pos, if_neg, not_true_eq_false, not_false_eq_true, ite_true, ite_false, Nat.not_lt_zero, eq_self, Nat.le_refl, Nat.lt_irrefl, Bool.false_eq_true, or0, jo_pi, jo_pl, jia_pi, jia_pl, jo_cpy, jia_cpy, cpy_r, m_X11_grant, m_X11_refuse, m_X13_good, m_X13_refused, reduceCtorEq, nI_add, nI_leI, nI_ltI, nI_eq, pk_mul, abs_nI, max_nI, min_nI, nI_m1, nI_m2, nI_le1, m1_lt, m2_lt, and_nI, or_nI, an_nI, has_nI, bit_nI, bc_nI, bits_nI, lx0, lx1, lx2, lx3, lx4, lx5, lx6, lx7, lx8, lx9, lx10, lx11, lx16, lx20, lx40, lx60, lx90, lx99, lx100, lx200, lx900, lx999, lx9999, jo_32 hW, jo_33 hW, jo_35 hW, jo_40 hW, jo_41 hW, jo_56 hW, jo_97 hW, jo_100 hW, jo_104 hW, jo_106 hW, jo_108 hW, ja_34 hW, ja_36 hW, ja_37 hW, ja_38 hW, ja_39 hW, ja_42 hW, ja_43 hW, ja_44 hW, ja_45 hW, ja_46 hW, ja_98 hW, ja_99 hW, ja_101 hW, ja_102 hW, ja_103 hW, wr_32_0 hW, wr_32_1 hW, wr_32_2 hW, wr_32_3 hW, wr_32_4 hW, wr_32_5 hW, wr_32_6 hW, wr_32_7 hW, wr_32_8 hW, wr_33_0 hW, wr_35_0 hW, wr_35_1 hW, wr_35_2 hW, wr_35_3 hW, wr_35_4 hW, wr_40_0 hW, wr_40_1 hW, wr_40_2 hW, wr_40_3 hW, wr_40_4 hW, wr_41_0 hW, wr_56_0 hW, wr_56_1 hW, wr_97_0 hW, wr_97_1 hW, wr_100_0 hW, wr_100_1 hW, wr_100_2 hW, wr_104_0 hW, wr_106_0 hW, h10, ePe, hj, Option.isSome, h3, e1, h4, e6, e8, e9, jo_40 hW6, jo_41 hW6, wr_32_2 hW6, wr_40_0 hW6, wr_41_0 hW6, ja_42 hW6, jo_40 hW8, wr_32_2 hW8, wr_40_2 hW8, ja_44 hW8]
          exact ⟨σ', rfl, h8, g8⟩
set_option maxHeartbeats 2000000 in
theorem ZX_minute {z : Zt} {σ : jd_Hp} (h : XR z σ) (hz : HZ z) (n : Int32) : ZR (m_X11_minute 32 n σ) (z_minute z n) σ := by
  obtain ⟨o, ⟨na, H⟩, ⟨ni, I⟩, ⟨tl, tp⟩, fl, wh, tr⟩ := z
  have h0 := h
  have hz0 := hz
  obtain ⟨T, hT, hS0, hD0, ⟨hW, hR⟩, hP, hTX, f1, f2, f3⟩ := h
  obtain ⟨z1, z2, z3, z4, z5⟩ := hz
  rcases o with _ | ⟨B, N⟩
  · have h10 : σ.2.1 32 10 = nI 0 := hR
    obtain ⟨rfl, rfl⟩ : na = 0 ∧ ni = 0 := z5
    show ZR _ (z_minute (none, (0, H), (0, I), (tl, tp), fl, wh, tr) n) σ
    unfold m_X11_minute z_minute
    simp (disch := omega) only [jb_some, jli, jif, jd_q, jd_K0, jpi_s, jpi_l, jpi_p, jpl_s, jpl_i, jpl_p, if_true, if_false, if_pos, if_neg, not_true_eq_false, not_false_eq_true, ite_true, ite_false, Nat.not_lt_zero, eq_self, Nat.le_refl, Nat.lt_irrefl, Bool.false_eq_true, or0, jo_pi, jo_pl, jia_pi, jia_pl, jo_cpy, jia_cpy, cpy_r, m_X11_grant, m_X11_refuse, m_X13_good, m_X13_refused, reduceCtorEq, nI_add, nI_leI, nI_ltI, nI_eq, pk_mul, abs_nI, max_nI, min_nI, nI_m1, nI_m2, nI_le1, m1_lt, m2_lt, or_nI, an_nI, has_nI, bit_nI, bc_nI, bits_nI, lx0, lx1, lx2, lx3, lx4, lx5, lx6, lx7, lx8, lx9, lx10, lx11, lx16, lx20, lx40, lx60, lx90, lx99, lx100, lx200, lx900, lx999, lx9999, jo_32 hW, jo_33 hW, jo_35 hW, jo_40 hW, jo_41 hW, jo_56 hW, jo_97 hW, jo_100 hW, jo_104 hW, jo_106 hW, jo_108 hW, ja_34 hW, ja_36 hW, ja_37 hW, ja_38 hW, ja_39 hW, ja_42 hW, ja_43 hW, ja_44 hW, ja_45 hW, ja_46 hW, ja_98 hW, ja_99 hW, ja_101 hW, ja_102 hW, ja_103 hW, wr_32_0 hW, wr_32_1 hW, wr_32_2 hW, wr_32_3 hW, wr_32_4 hW, wr_32_5 hW, wr_32_6 hW, wr_32_7 hW, wr_32_8 hW, wr_33_0 hW, wr_35_0 hW, wr_35_1 hW, wr_35_2 hW, wr_35_3 hW, wr_35_4 hW, wr_40_0 hW, wr_40_1 hW, wr_40_2 hW, wr_40_3 hW, wr_40_4 hW, wr_41_0 hW, wr_56_0 hW, wr_56_1 hW, wr_97_0 hW, wr_97_1 hW, wr_100_0 hW, wr_100_1 hW, wr_100_2 hW, wr_104_0 hW, wr_106_0 hW, n_01, n_11, h10, m_X11_isPerson, m_X11_isPost, m_X11_deny]
    exact ZR_tr h0 hz0 _ _
  · obtain ⟨h10, hX, hb, hn, hG⟩ : σ.2.1 32 10 = nI 1 ∧ CX B N T σ ∧ bOk B ∧ nOk B N ∧ SG B σ := hR
    have hb2 := hb.2.1
    have hb3 := hb.2.2.1
    have ePe := x_isPerson hX h10 hb
    have ePo := x_isPost hX h10 hb
    have hN : ScX (B 8 3) N 41 σ := hX.1.2.2.2.2
    have hP : PX (B 8 3) na H ni I σ := hP
    have z5 : (∀ k, k < na → nOk B (H k)) ∧ ∀ i, i < ni → nOk B (I i) := z5
    show ZR _ (z_minute (some (B, N), (na, H), (ni, I), (tl, tp), fl, wh, tr) n) σ
    unfold m_X11_minute z_minute
    rcases hk : rgN n 1 60 with _ | k
    · rcases rgN_none hk with h2 | ⟨h2, h3⟩
      · simp (disch := omega) only [jb_some, jli, jif, jd_q, jd_K0, jpi_s, jpi_l, jpi_p, jpl_s, jpl_i, jpl_p, if_true, if_false, if_pos, if_neg, not_true_eq_false, not_false_eq_true, ite_true, ite_false, Nat.not_lt_zero, eq_self, Nat.le_refl, Nat.lt_irrefl, Bool.false_eq_true, or0, jo_pi, jo_pl, jia_pi, jia_pl, jo_cpy, jia_cpy, cpy_r, m_X11_grant, m_X11_refuse, m_X13_good, m_X13_refused, reduceCtorEq, nI_add, nI_leI, nI_ltI, nI_eq, pk_mul, abs_nI, max_nI, min_nI, nI_m1, nI_m2, nI_le1, m1_lt, m2_lt, and_nI, or_nI, an_nI, has_nI, bit_nI, bc_nI, bits_nI, lx0, lx1, lx2, lx3, lx4, lx5, lx6, lx7, lx8, lx9, lx10, lx11, lx16, lx20, lx40, lx60, lx90, lx99, lx100, lx200, lx900, lx999, lx9999, jo_32 hW, jo_33 hW, jo_35 hW, jo_40 hW, jo_41 hW, jo_56 hW, jo_97 hW, jo_100 hW, jo_104 hW, jo_106 hW, jo_108 hW, ja_34 hW, ja_36 hW, ja_37 hW, ja_38 hW, ja_39 hW, ja_42 hW, ja_43 hW, ja_44 hW, ja_45 hW, ja_46 hW, ja_98 hW, ja_99 hW, ja_101 hW, ja_102 hW, ja_103 hW, wr_32_0 hW, wr_32_1 hW, wr_32_2 hW, wr_32_3 hW, wr_32_4 hW, wr_32_5 hW, wr_32_6 hW, wr_32_7 hW, wr_32_8 hW, wr_33_0 hW, wr_35_0 hW, wr_35_1 hW, wr_35_2 hW, wr_35_3 hW, wr_35_4 hW, wr_40_0 hW, wr_40_1 hW, wr_40_2 hW, wr_40_3 hW, wr_40_4 hW, wr_41_0 hW, wr_56_0 hW, wr_56_1 hW, wr_97_0 hW, wr_97_1 hW, wr_100_0 hW, wr_100_1 hW, wr_100_2 hW, wr_104_0 hW, wr_106_0 hW, h10, h2]
        exact ZR_tr h0 hz0 _ _
      · have h3' := Int32.not_le.mpr h3
        simp (disch := omega) only [jb_some, jli, jif, jd_q, jd_K0, jpi_s, jpi_l, jpi_p, jpl_s, jpl_i, jpl_p, if_true, if_false, if_pos, if_neg, not_true_eq_false, not_false_eq_true, ite_true, ite_false, Nat.not_lt_zero, eq_self, Nat.le_refl, Nat.lt_irrefl, Bool.false_eq_true, or0, jo_pi, jo_pl, jia_pi, jia_pl, jo_cpy, jia_cpy, cpy_r, m_X11_grant, m_X11_refuse, m_X13_good, m_X13_refused, reduceCtorEq, nI_add, nI_leI, nI_ltI, nI_eq, pk_mul, abs_nI, max_nI, min_nI, nI_m1, nI_m2, nI_le1, m1_lt, m2_lt, and_nI, or_nI, an_nI, has_nI, bit_nI, bc_nI, bits_nI, lx0, lx1, lx2, lx3, lx4, lx5, lx6, lx7, lx8, lx9, lx10, lx11, lx16, lx20, lx40, lx60, lx90, lx99, lx100, lx200, lx900, lx999, lx9999, jo_32 hW, jo_33 hW, jo_35 hW, jo_40 hW, jo_41 hW, jo_56 hW, jo_97 hW, jo_100 hW, jo_104 hW, jo_106 hW, jo_108 hW, ja_34 hW, ja_36 hW, ja_37 hW, ja_38 hW, ja_39 hW, ja_42 hW, ja_43 hW, ja_44 hW, ja_45 hW, ja_46 hW, ja_98 hW, ja_99 hW, ja_101 hW, ja_102 hW, ja_103 hW, wr_32_0 hW, wr_32_1 hW, wr_32_2 hW, wr_32_3 hW, wr_32_4 hW, wr_32_5 hW, wr_32_6 hW, wr_32_7 hW, wr_32_8 hW, wr_33_0 hW, wr_35_0 hW, wr_35_1 hW, wr_35_2 hW, wr_35_3 hW, wr_35_4 hW, wr_40_0 hW, wr_40_1 hW, wr_40_2 hW, wr_40_3 hW, wr_40_4 hW, wr_41_0 hW, wr_56_0 hW, wr_56_1 hW, wr_97_0 hW, wr_97_1 hW, wr_100_0 hW, wr_100_1 hW, wr_100_2 hW, wr_104_0 hW, wr_106_0 hW, h10, h2, h3, h3']
        exact ZR_tr h0 hz0 _ _
    · obtain ⟨rfl, h2, h3⟩ := rgN_some (by decide) hk (by decide)
      have h2' : ¬ k < 1 := by omega
      have e1 : σ.2.1 41 3 = nI (N 8) := hN.2.2.2
      have e2 := hn.2.2.2
      by_cases h4 : N 8 + k ≤ 999
      · obtain ⟨σ6, e6, hP6, F6⟩ := x_keep hW hP hN hb2 z1 z2
        have hW6 := Fr_Wd F6 hW
        have hN6 := ScX_fr hN F6 fun a k ha => by unfold DP; omega
        have m6 : σ6.2.1 41 3 = nI (N 8) := hN6.2.2.2
        have F7 : Fr DK L0 σ (jd_pi σ6 41 3 (nI (N 8 + k))) := Fr_pi (Fr_mono F6 (fun a k h => by unfold DP at h; unfold DK; omega) fun _ h => h) (by unfold DK; omega)
        obtain ⟨σ', e8, h8, g8⟩ := XR_act (N' := uN N 8 (N 8 + k)) h0 F7 ⟨fun p hp => by
          rw [pi_ne _ _ (by omega), uN_n _ _ (by omega)]
          exact hN6.1 p hp, (pi_ne _ _ (by omega)).trans hN6.2.1, (pi_ne _ _ (by omega)).trans hN6.2.2.1, pi_eq _ _ _ _⟩ (nOk_8 hn h4) (PX_fr hP6 (Fr_pi (D := fun a _ => a = 41) (L := L0) (Fr_refl _) rfl) (fun a k h => by unfold DP at h; omega) (by omega) z2) (by omega) z2
        have h8' := h8
        obtain ⟨T', -, -, -, ⟨hW8, -, hX8, -, -, -⟩, -⟩ := h8'
        have e9 : σ'.2.1 41 3 = nI (N 8 + k) := hX8.1.2.2.2.2.2.2.2
        have e10 := x_underBits hX8 hb (m := N 8 + k) (by omega)
        simp (disch := omega) only [jb_some, jli, jif, jd_q, jd_K0, jpi_s, jpi_l, jpi_p, jpl_s, jpl_i, jpl_p, if_true, if_false, if_pos, if_neg, not_true_eq_false, not_false_eq_true, ite_true, ite_false, Nat.not_lt_zero, eq_self, Nat.le_refl, Nat.lt_irrefl, Bool.false_eq_true, or0, jo_pi, jo_pl, jia_pi, jia_pl, jo_cpy, jia_cpy, cpy_r, m_X11_grant, m_X11_refuse, m_X13_good, m_X13_refused, reduceCtorEq, nI_add, nI_leI, nI_ltI, nI_eq, pk_mul, abs_nI, max_nI, min_nI, nI_m1, nI_m2, nI_le1, m1_lt, m2_lt, and_nI, or_nI, an_nI, has_nI, bit_nI, bc_nI, bits_nI, lx0, lx1, lx2, lx3, lx4, lx5, lx6, lx7, lx8, lx9, lx10, lx11, lx16, lx20, lx40, lx60, lx90, lx99, lx100, lx200, lx900, lx999, lx9999, jo_32 hW, jo_33 hW, jo_35 hW, jo_40 hW, jo_41 hW, jo_56 hW, jo_97 hW, jo_100 hW, jo_104 hW, jo_106 hW, jo_108 hW, ja_34 hW, ja_36 hW, ja_37 hW, ja_38 hW, ja_39 hW, ja_42 hW, ja_43 hW, ja_44 hW, ja_45 hW, ja_46 hW, ja_98 hW, ja_99 hW, ja_101 hW, ja_102 hW, ja_103 hW, wr_32_0 hW, wr_32_1 hW, wr_32_2 hW, wr_32_3 hW, wr_32_4 hW, wr_32_5 hW, wr_32_6 hW, wr_32_7 hW, wr_32_8 hW, wr_33_0 hW, wr_35_0 hW, wr_35_1 hW, wr_35_2 hW, wr_35_3 hW, wr_35_4 hW, wr_40_0 hW, wr_40_1 hW, wr_40_2 hW, wr_40_3 hW, wr_40_4 hW, wr_41_0 hW, wr_56_0 hW, wr_56_1 hW, wr_97_0 hW, wr_97_1 hW, wr_100_0 hW, wr_100_1 hW, wr_100_2 hW, wr_104_0 hW, wr_106_0 hW, h10, h2', h3, e1, h4, e6, m6, e8, e9, e10, jo_40 hW6, jo_41 hW6, wr_32_2 hW6, wr_40_0 hW6, jo_40 hW8, wr_32_2 hW8, wr_40_0 hW8, jo_41 hW8]
        exact ⟨σ', rfl, h8, g8⟩
      · simp (disch := omega) only [jb_some, jli, jif, jd_q, jd_K0, jpi_s, jpi_l, jpi_p, jpl_s, jpl_i, jpl_p, if_true, if_false, if_pos, if_neg, not_true_eq_false, not_false_eq_true, ite_true, ite_false, Nat.not_lt_zero, eq_self, Nat.le_refl, Nat.lt_irrefl, Bool.false_eq_true, or0, jo_pi, jo_pl, jia_pi, jia_pl, jo_cpy, jia_cpy, cpy_r, m_X11_grant, m_X11_refuse, m_X13_good, m_X13_refused, reduceCtorEq, nI_add, nI_leI, nI_ltI, nI_eq, pk_mul, abs_nI, max_nI, min_nI, nI_m1, nI_m2, nI_le1, m1_lt, m2_lt, and_nI, or_nI, an_nI, has_nI, bit_nI, bc_nI, bits_nI, lx0, lx1, lx2, lx3, lx4, lx5, lx6, lx7, lx8, lx9, lx10, lx11, lx16, lx20, lx40, lx60, lx90, lx99, lx100, lx200, lx900, lx999, lx9999, jo_32 hW, jo_33 hW, jo_35 hW, jo_40 hW, jo_41 hW, jo_56 hW, jo_97 hW, jo_100 hW, jo_104 hW, jo_106 hW, jo_108 hW, ja_34 hW, ja_36 hW, ja_37 hW, ja_38 hW, ja_39 hW, ja_42 hW, ja_43 hW, ja_44 hW, ja_45 hW, ja_46 hW, ja_98 hW, ja_99 hW, ja_101 hW, ja_102 hW, ja_103 hW, wr_32_0 hW, wr_32_1 hW, wr_32_2 hW, wr_32_3 hW, wr_32_4 hW, wr_32_5 hW, wr_32_6 hW, wr_32_7 hW, wr_32_8 hW, wr_33_0 hW, wr_35_0 hW, wr_35_1 hW, wr_35_2 hW, wr_35_3 hW, wr_35_4 hW, wr_40_0 hW, wr_40_1 hW, wr_40_2 hW, wr_40_3 hW, wr_40_4 hW, wr_41_0 hW, wr_56_0 hW, wr_56_1 hW, wr_97_0 hW, wr_97_1 hW, wr_100_0 hW, wr_100_1 hW, wr_100_2 hW, wr_104_0 hW, wr_106_0 hW, h10, h2', h3, e1, h4]
        exact ZR_tr h0 hz0 _ _
set_option maxHeartbeats 2000000 in
theorem ZX_lift {z : Zt} {σ : jd_Hp} (h : XR z σ) (hz : HZ z) (p : Int32) : ZR (m_X11_lift 32 p σ) (z_lift z p) σ := by
  obtain ⟨o, ⟨na, H⟩, ⟨ni, I⟩, ⟨tl, tp⟩, fl, wh, tr⟩ := z
  have h0 := h
  have hz0 := hz
  obtain ⟨T, hT, hS0, hD0, ⟨hW, hR⟩, hP, hTX, f1, f2, f3⟩ := h
  obtain ⟨z1, z2, z3, z4, z5⟩ := hz
  rcases o with _ | ⟨B, N⟩
  · have h10 : σ.2.1 32 10 = nI 0 := hR
    obtain ⟨rfl, rfl⟩ : na = 0 ∧ ni = 0 := z5
    show ZR _ (z_lift (none, (0, H), (0, I), (tl, tp), fl, wh, tr) p) σ
    unfold m_X11_lift z_lift
    simp (disch := omega) only [jb_some, jli, jif, jd_q, jd_K0, jpi_s, jpi_l, jpi_p, jpl_s, jpl_i, jpl_p, if_true, if_false, if_pos, if_neg, not_true_eq_false, not_false_eq_true, ite_true, ite_false, Nat.not_lt_zero, eq_self, Nat.le_refl, Nat.lt_irrefl, Bool.false_eq_true, or0, jo_pi, jo_pl, jia_pi, jia_pl, jo_cpy, jia_cpy, cpy_r, m_X11_grant, m_X11_refuse, m_X13_good, m_X13_refused, reduceCtorEq, nI_add, nI_leI, nI_ltI, nI_eq, pk_mul, abs_nI, max_nI, min_nI, nI_m1, nI_m2, nI_le1, m1_lt, m2_lt, or_nI, an_nI, has_nI, bit_nI, bc_nI, bits_nI, lx0, lx1, lx2, lx3, lx4, lx5, lx6, lx7, lx8, lx9, lx10, lx11, lx16, lx20, lx40, lx60, lx90, lx99, lx100, lx200, lx900, lx999, lx9999, jo_32 hW, jo_33 hW, jo_35 hW, jo_40 hW, jo_41 hW, jo_56 hW, jo_97 hW, jo_100 hW, jo_104 hW, jo_106 hW, jo_108 hW, ja_34 hW, ja_36 hW, ja_37 hW, ja_38 hW, ja_39 hW, ja_42 hW, ja_43 hW, ja_44 hW, ja_45 hW, ja_46 hW, ja_98 hW, ja_99 hW, ja_101 hW, ja_102 hW, ja_103 hW, wr_32_0 hW, wr_32_1 hW, wr_32_2 hW, wr_32_3 hW, wr_32_4 hW, wr_32_5 hW, wr_32_6 hW, wr_32_7 hW, wr_32_8 hW, wr_33_0 hW, wr_35_0 hW, wr_35_1 hW, wr_35_2 hW, wr_35_3 hW, wr_35_4 hW, wr_40_0 hW, wr_40_1 hW, wr_40_2 hW, wr_40_3 hW, wr_40_4 hW, wr_41_0 hW, wr_56_0 hW, wr_56_1 hW, wr_97_0 hW, wr_97_1 hW, wr_100_0 hW, wr_100_1 hW, wr_100_2 hW, wr_104_0 hW, wr_106_0 hW, n_01, n_11, h10, m_X11_isPerson, m_X11_isPost, m_X11_deny]
    exact ZR_tr h0 hz0 _ _
  · obtain ⟨h10, hX, hb, hn, hG⟩ : σ.2.1 32 10 = nI 1 ∧ CX B N T σ ∧ bOk B ∧ nOk B N ∧ SG B σ := hR
    have hb2 := hb.2.1
    have hb3 := hb.2.2.1
    have ePe := x_isPerson hX h10 hb
    have ePo := x_isPost hX h10 hb
    have hN : ScX (B 8 3) N 41 σ := hX.1.2.2.2.2
    have hP : PX (B 8 3) na H ni I σ := hP
    have z5 : (∀ k, k < na → nOk B (H k)) ∧ ∀ i, i < ni → nOk B (I i) := z5
    show ZR _ (z_lift (some (B, N), (na, H), (ni, I), (tl, tp), fl, wh, tr) p) σ
    unfold m_X11_lift z_lift
    rcases hj : ixN p (B 8 3) with _ | j
    · simp (disch := omega) only [jb_some, jli, jif, jd_q, jd_K0, jpi_s, jpi_l, jpi_p, jpl_s, jpl_i, jpl_p, if_true, if_false, if_pos, if_neg, not_true_eq_false, not_false_eq_true, ite_true, ite_false, Nat.not_lt_zero, eq_self, Nat.le_refl, Nat.lt_irrefl, Bool.false_eq_true, or0, jo_pi, jo_pl, jia_pi, jia_pl, jo_cpy, jia_cpy, cpy_r, m_X11_grant, m_X11_refuse, m_X13_good, m_X13_refused, reduceCtorEq, nI_add, nI_leI, nI_ltI, nI_eq, pk_mul, abs_nI, max_nI, min_nI, nI_m1, nI_m2, nI_le1, m1_lt, m2_lt, and_nI, or_nI, an_nI, has_nI, bit_nI, bc_nI, bits_nI, lx0, lx1, lx2, lx3, lx4, lx5, lx6, lx7, lx8, lx9, lx10, lx11, lx16, lx20, lx40, lx60, lx90, lx99, lx100, lx200, lx900, lx999, lx9999, jo_32 hW, jo_33 hW, jo_35 hW, jo_40 hW, jo_41 hW, jo_56 hW, jo_97 hW, jo_100 hW, jo_104 hW, jo_106 hW, jo_108 hW, ja_34 hW, ja_36 hW, ja_37 hW, ja_38 hW, ja_39 hW, ja_42 hW, ja_43 hW, ja_44 hW, ja_45 hW, ja_46 hW, ja_98 hW, ja_99 hW, ja_101 hW, ja_102 hW, ja_103 hW, wr_32_0 hW, wr_32_1 hW, wr_32_2 hW, wr_32_3 hW, wr_32_4 hW, wr_32_5 hW, wr_32_6 hW, wr_32_7 hW, wr_32_8 hW, wr_33_0 hW, wr_35_0 hW, wr_35_1 hW, wr_35_2 hW, wr_35_3 hW, wr_35_4 hW, wr_40_0 hW, wr_40_1 hW, wr_40_2 hW, wr_40_3 hW, wr_40_4 hW, wr_41_0 hW, wr_56_0 hW, wr_56_1 hW, wr_97_0 hW, wr_97_1 hW, wr_100_0 hW, wr_100_1 hW, wr_100_2 hW, wr_104_0 hW, wr_106_0 hW, h10, ePe, hj, Option.isSome]
      exact ZR_tr h0 hz0 _ _
    · obtain ⟨h1, rfl⟩ := ixN_some hj
      have e1 : σ.2.1 41 3 = nI (N 8) := hN.2.2.2
      have e2 := hn.2.2.2
      have e3 := x_isUnder hX hb h1 (m := N 8) (by omega)
      by_cases h2 : underC B N (N 8) j = true
      · have e4 := x_nearest hX hb hn h1
        rcases hx : nrO B N j with _ | x
        · rw [hx] at e4
          simp (disch := omega) only [jb_some, jli, jif, jd_q, jd_K0, jpi_s, jpi_l, jpi_p, jpl_s, jpl_i, jpl_p, if_true, if_false, if_pos, if_neg, not_true_eq_false, not_false_eq_true, ite_true, ite_false, Nat.not_lt_zero, eq_self, Nat.le_refl, Nat.lt_irrefl, Bool.false_eq_true, or0, jo_pi, jo_pl, jia_pi, jia_pl, jo_cpy, jia_cpy, cpy_r, m_X11_grant, m_X11_refuse, m_X13_good, m_X13_refused, reduceCtorEq, nI_add, nI_leI, nI_ltI, nI_eq, pk_mul, abs_nI, max_nI, min_nI, nI_m1, nI_m2, nI_le1, m1_lt, m2_lt, and_nI, or_nI, an_nI, has_nI, bit_nI, bc_nI, bits_nI, lx0, lx1, lx2, lx3, lx4, lx5, lx6, lx7, lx8, lx9, lx10, lx11, lx16, lx20, lx40, lx60, lx90, lx99, lx100, lx200, lx900, lx999, lx9999, jo_32 hW, jo_33 hW, jo_35 hW, jo_40 hW, jo_41 hW, jo_56 hW, jo_97 hW, jo_100 hW, jo_104 hW, jo_106 hW, jo_108 hW, ja_34 hW, ja_36 hW, ja_37 hW, ja_38 hW, ja_39 hW, ja_42 hW, ja_43 hW, ja_44 hW, ja_45 hW, ja_46 hW, ja_98 hW, ja_99 hW, ja_101 hW, ja_102 hW, ja_103 hW, wr_32_0 hW, wr_32_1 hW, wr_32_2 hW, wr_32_3 hW, wr_32_4 hW, wr_32_5 hW, wr_32_6 hW, wr_32_7 hW, wr_32_8 hW, wr_33_0 hW, wr_35_0 hW, wr_35_1 hW, wr_35_2 hW, wr_35_3 hW, wr_35_4 hW, wr_40_0 hW, wr_40_1 hW, wr_40_2 hW, wr_40_3 hW, wr_40_4 hW, wr_41_0 hW, wr_56_0 hW, wr_56_1 hW, wr_97_0 hW, wr_97_1 hW, wr_100_0 hW, wr_100_1 hW, wr_100_2 hW, wr_104_0 hW, wr_106_0 hW, h10, ePe, hj, Option.isSome, e1, e3, h2, e4, hx, oI, Option.elim]
          exact ZR_tr h0 hz0 _ _
        · rw [hx] at e4
          obtain ⟨r1, r2, r3⟩ := nr_le hb hn h1 hx
          have e5 := x_reaches hX hb r1 h1
          rw [← r2] at e5
          by_cases h3 : x.2 ≤ B 8 0
          · obtain ⟨σ6, e6, hP6, F6⟩ := x_keep hW hP hN hb2 z1 z2
            have hW6 := Fr_Wd F6 hW
            have hN6 := ScX_fr hN F6 fun a k ha => by unfold DP; omega
            have m6 : σ6.2.1 41 2 = nI (N 7) := hN6.2.2.1
            have e7 := fin_lift _ (nOk7 hb hn) j (by omega)
            have F7 : Fr DK L0 σ (jd_pi σ6 41 2 (nI (N 7 ||| 2 ^ j))) := Fr_pi (Fr_mono F6 (fun a k h => by unfold DP at h; unfold DK; omega) fun _ h => h) (by unfold DK; omega)
            obtain ⟨σ', e8, h8, g8⟩ := XR_act (N' := uN N 7 (N 7 ||| 2 ^ j)) h0 F7 ⟨fun p hp => by
              rw [pi_ne _ _ (by omega), uN_n _ _ (by omega)]
              exact hN6.1 p hp, (pi_ne _ _ (by omega)).trans hN6.2.1, pi_eq _ _ _ _, (pi_ne _ _ (by omega)).trans hN6.2.2.2⟩ (nOk_7 hn (or_pow hn.2.2.1 h1)) (PX_fr hP6 (Fr_pi (D := fun a _ => a = 41) (L := L0) (Fr_refl _) rfl) (fun a k h => by unfold DP at h; omega) (by omega) z2) (by omega) z2
            simp (disch := omega) only [jb_some, jli, jif, jd_q, jd_K0, jpi_s, jpi_l, jpi_p, jpl_s, jpl_i, jpl_p, if_true, if_false, if_pos, if_neg, not_true_eq_false, not_false_eq_true, ite_true, ite_false, Nat.not_lt_zero, eq_self, Nat.le_refl, Nat.lt_irrefl, Bool.false_eq_true, or0, jo_pi, jo_pl, jia_pi, jia_pl, jo_cpy, jia_cpy, cpy_r, m_X11_grant, m_X11_refuse, m_X13_good, m_X13_refused, reduceCtorEq, nI_add, nI_leI, nI_ltI, nI_eq, pk_mul, abs_nI, max_nI, min_nI, nI_m1, nI_m2, nI_le1, m1_lt, m2_lt, and_nI, or_nI, an_nI, has_nI, bit_nI, bc_nI, bits_nI, lx0, lx1, lx2, lx3, lx4, lx5, lx6, lx7, lx8, lx9, lx10, lx11, lx16, lx20, lx40, lx60, lx90, lx99, lx100, lx200, lx900, lx999, lx9999, jo_32 hW, jo_33 hW, jo_35 hW, jo_40 hW, jo_41 hW, jo_56 hW, jo_97 hW, jo_100 hW, jo_104 hW, jo_106 hW, jo_108 hW, ja_34 hW, ja_36 hW, ja_37 hW, ja_38 hW, ja_39 hW, ja_42 hW, ja_43 hW, ja_44 hW, ja_45 hW, ja_46 hW, ja_98 hW, ja_99 hW, ja_101 hW, ja_102 hW, ja_103 hW, wr_32_0 hW, wr_32_1 hW, wr_32_2 hW, wr_32_3 hW, wr_32_4 hW, wr_32_5 hW, wr_32_6 hW, wr_32_7 hW, wr_32_8 hW, wr_33_0 hW, wr_35_0 hW, wr_35_1 hW, wr_35_2 hW, wr_35_3 hW, wr_35_4 hW, wr_40_0 hW, wr_40_1 hW, wr_40_2 hW, wr_40_3 hW, wr_40_4 hW, wr_41_0 hW, wr_56_0 hW, wr_56_1 hW, wr_97_0 hW, wr_97_1 hW, wr_100_0 hW, wr_100_1 hW, wr_100_2 hW, wr_104_0 hW, wr_106_0 hW, h10, ePe, hj, Option.isSome, e1, e3, h2, e4, hx, oI, Option.elim, Nat.not_lt_zero, e5, h3, e6, m6, e7, e8, jo_40 hW6, jo_41 hW6, wr_32_2 hW6, wr_40_0 hW6]
            exact ⟨σ', rfl, h8, g8⟩
          · simp (disch := omega) only [jb_some, jli, jif, jd_q, jd_K0, jpi_s, jpi_l, jpi_p, jpl_s, jpl_i, jpl_p, if_true, if_false, if_pos, if_neg, not_true_eq_false, not_false_eq_true, ite_true, ite_false, Nat.not_lt_zero, eq_self, Nat.le_refl, Nat.lt_irrefl, Bool.false_eq_true, or0, jo_pi, jo_pl, jia_pi, jia_pl, jo_cpy, jia_cpy, cpy_r, m_X11_grant, m_X11_refuse, m_X13_good, m_X13_refused, reduceCtorEq, nI_add, nI_leI, nI_ltI, nI_eq, pk_mul, abs_nI, max_nI, min_nI, nI_m1, nI_m2, nI_le1, m1_lt, m2_lt, and_nI, or_nI, an_nI, has_nI, bit_nI, bc_nI, bits_nI, lx0, lx1, lx2, lx3, lx4, lx5, lx6, lx7, lx8, lx9, lx10, lx11, lx16, lx20, lx40, lx60, lx90, lx99, lx100, lx200, lx900, lx999, lx9999, jo_32 hW, jo_33 hW, jo_35 hW, jo_40 hW, jo_41 hW, jo_56 hW, jo_97 hW, jo_100 hW, jo_104 hW, jo_106 hW, jo_108 hW, ja_34 hW, ja_36 hW, ja_37 hW, ja_38 hW, ja_39 hW, ja_42 hW, ja_43 hW, ja_44 hW, ja_45 hW, ja_46 hW, ja_98 hW, ja_99 hW, ja_101 hW, ja_102 hW, ja_103 hW, wr_32_0 hW, wr_32_1 hW, wr_32_2 hW, wr_32_3 hW, wr_32_4 hW, wr_32_5 hW, wr_32_6 hW, wr_32_7 hW, wr_32_8 hW, wr_33_0 hW, wr_35_0 hW, wr_35_1 hW, wr_35_2 hW, wr_35_3 hW, wr_35_4 hW, wr_40_0 hW, wr_40_1 hW, wr_40_2 hW, wr_40_3 hW, wr_40_4 hW, wr_41_0 hW, wr_56_0 hW, wr_56_1 hW, wr_97_0 hW, wr_97_1 hW, wr_100_0 hW, wr_100_1 hW, wr_100_2 hW, wr_104_0 hW, wr_106_0 hW, h10, ePe, hj, Option.isSome, e1, e3, h2, e4, hx, oI, Option.elim, Nat.not_lt_zero, e5, h3]
            exact ZR_tr h0 hz0 _ _
      · rw [Bool.not_eq_true] at h2
        simp (disch := omega) only [jb_some, jli, jif, jd_q, jd_K0, jpi_s, jpi_l, jpi_p, jpl_s, jpl_i, jpl_p, if_true, if_false, if_pos, if_neg, not_true_eq_false, not_false_eq_true, ite_true, ite_false, Nat.not_lt_zero, eq_self, Nat.le_refl, Nat.lt_irrefl, Bool.false_eq_true, or0, jo_pi, jo_pl, jia_pi, jia_pl, jo_cpy, jia_cpy, cpy_r, m_X11_grant, m_X11_refuse, m_X13_good, m_X13_refused, reduceCtorEq, nI_add, nI_leI, nI_ltI, nI_eq, pk_mul, abs_nI, max_nI, min_nI, nI_m1, nI_m2, nI_le1, m1_lt, m2_lt, and_nI, or_nI, an_nI, has_nI, bit_nI, bc_nI, bits_nI, lx0, lx1, lx2, lx3, lx4, lx5, lx6, lx7, lx8, lx9, lx10, lx11, lx16, lx20, lx40, lx60, lx90, lx99, lx100, lx200, lx900, lx999, lx9999, jo_32 hW, jo_33 hW, jo_35 hW, jo_40 hW, jo_41 hW, jo_56 hW, jo_97 hW, jo_100 hW, jo_104 hW, jo_106 hW, jo_108 hW, ja_34 hW, ja_36 hW, ja_37 hW, ja_38 hW, ja_39 hW, ja_42 hW, ja_43 hW, ja_44 hW, ja_45 hW, ja_46 hW, ja_98 hW, ja_99 hW, ja_101 hW, ja_102 hW, ja_103 hW, wr_32_0 hW, wr_32_1 hW, wr_32_2 hW, wr_32_3 hW, wr_32_4 hW, wr_32_5 hW, wr_32_6 hW, wr_32_7 hW, wr_32_8 hW, wr_33_0 hW, wr_35_0 hW, wr_35_1 hW, wr_35_2 hW, wr_35_3 hW, wr_35_4 hW, wr_40_0 hW, wr_40_1 hW, wr_40_2 hW, wr_40_3 hW, wr_40_4 hW, wr_41_0 hW, wr_56_0 hW, wr_56_1 hW, wr_97_0 hW, wr_97_1 hW, wr_100_0 hW, wr_100_1 hW, wr_100_2 hW, wr_104_0 hW, wr_106_0 hW, h10, ePe, hj, Option.isSome, e1, e3, h2]
        exact ZR_tr h0 hz0 _ _
set_option maxHeartbeats 2000000 in
theorem ZX_undo {z : Zt} {σ : jd_Hp} (h : XR z σ) (hz : HZ z)  : ZR (m_X11_undo 32 σ) (z_undo z) σ := by
  obtain ⟨o, ⟨na, H⟩, ⟨ni, I⟩, ⟨tl, tp⟩, fl, wh, tr⟩ := z
  have h0 := h
  have hz0 := hz
  obtain ⟨T, hT, hS0, hD0, ⟨hW, hR⟩, hP, hTX, f1, f2, f3⟩ := h
  obtain ⟨z1, z2, z3, z4, z5⟩ := hz
  rcases o with _ | ⟨B, N⟩
  · have h10 : σ.2.1 32 10 = nI 0 := hR
    obtain ⟨rfl, rfl⟩ : na = 0 ∧ ni = 0 := z5
    show ZR _ (z_undo (none, (0, H), (0, I), (tl, tp), fl, wh, tr)) σ
    unfold m_X11_undo z_undo
    simp (disch := omega) only [jb_some, jli, jif, jd_q, jd_K0, jpi_s, jpi_l, jpi_p, jpl_s, jpl_i, jpl_p, if_true, if_false, if_pos, if_neg, not_true_eq_false, not_false_eq_true, ite_true, ite_false, Nat.not_lt_zero, eq_self, Nat.le_refl, Nat.lt_irrefl, Bool.false_eq_true, or0, jo_pi, jo_pl, jia_pi, jia_pl, jo_cpy, jia_cpy, cpy_r, m_X11_grant, m_X11_refuse, m_X13_good, m_X13_refused, reduceCtorEq, nI_add, nI_leI, nI_ltI, nI_eq, pk_mul, abs_nI, max_nI, min_nI, nI_m1, nI_m2, nI_le1, m1_lt, m2_lt, or_nI, an_nI, has_nI, bit_nI, bc_nI, bits_nI, lx0, lx1, lx2, lx3, lx4, lx5, lx6, lx7, lx8, lx9, lx10, lx11, lx16, lx20, lx40, lx60, lx90, lx99, lx100, lx200, lx900, lx999, lx9999, jo_32 hW, jo_33 hW, jo_35 hW, jo_40 hW, jo_41 hW, jo_56 hW, jo_97 hW, jo_100 hW, jo_104 hW, jo_106 hW, jo_108 hW, ja_34 hW, ja_36 hW, ja_37 hW, ja_38 hW, ja_39 hW, ja_42 hW, ja_43 hW, ja_44 hW, ja_45 hW, ja_46 hW, ja_98 hW, ja_99 hW, ja_101 hW, ja_102 hW, ja_103 hW, wr_32_0 hW, wr_32_1 hW, wr_32_2 hW, wr_32_3 hW, wr_32_4 hW, wr_32_5 hW, wr_32_6 hW, wr_32_7 hW, wr_32_8 hW, wr_33_0 hW, wr_35_0 hW, wr_35_1 hW, wr_35_2 hW, wr_35_3 hW, wr_35_4 hW, wr_40_0 hW, wr_40_1 hW, wr_40_2 hW, wr_40_3 hW, wr_40_4 hW, wr_41_0 hW, wr_56_0 hW, wr_56_1 hW, wr_97_0 hW, wr_97_1 hW, wr_100_0 hW, wr_100_1 hW, wr_100_2 hW, wr_104_0 hW, wr_106_0 hW, n_01, n_11, m_X11_deny, x_takeBack0 hP]
    exact ZR_tr h0 hz0 _ _
  · obtain ⟨h10, hX, hb, hn, hG⟩ : σ.2.1 32 10 = nI 1 ∧ CX B N T σ ∧ bOk B ∧ nOk B N ∧ SG B σ := hR
    have hb2 := hb.2.1
    have hb3 := hb.2.2.1
    have ePe := x_isPerson hX h10 hb
    have ePo := x_isPost hX h10 hb
    have hN : ScX (B 8 3) N 41 σ := hX.1.2.2.2.2
    have hP : PX (B 8 3) na H ni I σ := hP
    have z5 : (∀ k, k < na → nOk B (H k)) ∧ ∀ i, i < ni → nOk B (I i) := z5
    show ZR _ (z_undo (some (B, N), (na, H), (ni, I), (tl, tp), fl, wh, tr)) σ
    unfold m_X11_undo z_undo
    by_cases h1 : na = 0
    · subst h1
      have e1 := x_takeBack0 hP
      simp (disch := omega) only [jb_some, jli, jif, jd_q, jd_K0, jpi_s, jpi_l, jpi_p, jpl_s, jpl_i, jpl_p, if_true, if_false, if_pos, if_neg, not_true_eq_false, not_false_eq_true, ite_true, ite_false, Nat.not_lt_zero, eq_self, Nat.le_refl, Nat.lt_irrefl, Bool.false_eq_true, or0, jo_pi, jo_pl, jia_pi, jia_pl, jo_cpy, jia_cpy, cpy_r, m_X11_grant, m_X11_refuse, m_X13_good, m_X13_refused, reduceCtorEq, nI_add, nI_leI, nI_ltI, nI_eq, pk_mul, abs_nI, max_nI, min_nI, nI_m1, nI_m2, nI_le1, m1_lt, m2_lt, or_nI, an_nI, has_nI, bit_nI, bc_nI, bits_nI, lx0, lx1, lx2, lx3, lx4, lx5, lx6, lx7, lx8, lx9, lx10, lx11, lx16, lx20, lx40, lx60, lx90, lx99, lx100, lx200, lx900, lx999, lx9999, jo_32 hW, jo_33 hW, jo_35 hW, jo_40 hW, jo_41 hW, jo_56 hW, jo_97 hW, jo_100 hW, jo_104 hW, jo_106 hW, jo_108 hW, ja_34 hW, ja_36 hW, ja_37 hW, ja_38 hW, ja_39 hW, ja_42 hW, ja_43 hW, ja_44 hW, ja_45 hW, ja_46 hW, ja_98 hW, ja_99 hW, ja_101 hW, ja_102 hW, ja_103 hW, wr_32_0 hW, wr_32_1 hW, wr_32_2 hW, wr_32_3 hW, wr_32_4 hW, wr_32_5 hW, wr_32_6 hW, wr_32_7 hW, wr_32_8 hW, wr_33_0 hW, wr_35_0 hW, wr_35_1 hW, wr_35_2 hW, wr_35_3 hW, wr_35_4 hW, wr_40_0 hW, wr_40_1 hW, wr_40_2 hW, wr_40_3 hW, wr_40_4 hW, wr_41_0 hW, wr_56_0 hW, wr_56_1 hW, wr_97_0 hW, wr_97_1 hW, wr_100_0 hW, wr_100_1 hW, wr_100_2 hW, wr_104_0 hW, wr_106_0 hW, n_01, n_11, e1, m_X11_deny]
      exact ZR_tr h0 hz0 _ _
    · obtain ⟨σ3, e3, hP3, hN3, F3⟩ := x_takeBack hW hP hb2 (by omega) z1 z2
      obtain ⟨σ', e8, h8, g8⟩ := XR_act (N' := H 0) h0 F3 hN3 (z5.1 0 (by omega)) hP3 (by omega) z2
      simp (disch := omega) only [jb_some, jli, jif, jd_q, jd_K0, jpi_s, jpi_l, jpi_p, jpl_s, jpl_i, jpl_p, if_true, if_false, if_pos, if_neg, not_true_eq_false, not_false_eq_true, ite_true, ite_false, Nat.not_lt_zero, eq_self, Nat.le_refl, Nat.lt_irrefl, Bool.false_eq_true, or0, jo_pi, jo_pl, jia_pi, jia_pl, jo_cpy, jia_cpy, cpy_r, m_X11_grant, m_X11_refuse, m_X13_good, m_X13_refused, reduceCtorEq, nI_add, nI_leI, nI_ltI, nI_eq, pk_mul, abs_nI, max_nI, min_nI, nI_m1, nI_m2, nI_le1, m1_lt, m2_lt, or_nI, an_nI, has_nI, bit_nI, bc_nI, bits_nI, lx0, lx1, lx2, lx3, lx4, lx5, lx6, lx7, lx8, lx9, lx10, lx11, lx16, lx20, lx40, lx60, lx90, lx99, lx100, lx200, lx900, lx999, lx9999, jo_32 hW, jo_33 hW, jo_35 hW, jo_40 hW, jo_41 hW, jo_56 hW, jo_97 hW, jo_100 hW, jo_104 hW, jo_106 hW, jo_108 hW, ja_34 hW, ja_36 hW, ja_37 hW, ja_38 hW, ja_39 hW, ja_42 hW, ja_43 hW, ja_44 hW, ja_45 hW, ja_46 hW, ja_98 hW, ja_99 hW, ja_101 hW, ja_102 hW, ja_103 hW, wr_32_0 hW, wr_32_1 hW, wr_32_2 hW, wr_32_3 hW, wr_32_4 hW, wr_32_5 hW, wr_32_6 hW, wr_32_7 hW, wr_32_8 hW, wr_33_0 hW, wr_35_0 hW, wr_35_1 hW, wr_35_2 hW, wr_35_3 hW, wr_35_4 hW, wr_40_0 hW, wr_40_1 hW, wr_40_2 hW, wr_40_3 hW, wr_40_4 hW, wr_41_0 hW, wr_56_0 hW, wr_56_1 hW, wr_97_0 hW, wr_97_1 hW, wr_100_0 hW, wr_100_1 hW, wr_100_2 hW, wr_104_0 hW, wr_106_0 hW, n_01, n_11, e3, h1, e8]
      exact ⟨σ', rfl, h8, g8⟩
set_option maxHeartbeats 2000000 in
theorem ZX_image {z : Zt} {σ : jd_Hp} (h : XR z σ) (hz : HZ z)  : ZR (m_X11_image 32 σ) (z_image z) σ := by
  obtain ⟨o, ⟨na, H⟩, ⟨ni, I⟩, ⟨tl, tp⟩, fl, wh, tr⟩ := z
  have h0 := h
  have hz0 := hz
  obtain ⟨T, hT, hS0, hD0, ⟨hW, hR⟩, hP, hTX, f1, f2, f3⟩ := h
  obtain ⟨z1, z2, z3, z4, z5⟩ := hz
  rcases o with _ | ⟨B, N⟩
  · have h10 : σ.2.1 32 10 = nI 0 := hR
    obtain ⟨rfl, rfl⟩ : na = 0 ∧ ni = 0 := z5
    show ZR _ (z_image (none, (0, H), (0, I), (tl, tp), fl, wh, tr)) σ
    unfold m_X11_image z_image
    simp (disch := omega) only [jb_some, jli, jif, jd_q, jd_K0, jpi_s, jpi_l, jpi_p, jpl_s, jpl_i, jpl_p, if_true, if_false, if_pos, if_neg, not_true_eq_false, not_false_eq_true, ite_true, ite_false, Nat.not_lt_zero, eq_self, Nat.le_refl, Nat.lt_irrefl, Bool.false_eq_true, or0, jo_pi, jo_pl, jia_pi, jia_pl, jo_cpy, jia_cpy, cpy_r, m_X11_grant, m_X11_refuse, m_X13_good, m_X13_refused, reduceCtorEq, nI_add, nI_leI, nI_ltI, nI_eq, pk_mul, abs_nI, max_nI, min_nI, nI_m1, nI_m2, nI_le1, m1_lt, m2_lt, or_nI, an_nI, has_nI, bit_nI, bc_nI, bits_nI, lx0, lx1, lx2, lx3, lx4, lx5, lx6, lx7, lx8, lx9, lx10, lx11, lx16, lx20, lx40, lx60, lx90, lx99, lx100, lx200, lx900, lx999, lx9999, jo_32 hW, jo_33 hW, jo_35 hW, jo_40 hW, jo_41 hW, jo_56 hW, jo_97 hW, jo_100 hW, jo_104 hW, jo_106 hW, jo_108 hW, ja_34 hW, ja_36 hW, ja_37 hW, ja_38 hW, ja_39 hW, ja_42 hW, ja_43 hW, ja_44 hW, ja_45 hW, ja_46 hW, ja_98 hW, ja_99 hW, ja_101 hW, ja_102 hW, ja_103 hW, wr_32_0 hW, wr_32_1 hW, wr_32_2 hW, wr_32_3 hW, wr_32_4 hW, wr_32_5 hW, wr_32_6 hW, wr_32_7 hW, wr_32_8 hW, wr_33_0 hW, wr_35_0 hW, wr_35_1 hW, wr_35_2 hW, wr_35_3 hW, wr_35_4 hW, wr_40_0 hW, wr_40_1 hW, wr_40_2 hW, wr_40_3 hW, wr_40_4 hW, wr_41_0 hW, wr_56_0 hW, wr_56_1 hW, wr_97_0 hW, wr_97_1 hW, wr_100_0 hW, wr_100_1 hW, wr_100_2 hW, wr_104_0 hW, wr_106_0 hW, n_01, n_11, h10, m_X11_isPerson, m_X11_isPost, m_X11_deny]
    exact ZR_tr h0 hz0 _ _
  · obtain ⟨h10, hX, hb, hn, hG⟩ : σ.2.1 32 10 = nI 1 ∧ CX B N T σ ∧ bOk B ∧ nOk B N ∧ SG B σ := hR
    have hb2 := hb.2.1
    have hb3 := hb.2.2.1
    have ePe := x_isPerson hX h10 hb
    have ePo := x_isPost hX h10 hb
    have hN : ScX (B 8 3) N 41 σ := hX.1.2.2.2.2
    have hP : PX (B 8 3) na H ni I σ := hP
    have z5 : (∀ k, k < na → nOk B (H k)) ∧ ∀ i, i < ni → nOk B (I i) := z5
    show ZR _ (z_image (some (B, N), (na, H), (ni, I), (tl, tp), fl, wh, tr)) σ
    unfold m_X11_image z_image
    have e4 : σ.2.1 56 4 = nI ni := by
      obtain ⟨nw, w1, w2, w3, w4, -⟩ := hP
      exact w4
    by_cases h1 : ni < 3
    · obtain ⟨σ3, e3, hP3, F3⟩ := x_keepImage hW hP hN hb2 z1 h1
      simp (disch := omega) only [jb_some, jli, jif, jd_q, jd_K0, jpi_s, jpi_l, jpi_p, jpl_s, jpl_i, jpl_p, if_true, if_false, if_pos, if_neg, not_true_eq_false, not_false_eq_true, ite_true, ite_false, Nat.not_lt_zero, eq_self, Nat.le_refl, Nat.lt_irrefl, Bool.false_eq_true, or0, jo_pi, jo_pl, jia_pi, jia_pl, jo_cpy, jia_cpy, cpy_r, m_X11_grant, m_X11_refuse, m_X13_good, m_X13_refused, reduceCtorEq, nI_add, nI_leI, nI_ltI, nI_eq, pk_mul, abs_nI, max_nI, min_nI, nI_m1, nI_m2, nI_le1, m1_lt, m2_lt, and_nI, or_nI, an_nI, has_nI, bit_nI, bc_nI, bits_nI, lx0, lx1, lx2, lx3, lx4, lx5, lx6, lx7, lx8, lx9, lx10, lx11, lx16, lx20, lx40, lx60, lx90, lx99, lx100, lx200, lx900, lx999, lx9999, jo_32 hW, jo_33 hW, jo_35 hW, jo_40 hW, jo_41 hW, jo_56 hW, jo_97 hW, jo_100 hW, jo_104 hW, jo_106 hW, jo_108 hW, ja_34 hW, ja_36 hW, ja_37 hW, ja_38 hW, ja_39 hW, ja_42 hW, ja_43 hW, ja_44 hW, ja_45 hW, ja_46 hW, ja_98 hW, ja_99 hW, ja_101 hW, ja_102 hW, ja_103 hW, wr_32_0 hW, wr_32_1 hW, wr_32_2 hW, wr_32_3 hW, wr_32_4 hW, wr_32_5 hW, wr_32_6 hW, wr_32_7 hW, wr_32_8 hW, wr_33_0 hW, wr_35_0 hW, wr_35_1 hW, wr_35_2 hW, wr_35_3 hW, wr_35_4 hW, wr_40_0 hW, wr_40_1 hW, wr_40_2 hW, wr_40_3 hW, wr_40_4 hW, wr_41_0 hW, wr_56_0 hW, wr_56_1 hW, wr_97_0 hW, wr_97_1 hW, wr_100_0 hW, wr_100_1 hW, wr_100_2 hW, wr_104_0 hW, wr_106_0 hW, h10, e4, h1, e3]
      have F4 : Fr (fun a k => DP a k ∨ a = 32 ∧ k = 11) L0 σ (jd_pi σ3 32 11 (nI 0)) := Fr_pi (Fr_mono F3 (fun a k h => Or.inl h) fun _ h => h) (Or.inr ⟨rfl, rfl⟩)
      have g : ∀ a k, ¬ (DP a k ∨ a = 32 ∧ k = 11) → (jd_pi σ3 32 11 (nI 0)).2.1 a k = σ.2.1 a k := F4.2.2.1
      have r4 : (jd_pi σ3 32 11 (nI 0)).2.2.2 = σ.2.2.2 := F4.2.1
      refine ⟨_, rfl, ⟨T, hT, by rw [r4]; exact hS0, by rw [r4]; exact hD0, ⟨Fr_Wd F4 hW, ?_, ⟨⟨Fr_Wd F4 hW, hT, by rw [r4]; exact hS0, CT_of hX.1.2.2.2.1 fun a k h1 h2 => g a k (by unfold DP; omega), CN_of hX.1.2.2.2.2 fun a k h1 => g a k (by unfold DP; omega)⟩, fun p hp => (g _ _ (by unfold DP; omega)).trans (hX.2.1 p hp), fun p hp => (g _ _ (by unfold DP; omega)).trans (hX.2.2.1 p hp), fun p hp => (g _ _ (by unfold DP; omega)).trans (hX.2.2.2.1 p hp), (g _ _ (by unfold DP; omega)).trans hX.2.2.2.2.1, (g _ _ (by unfold DP; omega)).trans hX.2.2.2.2.2⟩, hb, hn, SG_fr hG F4 (fun k => by unfold DP; omega) (by unfold L0; exact id) (by unfold L0; exact id)⟩, PX_fr hP3 (Fr_pi (D := fun a _ => a = 32) (L := L0) (Fr_refl _) rfl) (fun a k h => by unfold DP at h; omega) z1 (by omega), ⟨(g _ _ (by unfold DP; omega)).trans hTX.1, fun k hk => (g _ _ (by unfold DP; omega)).trans (hTX.2 k hk)⟩, (g _ _ (by unfold DP; omega)).trans f1, (g _ _ (by unfold DP; omega)).trans f2, pi_eq _ _ _ _⟩, GX_fr F4 (fun a k h => by unfold DP at h; omega) fun a h => absurd h id⟩
      · exact (g _ _ (by unfold DP; omega)).trans h10
    · simp (disch := omega) only [jb_some, jli, jif, jd_q, jd_K0, jpi_s, jpi_l, jpi_p, jpl_s, jpl_i, jpl_p, if_true, if_false, if_pos, if_neg, not_true_eq_false, not_false_eq_true, ite_true, ite_false, Nat.not_lt_zero, eq_self, Nat.le_refl, Nat.lt_irrefl, Bool.false_eq_true, or0, jo_pi, jo_pl, jia_pi, jia_pl, jo_cpy, jia_cpy, cpy_r, m_X11_grant, m_X11_refuse, m_X13_good, m_X13_refused, reduceCtorEq, nI_add, nI_leI, nI_ltI, nI_eq, pk_mul, abs_nI, max_nI, min_nI, nI_m1, nI_m2, nI_le1, m1_lt, m2_lt, and_nI, or_nI, an_nI, has_nI, bit_nI, bc_nI, bits_nI, lx0, lx1, lx2, lx3, lx4, lx5, lx6, lx7, lx8, lx9, lx10, lx11, lx16, lx20, lx40, lx60, lx90, lx99, lx100, lx200, lx900, lx999, lx9999, jo_32 hW, jo_33 hW, jo_35 hW, jo_40 hW, jo_41 hW, jo_56 hW, jo_97 hW, jo_100 hW, jo_104 hW, jo_106 hW, jo_108 hW, ja_34 hW, ja_36 hW, ja_37 hW, ja_38 hW, ja_39 hW, ja_42 hW, ja_43 hW, ja_44 hW, ja_45 hW, ja_46 hW, ja_98 hW, ja_99 hW, ja_101 hW, ja_102 hW, ja_103 hW, wr_32_0 hW, wr_32_1 hW, wr_32_2 hW, wr_32_3 hW, wr_32_4 hW, wr_32_5 hW, wr_32_6 hW, wr_32_7 hW, wr_32_8 hW, wr_33_0 hW, wr_35_0 hW, wr_35_1 hW, wr_35_2 hW, wr_35_3 hW, wr_35_4 hW, wr_40_0 hW, wr_40_1 hW, wr_40_2 hW, wr_40_3 hW, wr_40_4 hW, wr_41_0 hW, wr_56_0 hW, wr_56_1 hW, wr_97_0 hW, wr_97_1 hW, wr_100_0 hW, wr_100_1 hW, wr_100_2 hW, wr_104_0 hW, wr_106_0 hW, h10, e4, h1]
      exact ZR_tr h0 hz0 _ _
set_option maxHeartbeats 2000000 in
theorem ZX_back {z : Zt} {σ : jd_Hp} (h : XR z σ) (hz : HZ z) (i : Int32) : ZR (m_X11_back 32 i σ) (z_back z i) σ := by
  obtain ⟨o, ⟨na, H⟩, ⟨ni, I⟩, ⟨tl, tp⟩, fl, wh, tr⟩ := z
  have h0 := h
  have hz0 := hz
  obtain ⟨T, hT, hS0, hD0, ⟨hW, hR⟩, hP, hTX, f1, f2, f3⟩ := h
  obtain ⟨z1, z2, z3, z4, z5⟩ := hz
  rcases o with _ | ⟨B, N⟩
  · have h10 : σ.2.1 32 10 = nI 0 := hR
    obtain ⟨rfl, rfl⟩ : na = 0 ∧ ni = 0 := z5
    show ZR _ (z_back (none, (0, H), (0, I), (tl, tp), fl, wh, tr) i) σ
    unfold m_X11_back z_back
    simp (disch := omega) only [jb_some, jli, jif, jd_q, jd_K0, jpi_s, jpi_l, jpi_p, jpl_s, jpl_i, jpl_p, if_true, if_false, if_pos, if_neg, not_true_eq_false, not_false_eq_true, ite_true, ite_false, Nat.not_lt_zero, eq_self, Nat.le_refl, Nat.lt_irrefl, Bool.false_eq_true, or0, jo_pi, jo_pl, jia_pi, jia_pl, jo_cpy, jia_cpy, cpy_r, m_X11_grant, m_X11_refuse, m_X13_good, m_X13_refused, reduceCtorEq, nI_add, nI_leI, nI_ltI, nI_eq, pk_mul, abs_nI, max_nI, min_nI, nI_m1, nI_m2, nI_le1, m1_lt, m2_lt, or_nI, an_nI, has_nI, bit_nI, bc_nI, bits_nI, lx0, lx1, lx2, lx3, lx4, lx5, lx6, lx7, lx8, lx9, lx10, lx11, lx16, lx20, lx40, lx60, lx90, lx99, lx100, lx200, lx900, lx999, lx9999, jo_32 hW, jo_33 hW, jo_35 hW, jo_40 hW, jo_41 hW, jo_56 hW, jo_97 hW, jo_100 hW, jo_104 hW, jo_106 hW, jo_108 hW, ja_34 hW, ja_36 hW, ja_37 hW, ja_38 hW, ja_39 hW, ja_42 hW, ja_43 hW, ja_44 hW, ja_45 hW, ja_46 hW, ja_98 hW, ja_99 hW, ja_101 hW, ja_102 hW, ja_103 hW, wr_32_0 hW, wr_32_1 hW, wr_32_2 hW, wr_32_3 hW, wr_32_4 hW, wr_32_5 hW, wr_32_6 hW, wr_32_7 hW, wr_32_8 hW, wr_33_0 hW, wr_35_0 hW, wr_35_1 hW, wr_35_2 hW, wr_35_3 hW, wr_35_4 hW, wr_40_0 hW, wr_40_1 hW, wr_40_2 hW, wr_40_3 hW, wr_40_4 hW, wr_41_0 hW, wr_56_0 hW, wr_56_1 hW, wr_97_0 hW, wr_97_1 hW, wr_100_0 hW, wr_100_1 hW, wr_100_2 hW, wr_104_0 hW, wr_106_0 hW, n_01, n_11, m_X11_deny, x_bringBack0 hP (by decide) (ixN_0 i)]
    exact ZR_tr h0 hz0 _ _
  · obtain ⟨h10, hX, hb, hn, hG⟩ : σ.2.1 32 10 = nI 1 ∧ CX B N T σ ∧ bOk B ∧ nOk B N ∧ SG B σ := hR
    have hb2 := hb.2.1
    have hb3 := hb.2.2.1
    have ePe := x_isPerson hX h10 hb
    have ePo := x_isPost hX h10 hb
    have hN : ScX (B 8 3) N 41 σ := hX.1.2.2.2.2
    have hP : PX (B 8 3) na H ni I σ := hP
    have z5 : (∀ k, k < na → nOk B (H k)) ∧ ∀ i, i < ni → nOk B (I i) := z5
    show ZR _ (z_back (some (B, N), (na, H), (ni, I), (tl, tp), fl, wh, tr) i) σ
    unfold m_X11_back z_back
    rcases hj : ixN i ni with _ | j
    · have e1 := x_bringBack0 hP z2 hj
      simp (disch := omega) only [jb_some, jli, jif, jd_q, jd_K0, jpi_s, jpi_l, jpi_p, jpl_s, jpl_i, jpl_p, if_true, if_false, if_pos, if_neg, not_true_eq_false, not_false_eq_true, ite_true, ite_false, Nat.not_lt_zero, eq_self, Nat.le_refl, Nat.lt_irrefl, Bool.false_eq_true, or0, jo_pi, jo_pl, jia_pi, jia_pl, jo_cpy, jia_cpy, cpy_r, m_X11_grant, m_X11_refuse, m_X13_good, m_X13_refused, reduceCtorEq, nI_add, nI_leI, nI_ltI, nI_eq, pk_mul, abs_nI, max_nI, min_nI, nI_m1, nI_m2, nI_le1, m1_lt, m2_lt, or_nI, an_nI, has_nI, bit_nI, bc_nI, bits_nI, lx0, lx1, lx2, lx3, lx4, lx5, lx6, lx7, lx8, lx9, lx10, lx11, lx16, lx20, lx40, lx60, lx90, lx99, lx100, lx200, lx900, lx999, lx9999, jo_32 hW, jo_33 hW, jo_35 hW, jo_40 hW, jo_41 hW, jo_56 hW, jo_97 hW, jo_100 hW, jo_104 hW, jo_106 hW, jo_108 hW, ja_34 hW, ja_36 hW, ja_37 hW, ja_38 hW, ja_39 hW, ja_42 hW, ja_43 hW, ja_44 hW, ja_45 hW, ja_46 hW, ja_98 hW, ja_99 hW, ja_101 hW, ja_102 hW, ja_103 hW, wr_32_0 hW, wr_32_1 hW, wr_32_2 hW, wr_32_3 hW, wr_32_4 hW, wr_32_5 hW, wr_32_6 hW, wr_32_7 hW, wr_32_8 hW, wr_33_0 hW, wr_35_0 hW, wr_35_1 hW, wr_35_2 hW, wr_35_3 hW, wr_35_4 hW, wr_40_0 hW, wr_40_1 hW, wr_40_2 hW, wr_40_3 hW, wr_40_4 hW, wr_41_0 hW, wr_56_0 hW, wr_56_1 hW, wr_97_0 hW, wr_97_1 hW, wr_100_0 hW, wr_100_1 hW, wr_100_2 hW, wr_104_0 hW, wr_106_0 hW, n_01, n_11, e1, m_X11_deny]
      exact ZR_tr h0 hz0 _ _
    · obtain ⟨h1, rfl⟩ := ixN_some hj
      obtain ⟨σ3, e3, hP3, hN3, F3⟩ := x_bringBack hW hP hb2 z1 z2 h1
      obtain ⟨σ', e8, h8, g8⟩ := XR_act (N' := I j) h0 F3 hN3 (z5.2 j h1) hP3 (by omega) z2
      simp (disch := omega) only [jb_some, jli, jif, jd_q, jd_K0, jpi_s, jpi_l, jpi_p, jpl_s, jpl_i, jpl_p, if_true, if_false, if_pos, if_neg, not_true_eq_false, not_false_eq_true, ite_true, ite_false, Nat.not_lt_zero, eq_self, Nat.le_refl, Nat.lt_irrefl, Bool.false_eq_true, or0, jo_pi, jo_pl, jia_pi, jia_pl, jo_cpy, jia_cpy, cpy_r, m_X11_grant, m_X11_refuse, m_X13_good, m_X13_refused, reduceCtorEq, nI_add, nI_leI, nI_ltI, nI_eq, pk_mul, abs_nI, max_nI, min_nI, nI_m1, nI_m2, nI_le1, m1_lt, m2_lt, or_nI, an_nI, has_nI, bit_nI, bc_nI, bits_nI, lx0, lx1, lx2, lx3, lx4, lx5, lx6, lx7, lx8, lx9, lx10, lx11, lx16, lx20, lx40, lx60, lx90, lx99, lx100, lx200, lx900, lx999, lx9999, jo_32 hW, jo_33 hW, jo_35 hW, jo_40 hW, jo_41 hW, jo_56 hW, jo_97 hW, jo_100 hW, jo_104 hW, jo_106 hW, jo_108 hW, ja_34 hW, ja_36 hW, ja_37 hW, ja_38 hW, ja_39 hW, ja_42 hW, ja_43 hW, ja_44 hW, ja_45 hW, ja_46 hW, ja_98 hW, ja_99 hW, ja_101 hW, ja_102 hW, ja_103 hW, wr_32_0 hW, wr_32_1 hW, wr_32_2 hW, wr_32_3 hW, wr_32_4 hW, wr_32_5 hW, wr_32_6 hW, wr_32_7 hW, wr_32_8 hW, wr_33_0 hW, wr_35_0 hW, wr_35_1 hW, wr_35_2 hW, wr_35_3 hW, wr_35_4 hW, wr_40_0 hW, wr_40_1 hW, wr_40_2 hW, wr_40_3 hW, wr_40_4 hW, wr_41_0 hW, wr_56_0 hW, wr_56_1 hW, wr_97_0 hW, wr_97_1 hW, wr_100_0 hW, wr_100_1 hW, wr_100_2 hW, wr_104_0 hW, wr_106_0 hW, n_01, n_11, e3, e8]
      exact ⟨σ', rfl, h8, g8⟩
