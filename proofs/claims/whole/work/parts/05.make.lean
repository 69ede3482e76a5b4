/-! JD (5): making cells, calls, ends, loops -/
def jd_cr (own : String) (idx ci N : Nat) : Prop := ∃ (C : String) (T : u_T), jd_cl[ci]? = some (C, T, N) ∧ ci < 14 ∧ Cond.classLink own idx C ∈ jd_TB ∧ Cond.instantiable C N ∈ jd_TB ∧ Cond.initialized C ∈ jd_TB
theorem jd_e_new {G : jd_G} {σ : jd_Hp} {x : Nat × Nat} (b : Nat) (y : Nat × Nat) (h : b ≠ σ.1.length) : jd_e G (jd_new σ x) b y = jd_e G σ b y := by
  have e1 : (jd_new σ x).2.1 b = σ.2.1 b := jd_0_ne h
  have e2 : (jd_new σ x).2.2.1 b = σ.2.2.1 b := jd_0_ne h
  have e3 : (jd_new σ x).2.2.2 b = σ.2.2.2 b := jd_0_ne h
  simp only [jd_e, jd_fs, jd_fv, e1, e2, e3]
theorem jd_H.new {G : jd_G} {s0 : State} (hF : jd_F s0 G) {σ : jd_Hp} {H H1 : Heap} (h : jd_H G σ H) {x : Nat × Nat} {e : va_E} (he : jd_e G (jd_new σ x) σ.1.length x = some e) (hat : va_at G.2.1 jd_cl (H.size, e) H1) (hz : H1.size = H.size + 1) (ho : ∀ q : Nat, q < H.size → H1[q]? = H[q]?) : jd_H G (jd_new σ x) H1 := by
  have hl : (jd_new σ x).1.length = σ.1.length + 1 := by simp [jd_new]
  refine ⟨by rw [hl]; have := h.1; omega, by rw [hl, hz]; have := h.2.1; omega, fun a y ha hy => ?_, fun a y ea hy hye => ?_⟩
  · have : σ.1[a]? = some y := by
      have h1 : (σ.1 ++ [x])[a]? = some y := hy
      rwa [List.getElem?_append_left (by have := h.1; omega)] at h1
    exact h.2.2.1 a y ha this
  · have h1 : (σ.1 ++ [x])[a]? = some y := hy
    by_cases hlt : a < σ.1.length
    · rw [List.getElem?_append_left hlt] at h1
      rw [jd_e_new a y (by omega)] at hye
      have := h.2.2.2 a y ea h1 hye
      exact this.kept (ho _ this.lt)
    · rw [List.getElem?_append_right (by omega)] at h1
      have hz0 : a - σ.1.length < 1 := (List.getElem?_eq_some_iff.mp h1).1
      have ea' : a = σ.1.length := by omega
      subst ea'
      rw [Nat.sub_self] at h1
      cases h1
      cases he.symm.trans hye
      have hA : G.2.2.1 σ.1.length = H.size := by
        have h1 : G.2.2.1 σ.1.length + 32 = G.1 + σ.1.length := hF.2.2.1 σ.1.length h.1
        have h2 : H.size + 32 = G.1 + σ.1.length := h.2.1
        omega
      rw [hA]
      exact hat
theorem jd_v_new {G : jd_G} {s0 : State} (hF : jd_F s0 G) {σ : jd_Hp} {H : Heap} (h : jd_H G σ H) : jd_v G (some σ.1.length) = .ref H.size := by
  have h1 : G.2.2.1 σ.1.length + 32 = G.1 + σ.1.length := hF.2.2.1 σ.1.length h.1
  have h2 : H.size + 32 = G.1 + σ.1.length := h.2.1
  have h3 : G.2.2.1 σ.1.length = H.size := by omega
  show Value.ref (G.2.2.1 σ.1.length) = _
  rw [h3]
def jd_dp (X : jd_X) : Nat := X.2.2.2.2.2.2.2.2.2.2.2.1
theorem jd_z_new (σ : jd_Hp) (x : Nat × Nat) : jd_z (jd_new σ x) = jd_z σ + x.2 := by simp [jd_z, jd_new]
theorem jd_nf (ci j : Nat) {C : String} {T : u_T} {N : Nat} (hc : jd_cl[ci]? = some (C, T, N)) (hj : j < N) : (match jd_ty ci j with | .float => false | .double => false | _ => true) = true := by
  match ci, hc with
  | 0, hc => cases hc; revert j; decide
  | 1, hc => cases hc; revert j; decide
  | 2, hc => cases hc; revert j; decide
  | 3, hc => cases hc; revert j; decide
  | 4, hc => cases hc; revert j; decide
  | 5, hc => cases hc; revert j; decide
  | 6, hc => cases hc; revert j; decide
  | 7, hc => cases hc; revert j; decide
  | 8, hc => cases hc; revert j; decide
  | 9, hc => cases hc; revert j; decide
  | 10, hc => cases hc; revert j; decide
  | 11, hc => cases hc; revert j; decide
  | 12, hc => cases hc; revert j; decide
  | 13, hc => cases hc; revert j; decide
  | n + 14, hc => simp [jd_cl] at hc
section JD5
variable {R τ : Type} {X : jd_X} {emb : R → Option Value} {own nm : String} {cc : ByteArray} {nL : Nat} {ret : Option FieldType} {pc : Nat} {lv : List (Option Value)} {st : List Value} {σ : jd_Hp} {cm : Option (R × jd_Hp)} {K : τ → jd_Hp → Option (R × jd_Hp)}
/-- an instruction that makes a cell -/
theorem jd_mkc {pc' : Nat} {st' : List Value} {x : Nat × Nat} (h : match X with
  | (p, l, e, s, m, args, below, meth, c, _, G, d, mc, ms) => ∀ (ls : Array Slot) (H : Heap) (locs : List Loc) (cells slots : Nat) (Q : State → Prop), jd_H G σ H → cells + 1 ≤ mc → slots + x.2 ≤ ms → (∀ (H1 : Heap), jd_H G (jd_new σ x) H1 → H1.size = H.size + 1 → (∀ q : Nat, q < H.size → H1[q]? = H[q]?) → W p l e (jd_rm d mc ms) s m args below meth c H1 locs (cells + 1) (slots + x.2) Q (F0 m pc' ls st')) → W p l e (jd_rm d mc ms) s m args below meth c H locs cells slots Q (F0 m pc ls st)) (k : jd_S X emb pc' lv st' (jd_new σ x) cm) : jd_S X emb pc lv st σ cm := by
  obtain ⟨p, l, e, s, m, args, below, meth, c, s0, G, d, mc, ms⟩ := X
  intro v σ' hv
  obtain ⟨h1, h2⟩ := k v σ' hv
  have hl : (jd_new σ x).1.length = σ.1.length + 1 := by simp [jd_new]
  have l1 := h1.len
  have z1 := h1.z
  rw [hl] at l1
  rw [jd_z_new] at z1
  refine ⟨(jd_p.new σ x).tr h1, fun ls H locs cells slots a b cS d f => h ls H locs cells slots _ b (by omega) (by omega) (fun H1 b1 zz o1 => h2 ls H1 locs (cells + 1) (slots + x.2) a b1 ?_ (by rw [hl]; omega) (by rw [jd_z_new]; omega))⟩
  refine ⟨by rw [zz]; have := cS.1; omega, fun q g1 g2 => ?_, cS.2.2⟩
  rw [o1 q (Nat.lt_of_lt_of_le g1 cS.1)]
  exact cS.2.1 q g1 g2
theorem jr_new (hX : jd_C X own nm cc nL ret) {idx ci N : Nat} (hf : jd_cr own idx ci N) (hd : decode cc pc = .ok (.new idx, 3)) (k : jd_S X emb (pc + 3) lv (jd_v (jd_gG X) (some σ.1.length) :: st) (jd_new σ (ci, N)) cm) : jd_S X emb pc lv st σ cm := by
  obtain ⟨p, l, e, s, m, args, below, meth, c, s0, G, d, mc, ms⟩ := X
  have hts : ∀ w ∈ jd_TB, w.before args s = true := jd_words hX
  obtain ⟨hx, hb, -, hown, -, -, -, hW, -, -, hF⟩ := hX
  refine jd_mkc (fun ls H locs cells slots Q hH hc1 hs1 w => ?_) k
  have hK : va_K G.2.1 jd_cl (jd_tys G) s := hF.2.1.moved hW.alike
  obtain ⟨C, T, hc, h14, w1, w2, w3⟩ := hf
  obtain ⟨lay1, lay2, lay3⟩ := jd_lay hc
  have hKn := hK.1 ci _ hc
  refine W.newcK hx hb hown (hts _ w1) (hts _ w2) (hts _ w3) rfl hd hc1 hs1 hKn.2.1 rfl fun H1 kC hkC e1 z1 o1 => ?_
  have key := w H1 (hH.new hF (jd_e_ob h14) ⟨_, hc, (u_born (jd_ty ci) hts lay1 hKn hkC e1 lay2).to (fun j hj => ?_)⟩ z1 o1) z1 o1
  · have : jd_v G (some σ.1.length) = .ref H.size := jd_v_new hF hH
    rw [show jd_v (jd_gG (p, l, e, s, m, args, below, meth, c, s0, G, d, mc, ms)) (some σ.1.length) = .ref H.size from this] at key
    exact key
  · show _ = vp_V (jd_fs G (jd_new σ (ci, N)) σ.1.length ci N) j
    rw [vp_V, List.getD_eq_getElem?_getD, jd_fs_get hj]
    have e1 : (jd_new σ (ci, N)).2.1 σ.1.length j = 0 := by simp [jd_new, jd_0]
    have e2 : (jd_new σ (ci, N)).2.2.1 σ.1.length j = 0 := by simp [jd_new, jd_0]
    have e3 : (jd_new σ (ci, N)).2.2.2 σ.1.length j = none := by simp [jd_new, jd_0]
    have hnf := jd_nf ci j hc hj
    revert hnf
    simp only [jd_fv, e1, e2, e3, Option.getD_some]
    cases jd_ty ci j <;> intro hnf <;> first | rfl | (simp at hnf)

theorem jr_newai (hX : jd_C X own nm cc nL ret) {n : Int32} (N' : Nat) (hn : ¬ n < 0) (hN : n.toNatClampNeg = N') (hbytes : N' * componentBytes .int ≤ 536870912) (hw : Cond.arrayClass .int ∈ jd_TB) (hd : decode cc pc = .ok (.newarray .int, 2)) (k : jd_S X emb (pc + 2) lv (jd_v (jd_gG X) (some σ.1.length) :: st) (jd_new σ (20, N')) cm) : jd_S X emb pc lv (.int n :: st) σ cm := by
  obtain ⟨p, l, e, s, m, args, below, meth, c, s0, G, d, mc, ms⟩ := X
  have hts : ∀ w ∈ jd_TB, w.before args s = true := jd_words hX
  obtain ⟨hx, hb, -, hown, -, -, -, hW, -, -, hF⟩ := hX
  refine jd_mkc (fun ls H locs cells slots Q hH hc1 hs1 w => ?_) k
  have hK : va_K G.2.1 jd_cl (jd_tys G) s := hF.2.1.moved hW.alike
  refine va_newaK (atype := .int) hx hb (hts _ hw) rfl hd rfl hn hN hbytes hc1 hs1 rfl fun H1 cA e1 z1 o1 hAr hNm => ?_
  have hcA : cA = G.2.2.2 0 := Option.some.inj (hNm.symm.trans (hK.2 0 _ rfl).2)
  subst hcA
  have key := w H1 (hH.new hF rfl ?_ z1 o1) z1 o1
  · have : jd_v G (some σ.1.length) = .ref H.size := jd_v_new hF hH
    rw [show jd_v (jd_gG (p, l, e, s, m, args, below, meth, c, s0, G, d, mc, ms)) (some σ.1.length) = .ref H.size from this] at key
    exact key
  · show H1[H.size]? = some (vp_cell _ _)
    rw [e1]
    have : (fun j => (jd_new σ (20, N')).2.1 σ.1.length j) = fun _ => 0 := by
      funext j
      simp [jd_new, jd_0]
    refine congrArg some ?_
    show _ = vp_cell (G.2.2.2 0) (N', .inl (fun j => (jd_new σ (20, N')).2.1 σ.1.length j))
    rw [this]
    rfl
theorem jr_newab (hX : jd_C X own nm cc nL ret) {n : Int32} (N' : Nat) (hn : ¬ n < 0) (hN : n.toNatClampNeg = N') (hbytes : N' * componentBytes .byte ≤ 536870912) (hw : Cond.arrayClass .byte ∈ jd_TB) (hd : decode cc pc = .ok (.newarray .byte, 2)) (k : jd_S X emb (pc + 2) lv (jd_v (jd_gG X) (some σ.1.length) :: st) (jd_new σ (21, N')) cm) : jd_S X emb pc lv (.int n :: st) σ cm := by
  obtain ⟨p, l, e, s, m, args, below, meth, c, s0, G, d, mc, ms⟩ := X
  have hts : ∀ w ∈ jd_TB, w.before args s = true := jd_words hX
  obtain ⟨hx, hb, -, hown, -, -, -, hW, -, -, hF⟩ := hX
  refine jd_mkc (fun ls H locs cells slots Q hH hc1 hs1 w => ?_) k
  have hK : va_K G.2.1 jd_cl (jd_tys G) s := hF.2.1.moved hW.alike
  refine va_newaK (atype := .byte) hx hb (hts _ hw) rfl hd rfl hn hN hbytes hc1 hs1 rfl fun H1 cA e1 z1 o1 hAr hNm => ?_
  have hcA : cA = G.2.2.2 1 := Option.some.inj (hNm.symm.trans (hK.2 1 _ rfl).2)
  subst hcA
  have key := w H1 (hH.new hF rfl ?_ z1 o1) z1 o1
  · have : jd_v G (some σ.1.length) = .ref H.size := jd_v_new hF hH
    rw [show jd_v (jd_gG (p, l, e, s, m, args, below, meth, c, s0, G, d, mc, ms)) (some σ.1.length) = .ref H.size from this] at key
    exact key
  · show H1[H.size]? = some (vp_cell _ _)
    rw [e1]
    have : (fun j => (jd_new σ (21, N')).2.1 σ.1.length j) = fun _ => 0 := by
      funext j
      simp [jd_new, jd_0]
    refine congrArg some ?_
    show _ = vp_cell (G.2.2.2 1) (N', .inl (fun j => (jd_new σ (21, N')).2.1 σ.1.length j))
    rw [this]
    rfl
theorem jr_newaz (hX : jd_C X own nm cc nL ret) {n : Int32} (N' : Nat) (hn : ¬ n < 0) (hN : n.toNatClampNeg = N') (hbytes : N' * componentBytes .boolean ≤ 536870912) (hw : Cond.arrayClass .boolean ∈ jd_TB) (hd : decode cc pc = .ok (.newarray .boolean, 2)) (k : jd_S X emb (pc + 2) lv (jd_v (jd_gG X) (some σ.1.length) :: st) (jd_new σ (22, N')) cm) : jd_S X emb pc lv (.int n :: st) σ cm := by
  obtain ⟨p, l, e, s, m, args, below, meth, c, s0, G, d, mc, ms⟩ := X
  have hts : ∀ w ∈ jd_TB, w.before args s = true := jd_words hX
  obtain ⟨hx, hb, -, hown, -, -, -, hW, -, -, hF⟩ := hX
  refine jd_mkc (fun ls H locs cells slots Q hH hc1 hs1 w => ?_) k
  have hK : va_K G.2.1 jd_cl (jd_tys G) s := hF.2.1.moved hW.alike
  refine va_newaK (atype := .boolean) hx hb (hts _ hw) rfl hd rfl hn hN hbytes hc1 hs1 rfl fun H1 cA e1 z1 o1 hAr hNm => ?_
  have hcA : cA = G.2.2.2 2 := Option.some.inj (hNm.symm.trans (hK.2 2 _ rfl).2)
  subst hcA
  have key := w H1 (hH.new hF rfl ?_ z1 o1) z1 o1
  · have : jd_v G (some σ.1.length) = .ref H.size := jd_v_new hF hH
    rw [show jd_v (jd_gG (p, l, e, s, m, args, below, meth, c, s0, G, d, mc, ms)) (some σ.1.length) = .ref H.size from this] at key
    exact key
  · show H1[H.size]? = some (vp_cell _ _)
    rw [e1]
    have : (fun j => (jd_new σ (22, N')).2.1 σ.1.length j) = fun _ => 0 := by
      funext j
      simp [jd_new, jd_0]
    refine congrArg some ?_
    show _ = vp_cell (G.2.2.2 2) (N', .inl (fun j => (jd_new σ (22, N')).2.1 σ.1.length j))
    rw [this]
    rfl
theorem jr_newal (hX : jd_C X own nm cc nL ret) {n : Int32} (N' : Nat) (hn : ¬ n < 0) (hN : n.toNatClampNeg = N') (hbytes : N' * componentBytes .long ≤ 536870912) (hw : Cond.arrayClass .long ∈ jd_TB) (hd : decode cc pc = .ok (.newarray .long, 2)) (k : jd_S X emb (pc + 2) lv (jd_v (jd_gG X) (some σ.1.length) :: st) (jd_new σ (23, N')) cm) : jd_S X emb pc lv (.int n :: st) σ cm := by
  obtain ⟨p, l, e, s, m, args, below, meth, c, s0, G, d, mc, ms⟩ := X
  have hts : ∀ w ∈ jd_TB, w.before args s = true := jd_words hX
  obtain ⟨hx, hb, -, hown, -, -, -, hW, -, -, hF⟩ := hX
  refine jd_mkc (fun ls H locs cells slots Q hH hc1 hs1 w => ?_) k
  have hK : va_K G.2.1 jd_cl (jd_tys G) s := hF.2.1.moved hW.alike
  refine va_newaK (atype := .long) hx hb (hts _ hw) rfl hd rfl hn hN hbytes hc1 hs1 rfl fun H1 cA e1 z1 o1 hAr hNm => ?_
  have hcA : cA = G.2.2.2 3 := Option.some.inj (hNm.symm.trans (hK.2 3 _ rfl).2)
  subst hcA
  have key := w H1 (hH.new hF rfl ?_ z1 o1) z1 o1
  · have : jd_v G (some σ.1.length) = .ref H.size := jd_v_new hF hH
    rw [show jd_v (jd_gG (p, l, e, s, m, args, below, meth, c, s0, G, d, mc, ms)) (some σ.1.length) = .ref H.size from this] at key
    exact key
  · show H1[H.size]? = some (vp_cell _ _)
    rw [e1]
    have : (fun j => (jd_new σ (23, N')).2.2.1 σ.1.length j) = fun _ => 0 := by
      funext j
      simp [jd_new, jd_0]
    refine congrArg some ?_
    show _ = vp_cell (G.2.2.2 3) (N', .inr (.inl (fun j => (jd_new σ (23, N')).2.2.1 σ.1.length j)))
    rw [this]
    rfl
theorem jr_newr (hX : jd_C X own nm cc nL ret) {idx : Nat} {n : Int32} (N' : Nat) (hn : ¬ n < 0) (hN : n.toNatClampNeg = N') (hbytes : N' * 4 ≤ 536870912) (hw : Cond.classLink own idx RX4 ∈ jd_TB) (hw2 : Cond.arrayOver (.object RX4) ∈ lw_tbl) (hd : decode cc pc = .ok (.anewarray idx, 3)) (k : jd_S X emb (pc + 3) lv (jd_v (jd_gG X) (some σ.1.length) :: st) (jd_new σ (24, N')) cm) : jd_S X emb pc lv (.int n :: st) σ cm := by
  obtain ⟨p, l, e, s, m, args, below, meth, c, s0, G, d, mc, ms⟩ := X
  have hts : ∀ w ∈ jd_TB, w.before args s = true := jd_words hX
  obtain ⟨hx, hb, -, hown, -, -, -, hW, -, -, hF⟩ := hX
  refine jd_mkc (fun ls H locs cells slots Q hH hc1 hs1 w => ?_) k
  have hK : va_K G.2.1 jd_cl (jd_tys G) s := hF.2.1.moved hW.alike
  obtain ⟨A0, h0, -⟩ := hF.1
  have hover : va_AO RX4 s := va_AO.moved hW.alike (va_AO.of (h0 _ hw2))
  subst hN
  refine W.anew hx hb hown (hts _ hw) (va_AO.use hover) rfl hd rfl hn hbytes hc1 hs1 fun cA kA comp f1 f2 f3 f4 => ?_
  generalize hH1 : H.push ({ cls := cA, slots := Array.replicate n.toNatClampNeg .null, vm := .none } : Cell) = H1
  have z1 : H1.size = H.size + 1 := by rw [← hH1, Array.size_push]
  have e1 : H1[H.size]? = some (arrV cA n.toNatClampNeg (fun _ => .null)) := by rw [← hH1, Array.getElem?_push_size, ← arrV_new]
  have o1 : ∀ q : Nat, q < H.size → H1[q]? = H[q]? := fun q hq => by rw [← hH1, Array.getElem?_push, if_neg (Nat.ne_of_lt hq)]
  have hcA : cA = G.2.2.2 4 := by
    obtain ⟨kA', comp', -, -, -, q4⟩ := (hK.2 4 _ rfl).2
    exact Option.some.inj (f1.symm.trans q4)
  subst hcA
  have key := w H1 (hH.new hF rfl ?_ z1 o1) z1 o1
  · have : jd_v G (some σ.1.length) = .ref H.size := jd_v_new hF hH
    rw [show jd_v (jd_gG (p, l, e, s, m, args, below, meth, c, s0, G, d, mc, ms)) (some σ.1.length) = .ref H.size from this] at key
    exact key
  · show H1[H.size]? = some (vp_cell _ _)
    rw [e1]
    refine congrArg some ?_
    have : (fun j => ((jd_new σ (24, n.toNatClampNeg)).2.2.2 σ.1.length j).map G.2.2.1) = fun _ => none := by
      funext j
      simp [jd_new, jd_0]
    show _ = vp_cell (G.2.2.2 4) (n.toNatClampNeg, .inr (.inr (.inr (.inr (fun j => ((jd_new σ (24, n.toNatClampNeg)).2.2.2 σ.1.length j).map G.2.2.1)))))
    rw [this]
    rfl
theorem jr_aast (hX : jd_C X own nm cc nL ret) {a n b : Nat} {i : Int32} (hd : decode cc pc = .ok (.aastore, 1)) (ha : σ.1[a]? = some (24, n)) (hi : vp_in i n) (hbx : σ.1[b]? = some (4, 4)) (k : jd_S X emb (pc + 1) lv st (jd_pr σ a i.toNatClampNeg (some b)) cm) : jd_S X emb pc lv (jd_v (jd_gG X) (some b) :: .int i :: jd_v (jd_gG X) (some a) :: st) σ cm := by
  obtain ⟨p, l, e, s, m, args, below, meth, c, s0, G, d, mc, ms⟩ := X
  obtain ⟨hx, hb, -, hown, -, -, -, hW, -, -, hF⟩ := hX
  refine jd_wr (σ1 := jd_pr σ a i.toNatClampNeg (some b)) rfl (fun ls H locs cells slots Q _ hH w => ?_) k
  have hK : va_K G.2.1 jd_cl (jd_tys G) s := hF.2.1.moved hW.alike
  have hat : H[G.2.2.1 a]? = some (vp_cell _ _) := hH.2.2.2 a _ _ ha rfl
  obtain ⟨r', hr', cellV, g1, g2, g3, -⟩ := hH.2.2.2 b _ _ hbx (jd_e_ob (by decide))
  have hlt : i.toNatClampNeg < n := Nat.not_le.mp fun q => hi (Or.inr q)
  have h0 : ¬ i < 0 := fun q => hi (Or.inl q)
  have hcls := (hK.1 4 (RX4, TX4, 4) rfl).2
  obtain ⟨kA, comp, k1, k2, k3, -⟩ := (hK.2 4 _ rfl).2
  have hcomp : comp = G.2.1.1 4 := Option.some.inj (k3.symm.trans hcls.1)
  subst hcomp
  obtain ⟨kC, hkC, -⟩ := hcls.2
  refine W.aast hx hb hat (fun q h => by cases h) (fun h => by cases h) k1 k2 rfl hkC ⟨h0, by show _ < (arrV _ _ _).slots.size; rw [arrV_size]; exact hlt⟩ g1 (fun q h => by rw [g3] at h; cases h) (by rw [g2]; exact hkC) (by rw [g2]; exact va_assign hcls) rfl rfl hd fun H1 e z oq => ?_
  refine w H1 ⟨G.2.2.1 a, i.toNatClampNeg⟩ (hH.one hF rfl ha rfl rfl ?_ z oq jd_e_pr) z oq (jd_ge hF hH ha (show 24 < 30 by decide))
  show H1[G.2.2.1 a]? = some (vp_cell _ _)
  rw [e]
  rw [vp_cell_q, vp_cell_q, arrV_store]
  congr 2
  funext q
  by_cases hq : q = i.toNatClampNeg
  · subst hq
    simp [updV, jd_pr, jd_u, va_rf]
  · simp [updV, jd_pr, jd_u, hq]
def jd_oi (own : String) (idx : Nat) : Prop := Cond.methodLink own idx Lib.objectInit ∈ jd_TB ∧ Cond.instanceMethod Lib.objectInit ∈ jd_TB ∧ Cond.code Lib.objectInit ⟨#[0xb1]⟩ 1 none ∈ jd_TB
theorem jr_oinit (hX : jd_C X own nm cc nL ret) {idx a : Nat} (hf : jd_oi own idx) (hdd : 1 ≤ jd_dp X) (hr : (st.map fun v => v.category).sum ≤ 8) (hd : decode cc pc = .ok (.invokespecial idx, 3)) (k : jd_S X emb (pc + 3) lv st σ cm) : jd_S X emb pc lv (jd_v (jd_gG X) (some a) :: st) σ cm := by
  obtain ⟨p, l, e, s, m, args, below, meth, c, s0, G, d, mc, ms⟩ := X
  have hts : ∀ w ∈ jd_TB, w.before args s = true := jd_words hX
  obtain ⟨hx, hb, hml, hown, -, -, -, hW, -, -, hF⟩ := hX
  refine jd_pure (fun ls H locs cells slots Q hL w => ?_) k
  have hdd : 1 ≤ d := hdd
  refine W.objInit hx hb hown (hts _ hf.1) (hts _ hf.2.1) (hts _ hf.2.2) rfl hL.2.1 (rest := st) rfl hd hdd ?_ w
  show 2 * 0 + _ + 12 ≤ 64 * d
  omega
def jd_max (x y : Int32) : Int32 := if x < y then y else x
def jd_min (x y : Int32) : Int32 := if y < x then y else x
def jd_abs (x : Int32) : Int32 := if 0 ≤ x then x else 0 - x
def jd_ms (own : String) (idx : Nat) (y : MethodName) (b : ByteArray) (n : Nat) : Prop := Cond.methodLink own idx y ∈ jd_TB ∧ Cond.static y ∈ jd_TB ∧ Cond.initialized "java/lang/Math" ∈ jd_TB ∧ Cond.code y b n (some .int) ∈ jd_TB

theorem jr_mmax (hX : jd_C X own nm cc nL ret) {idx : Nat} {x y : Int32} (hf : jd_ms own idx Lib.Math.max.name Lib.Math.max.code 2) (hdd : 1 ≤ jd_dp X) (hr : (st.map fun v => v.category).sum ≤ 8) (hd : decode cc pc = .ok (.invokestatic idx, 3)) (k : jd_S X emb (pc + 3) lv (.int (jd_max x y) :: st) σ cm) : jd_S X emb pc lv (.int y :: .int x :: st) σ cm := by
  obtain ⟨p, l, e, s, m, args, below, meth, c, s0, G, d, mc, ms⟩ := X
  have hts : ∀ w ∈ jd_TB, w.before args s = true := jd_words hX
  obtain ⟨hx, hb, hml, hown, -, -, -, hW, -, -, hF⟩ := hX
  have hdd : 1 ≤ d := hdd
  intro v σ' hv
  obtain ⟨h1, h2⟩ := k v σ' hv
  have l1 := h1.len
  have z1 := h1.z
  refine ⟨h1, fun ls H locs cells slots a b2 cS d2 f => ?_⟩
  exact va_mmax hx hb a.2.1.symm hown (hts _ hf.1) (hts _ hf.2.1) (hts _ hf.2.2.1) (hts _ hf.2.2.2) hdd (by show _ ≤ 64 * d; omega) (by show _ ≤ mc; omega) (by show _ ≤ ms; omega) hd (h2 ls H locs cells slots a b2 cS d2 f)
theorem jr_mmin (hX : jd_C X own nm cc nL ret) {idx : Nat} {x y : Int32} (hf : jd_ms own idx Lib.Math.min.name Lib.Math.min.code 2) (hdd : 1 ≤ jd_dp X) (hr : (st.map fun v => v.category).sum ≤ 8) (hd : decode cc pc = .ok (.invokestatic idx, 3)) (k : jd_S X emb (pc + 3) lv (.int (jd_min x y) :: st) σ cm) : jd_S X emb pc lv (.int y :: .int x :: st) σ cm := by
  obtain ⟨p, l, e, s, m, args, below, meth, c, s0, G, d, mc, ms⟩ := X
  have hts : ∀ w ∈ jd_TB, w.before args s = true := jd_words hX
  obtain ⟨hx, hb, hml, hown, -, -, -, hW, -, -, hF⟩ := hX
  have hdd : 1 ≤ d := hdd
  intro v σ' hv
  obtain ⟨h1, h2⟩ := k v σ' hv
  have l1 := h1.len
  have z1 := h1.z
  refine ⟨h1, fun ls H locs cells slots a b2 cS d2 f => ?_⟩
  exact va_mmin hx hb a.2.1.symm hown (hts _ hf.1) (hts _ hf.2.1) (hts _ hf.2.2.1) (hts _ hf.2.2.2) hdd (by show _ ≤ 64 * d; omega) (by show _ ≤ mc; omega) (by show _ ≤ ms; omega) hd (h2 ls H locs cells slots a b2 cS d2 f)
theorem jr_mabs (hX : jd_C X own nm cc nL ret) {idx : Nat} {x : Int32} (hf : jd_ms own idx Lib.Math.abs.name Lib.Math.abs.code 1) (hdd : 1 ≤ jd_dp X) (hr : (st.map fun v => v.category).sum ≤ 8) (hd : decode cc pc = .ok (.invokestatic idx, 3)) (k : jd_S X emb (pc + 3) lv (.int (jd_abs x) :: st) σ cm) : jd_S X emb pc lv (.int x :: st) σ cm := by
  obtain ⟨p, l, e, s, m, args, below, meth, c, s0, G, d, mc, ms⟩ := X
  have hts : ∀ w ∈ jd_TB, w.before args s = true := jd_words hX
  obtain ⟨hx, hb, hml, hown, -, -, -, hW, -, -, hF⟩ := hX
  have hdd : 1 ≤ d := hdd
  intro v σ' hv
  obtain ⟨h1, h2⟩ := k v σ' hv
  have l1 := h1.len
  have z1 := h1.z
  refine ⟨h1, fun ls H locs cells slots a b2 cS d2 f => ?_⟩
  exact va_mabs hx hb a.2.1.symm hown (hts _ hf.1) (hts _ hf.2.1) (hts _ hf.2.2.1) (hts _ hf.2.2.2) hdd (by show _ ≤ 64 * d; omega) (by show _ ≤ mc; omega) (by show _ ≤ ms; omega) hd (h2 ls H locs cells slots a b2 cS d2 f)
end JD5
