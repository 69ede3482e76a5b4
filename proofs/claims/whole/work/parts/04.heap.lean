/-! JD (4): heap, calls, ends, loops -/
def jd_fl (own : String) (idx ci kf N : Nat) (fin : Bool) : Prop := ∃ (C : String) (T : u_T), jd_cl[ci]? = some (C, T, N) ∧ kf < N ∧ ci < 14 ∧ (T kf).2.2.2 = fin ∧ (T kf).1 = C ∧ Cond.fieldLink own idx (T kf).1 (T kf).2.1 (T kf).2.2.1 ∈ jd_TB
def jd_fn (own : String) (idx ci kf N : Nat) (fin : Bool) : Prop := ∃ (C : String) (T : u_T) (host : String), jd_cl[ci]? = some (C, T, N) ∧ kf < N ∧ ci < 14 ∧ (T kf).2.2.2 = fin ∧ (T kf).1 = C ∧ Cond.fieldLinkNest own idx (T kf).1 (T kf).2.1 (T kf).2.2.1 host ∈ lw_tbl
def jd_isi : FieldType → Bool
  | .long => false
  | .object _ => false
  | .array _ => false
  | _ => true
def jd_isr : FieldType → Bool
  | .object _ => true
  | .array _ => true
  | _ => false
theorem jd_fv_i {G : jd_G} {σ : jd_Hp} {a k : Nat} {ty : FieldType} (h : jd_isi ty = true) : jd_fv G σ a ty k = .int (σ.2.1 a k) := by
  cases ty <;> first | rfl | (simp [jd_isi] at h)
theorem jd_fv_r {G : jd_G} {σ : jd_Hp} {a k : Nat} {ty : FieldType} (h : jd_isr ty = true) : jd_fv G σ a ty k = jd_v G (σ.2.2.2 a k) := by
  cases ty <;> first | rfl | (simp [jd_isr] at h)
theorem jd_fs_set {G : jd_G} {σ σ1 : jd_Hp} {a ci N kf : Nat} {v : Value} (h1 : jd_fv G σ1 a (jd_ty ci kf) kf = v) (h2 : ∀ j, j ≠ kf → jd_fv G σ1 a (jd_ty ci j) j = jd_fv G σ a (jd_ty ci j) j) : (jd_fs G σ a ci N).set kf v = jd_fs G σ1 a ci N := by
  apply List.ext_getElem?
  intro j
  by_cases hN : j < N
  · by_cases hj : kf = j
    · subst hj
      rw [List.getElem?_set_self (by simp [jd_fs, hN]), jd_fs_get hN, h1]
    · rw [List.getElem?_set_ne hj, jd_fs_get hN, jd_fs_get hN, h2 j (fun q => hj q.symm)]
  · rw [List.getElem?_eq_none (by simp [jd_fs]; omega), List.getElem?_eq_none (by simp [jd_fs]; omega)]
theorem jd_ge {G : jd_G} {s0 : State} (hF : jd_F s0 G) {σ : jd_Hp} {H : Heap} (h : jd_H G σ H) {a : Nat} {x : Nat × Nat} (hx : σ.1[a]? = some x) (hk : x.1 < 30) : G.1 ≤ G.2.2.1 a := by
  have la : 32 ≤ a := Nat.not_lt.mp fun q => by have := h.2.2.1 a x q hx; omega
  have := hF.2.2.1 a la
  omega
section JD4
variable {R τ : Type} {X : jd_X} {emb : R → Option Value} {own nm : String} {cc : ByteArray} {nL : Nat} {ret : Option FieldType} {pc : Nat} {lv : List (Option Value)} {st : List Value} {σ : jd_Hp} {cm : Option (R × jd_Hp)} {K : τ → jd_Hp → Option (R × jd_Hp)}
/-- a reference is looked at -/
theorem jr_ck {x : Nat × Nat} {o : Option Nat} {A : Nat → Option (τ × jd_Hp)} (k : ∀ a, o = some a → σ.1[a]? = some x → jd_S X emb pc lv st σ (jd_b (A a) K)) : jd_S X emb pc lv st σ (jd_b (jd_o σ x o A) K) := by
  obtain ⟨p, l, e, s, m, args, below, meth, c, s0, G, d, mc, ms⟩ := X
  intro v σ' hv
  cases o with
  | none => simp [jd_o, jd_b] at hv
  | some a =>
    by_cases hc : σ.1[a]? = some x
    · exact k a rfl hc v σ' (by simpa [jd_o, hc] using hv)
    · simp [jd_o, hc, jd_b] at hv
/-- a place of an array is looked at -/
theorem jr_ca {kd : Nat} {o : Option Nat} {i : Int32} {A : Nat → Nat → Option (τ × jd_Hp)} (k : ∀ a n, o = some a → σ.1[a]? = some (kd, n) → vp_in i n → jd_S X emb pc lv st σ (jd_b (A a i.toNatClampNeg) K)) : jd_S X emb pc lv st σ (jd_b (jd_ia σ kd o i A) K) := by
  obtain ⟨p, l, e, s, m, args, below, meth, c, s0, G, d, mc, ms⟩ := X
  intro v σ' hv
  cases o with
  | none => simp [jd_ia, jd_b] at hv
  | some a =>
    cases hx : σ.1[a]? with
    | none => simp [jd_ia, hx, jd_b] at hv
    | some y =>
      obtain ⟨k0, n⟩ := y
      by_cases hc : k0 = kd ∧ ¬ i < 0 ∧ i.toNatClampNeg < n
      · obtain ⟨rfl, h1, h2⟩ := hc
        refine k a n rfl hx ?_ v σ' (by simpa [jd_ia, hx, h1, h2] using hv)
        rintro (q | q)
        · exact h1 q
        · omega
      · simp only [jd_ia, hx, if_neg hc, jd_b] at hv
        cases hv
theorem jr_cl {kd : Nat} {o : Option Nat} {A : Nat → Option (τ × jd_Hp)} (k : ∀ a n, o = some a → σ.1[a]? = some (kd, n) → jd_S X emb pc lv st σ (jd_b (A n) K)) : jd_S X emb pc lv st σ (jd_b (jd_ln σ kd o A) K) := by
  obtain ⟨p, l, e, s, m, args, below, meth, c, s0, G, d, mc, ms⟩ := X
  intro v σ' hv
  cases o with
  | none => simp [jd_ln, jd_b] at hv
  | some a =>
    cases hx : σ.1[a]? with
    | none => simp [jd_ln, hx, jd_b] at hv
    | some y =>
      obtain ⟨k0, n⟩ := y
      by_cases hc : k0 = kd
      · subst hc
        exact k a n rfl hx v σ' (by simpa [jd_ln, hx] using hv)
      · simp [jd_ln, hx, hc, jd_b] at hv
theorem jd_get (hX : jd_C X own nm cc nL ret) {idx ci kf N a : Nat} {fin : Bool} {v : Value} (hf : jd_fl own idx ci kf N fin ∨ jd_fn own idx ci kf N fin) (hv : jd_fv (jd_gG X) σ a (jd_ty ci kf) kf = v) (hd : decode cc pc = .ok (.getfield idx, 3)) (ha : σ.1[a]? = some (ci, N)) (k : jd_S X emb (pc + 3) lv (v :: st) σ cm) : jd_S X emb pc lv (jd_v (jd_gG X) (some a) :: st) σ cm := by
  obtain ⟨p, l, e, s, m, args, below, meth, c, s0, G, d, mc, ms⟩ := X
  have hts : ∀ w ∈ jd_TB, w.before args s = true := jd_words hX
  obtain ⟨hx, hb, -, hown, -, -, -, hW, -, -, hF⟩ := hX
  refine jd_rd (fun ls H locs cells slots Q _ hH w => ?_) k
  have hK : va_K G.2.1 jd_cl (jd_tys G) s := hF.2.1.moved hW.alike
  rcases hf with ⟨C, T, hc, hk, h14, -, -, hw⟩ | ⟨C, T, host, hc, hk, h14, -, -, hw⟩
  · exact va_get (ref := (T kf).1) (C := C) (T := T) (N := N) (ci := ci) (Ts := jd_TB) hx hb hts (jd_lay hc).1 hown hK (jd_P1 (hH.2.2.2 a _ _ ha (jd_e_ob h14))) 0 rfl hc kf hk (hts _ hw) (fun _ h => h) (by rw [jd_fs_get hk]; exact congrArg some hv) hd w
  · obtain ⟨A0, h0, -⟩ := hF.1
    exact va_getN (ref := (T kf).1) (C := C) (T := T) (N := N) (ci := ci) (Ts := jd_TB) hx hb hts (jd_lay hc).1 hown hK (jd_P1 (hH.2.2.2 a _ _ ha (jd_e_ob h14))) 0 rfl hc kf hk (va_Nw.use rfl (va_Nw.warmF hW (va_Nw.of rfl (h0 _ hw)))) (fun _ h => h) (by rw [jd_fs_get hk]; exact congrArg some hv) hd w
theorem jr_geti (hX : jd_C X own nm cc nL ret) {idx ci kf N a : Nat} {fin : Bool} (hf : jd_fl own idx ci kf N fin) (hy : jd_isi (jd_ty ci kf) = true) (hd : decode cc pc = .ok (.getfield idx, 3)) (ha : σ.1[a]? = some (ci, N)) (k : jd_S X emb (pc + 3) lv (.int (σ.2.1 a kf) :: st) σ cm) : jd_S X emb pc lv (jd_v (jd_gG X) (some a) :: st) σ cm := jd_get hX (Or.inl hf) (jd_fv_i hy) hd ha k
theorem jr_getl (hX : jd_C X own nm cc nL ret) {idx ci kf N a : Nat} {fin : Bool} (hf : jd_fl own idx ci kf N fin) (hy : jd_ty ci kf = .long) (hd : decode cc pc = .ok (.getfield idx, 3)) (ha : σ.1[a]? = some (ci, N)) (k : jd_S X emb (pc + 3) lv (.long (σ.2.2.1 a kf) :: st) σ cm) : jd_S X emb pc lv (jd_v (jd_gG X) (some a) :: st) σ cm := jd_get hX (Or.inl hf) (by rw [hy]; rfl) hd ha k
theorem jr_getr (hX : jd_C X own nm cc nL ret) {idx ci kf N a : Nat} {fin : Bool} (hf : jd_fl own idx ci kf N fin) (hy : jd_isr (jd_ty ci kf) = true) (hd : decode cc pc = .ok (.getfield idx, 3)) (ha : σ.1[a]? = some (ci, N)) (k : jd_S X emb (pc + 3) lv (jd_v (jd_gG X) (σ.2.2.2 a kf) :: st) σ cm) : jd_S X emb pc lv (jd_v (jd_gG X) (some a) :: st) σ cm := jd_get hX (Or.inl hf) (jd_fv_r hy) hd ha k
theorem jr_getiN (hX : jd_C X own nm cc nL ret) {idx ci kf N a : Nat} {fin : Bool} (hf : jd_fn own idx ci kf N fin) (hy : jd_isi (jd_ty ci kf) = true) (hd : decode cc pc = .ok (.getfield idx, 3)) (ha : σ.1[a]? = some (ci, N)) (k : jd_S X emb (pc + 3) lv (.int (σ.2.1 a kf) :: st) σ cm) : jd_S X emb pc lv (jd_v (jd_gG X) (some a) :: st) σ cm := jd_get hX (Or.inr hf) (jd_fv_i hy) hd ha k
theorem jr_getlN (hX : jd_C X own nm cc nL ret) {idx ci kf N a : Nat} {fin : Bool} (hf : jd_fn own idx ci kf N fin) (hy : jd_ty ci kf = .long) (hd : decode cc pc = .ok (.getfield idx, 3)) (ha : σ.1[a]? = some (ci, N)) (k : jd_S X emb (pc + 3) lv (.long (σ.2.2.1 a kf) :: st) σ cm) : jd_S X emb pc lv (jd_v (jd_gG X) (some a) :: st) σ cm := jd_get hX (Or.inr hf) (by rw [hy]; rfl) hd ha k
theorem jr_getrN (hX : jd_C X own nm cc nL ret) {idx ci kf N a : Nat} {fin : Bool} (hf : jd_fn own idx ci kf N fin) (hy : jd_isr (jd_ty ci kf) = true) (hd : decode cc pc = .ok (.getfield idx, 3)) (ha : σ.1[a]? = some (ci, N)) (k : jd_S X emb (pc + 3) lv (jd_v (jd_gG X) (σ.2.2.2 a kf) :: st) σ cm) : jd_S X emb pc lv (jd_v (jd_gG X) (some a) :: st) σ cm := jd_get hX (Or.inr hf) (jd_fv_r hy) hd ha k
theorem jd_put (hX : jd_C X own nm cc nL ret) {idx ci kf N a : Nat} {fin : Bool} {v : Value} {σ1 : jd_Hp} (hf : (jd_fl own idx ci kf N fin ∧ (fin = false ∨ (nm = "<init>" ∧ ∃ C T, jd_cl[ci]? = some (C, T, N) ∧ C = own))) ∨ (jd_fn own idx ci kf N fin ∧ fin = false)) (hs : σ1.1 = σ.1) (hv : jd_fv (jd_gG X) σ1 a (jd_ty ci kf) kf = v) (hv2 : ∀ j, j ≠ kf → jd_fv (jd_gG X) σ1 a (jd_ty ci j) j = jd_fv (jd_gG X) σ a (jd_ty ci j) j) (hrest : ∀ (b : Nat) (y : Nat × Nat), b ≠ a → jd_e (jd_gG X) σ1 b y = jd_e (jd_gG X) σ b y) (hn : narrow (jd_ty ci kf) v = v) (hfit : fits (jd_ty ci kf) v = true) (hd : decode cc pc = .ok (.putfield idx, 3)) (ha : σ.1[a]? = some (ci, N)) (k : jd_S X emb (pc + 3) lv st σ1 cm) : jd_S X emb pc lv (v :: jd_v (jd_gG X) (some a) :: st) σ cm := by
  obtain ⟨p, l, e, s, m, args, below, meth, c, s0, G, d, mc, ms⟩ := X
  have hts : ∀ w ∈ jd_TB, w.before args s = true := jd_words hX
  obtain ⟨hx, hb, -, hown, -, -, hnm, hW, -, -, hF⟩ := hX
  refine jd_wr hs (fun ls H locs cells slots Q _ hH w => ?_) k
  have hK : va_K G.2.1 jd_cl (jd_tys G) s := hF.2.1.moved hW.alike
  have h14 : ci < 14 := by
    rcases hf with ⟨⟨C, T, hc, hk, h14, -⟩, -⟩ | ⟨⟨C, T, host, hc, hk, h14, -⟩, -⟩ <;> exact h14
  have hge : G.1 ≤ G.2.2.1 a := jd_ge hF hH ha (show ci < 30 by omega)
  have hat := hH.2.2.2 a _ _ ha (jd_e_ob (G := G) (σ := σ) (a := a) (N := N) h14)
  have fin : ∀ (C : String) (T : u_T), jd_cl[ci]? = some (C, T, N) → kf < N → ∀ (H' : Heap) (cell : Cell) (f : Field), t_OB (G.2.2.1 a) (G.2.1.1 ci) N (G.2.1.2 ci) H' (updV (vp_V (jd_fs G σ a ci N)) kf v) → H'.size = H.size → (∀ q, q ≠ G.2.2.1 a → H'[q]? = H[q]?) → jd_H G σ1 H' := by
    intro C T hc hk H' cell f e1 e2 e3
    refine hH.one hF hs ha (jd_e_ob h14) (jd_e_ob h14) ⟨(C, T, N), hc, e1.to (fun j _ => ?_)⟩ e2 e3 hrest
    rw [vp_updV_set (by simp [jd_fs, hk]), jd_fs_set (G := G) (σ := σ) (σ1 := σ1) hv hv2]
  rcases hf with ⟨⟨C, T, hc, hk, -, hfin, hC, hw⟩, hor⟩ | ⟨⟨C, T, host, hc, hk, -, hfin, hC, hw⟩, hor⟩
  · obtain ⟨lay1, lay2, lay3⟩ := jd_lay hc
    have hap := va_apart (own := own) hts lay1 (jd_ty ci) lay2 lay3 hK hc
    obtain ⟨r, r1, cell, q1, q2, q3, q4⟩ := hat
    have hr : r = (C, T, N) := Option.some.inj (r1.symm.trans hc)
    subst hr
    obtain ⟨hS, hfc, kC, hkC, hkind⟩ := hK.1 ci _ hc
    obtain ⟨cf, kf', fi, f, hi, hsl⟩ := hS kf hk
    have hst := (u_facts hfc hkC (u_lays hts lay1 hk) hi).1
    have hlay := hts _ (lay1 _ (u_in_lay hk))
    unfold u_lay at hlay
    by_cases hb2 : (T kf).2.2.2 = true
    · rw [if_pos hb2] at hlay
      rcases hor with h0 | ⟨h0, C', T', hc', hC'⟩
      · rw [hfin] at hb2; rw [h0] at hb2; cases hb2
      · have : (C', T', N) = (C, T, N) := Option.some.inj (hc'.symm.trans hc)
        cases this
        have hcf : m.cls = cf := by
          obtain ⟨_, _, c', _, _, _, -, -, hf', -, -, -, hown2, -⟩ := Cond.laysFinal_spec hlay
          have e1 : c' = cf := by have := hi.symm.trans hf'; simp at this; exact this.1.symm
          rw [hC, hC'] at hown2
          rw [← e1]; exact Option.some.inj (hown.symm.trans hown2)
        have h6 := u_fits hfc hkC hkind (Or.inr hlay) hi (lay2 kf hk) hn hfit
        refine W.putFinK hx hb hown (hts _ hw) hi hst hcf (hnm.trans h0) (by rw [q2]; exact h6) q1 q3 (by rw [hsl]; exact k2_hasslot (q4 kf hk)) rfl rfl hd fun H' e1 e2 e3 => ?_
        rw [hsl] at e1
        exact w H' ⟨G.2.2.1 a, f.slot⟩ (fin C T hc hk H' cell f ⟨_, e1, q2, q3, t_set q4 hap hk v⟩ e2 e3) e2 e3 hge
    · rw [if_neg hb2] at hlay
      have h6 := u_store hfc hkC hkind hlay hi (lay2 kf hk) hn hfit
      refine W.putK hx hb (f := f) ⟨hown, hts _ hw, ⟨_, _, _, hi⟩, hst⟩ (by rw [q2]; exact h6) q1 q3 (by rw [hsl]; exact k2_hasslot (q4 kf hk)) rfl rfl hd fun H' e1 e2 e3 => ?_
      rw [hsl] at e1
      exact w H' ⟨G.2.2.1 a, f.slot⟩ (fin C T hc hk H' cell f ⟨_, e1, q2, q3, t_set q4 hap hk v⟩ e2 e3) e2 e3 hge
  · obtain ⟨lay1, lay2, lay3⟩ := jd_lay hc
    have hap := va_apart (own := own) hts lay1 (jd_ty ci) lay2 lay3 hK hc
    obtain ⟨r, r1, cell, q1, q2, q3, q4⟩ := hat
    have hr : r = (C, T, N) := Option.some.inj (r1.symm.trans hc)
    subst hr
    obtain ⟨hS, hfc, kC, hkC, hkind⟩ := hK.1 ci _ hc
    obtain ⟨cf, kf', fi, f, hi, hsl⟩ := hS kf hk
    have hst := (u_facts hfc hkC (u_lays hts lay1 hk) hi).1
    have hlay := hts _ (lay1 _ (u_in_lay hk))
    unfold u_lay at hlay
    rw [if_neg (by rw [hfin, hor]; decide)] at hlay
    have h6 := u_store hfc hkC hkind hlay hi (lay2 kf hk) hn hfit
    obtain ⟨A0, h0, -⟩ := hF.1
    refine va_WputK hx hb (f := f) hown (va_Nw.use rfl (va_Nw.warmF hW (va_Nw.of rfl (h0 _ hw)))) hi hst (by rw [q2]; exact h6) q1 q3 (by rw [hsl]; exact k2_hasslot (q4 kf hk)) rfl rfl hd fun H' e1 e2 e3 => ?_
    rw [hsl] at e1
    exact w H' ⟨G.2.2.1 a, f.slot⟩ (fin C T hc hk H' cell f ⟨_, e1, q2, q3, t_set q4 hap hk v⟩ e2 e3) e2 e3 hge

theorem jd_pi_fv {G : jd_G} {a kf ci : Nat} {v : Int32} (hy : jd_isi (jd_ty ci kf) = true) : jd_fv G (jd_pi σ a kf v) a (jd_ty ci kf) kf = .int v := by
  rw [jd_fv_i hy]
  simp [jd_pi, jd_u]
theorem jd_pi_fv2 {G : jd_G} {a kf ci : Nat} {v : Int32} (j : Nat) (h : j ≠ kf) : jd_fv G (jd_pi σ a kf v) a (jd_ty ci j) j = jd_fv G σ a (jd_ty ci j) j := by
  have : (jd_pi σ a kf v).2.1 a j = σ.2.1 a j := by simp [jd_pi, jd_u, h]
  simp only [jd_fv, this]
  rfl
theorem jd_pl_fv {G : jd_G} {a kf ci : Nat} {v : Int64} (hy : jd_ty ci kf = .long) : jd_fv G (jd_pl σ a kf v) a (jd_ty ci kf) kf = .long v := by
  rw [hy]
  simp [jd_fv, jd_pl, jd_u]
theorem jd_pl_fv2 {G : jd_G} {a kf ci : Nat} {v : Int64} (j : Nat) (h : j ≠ kf) : jd_fv G (jd_pl σ a kf v) a (jd_ty ci j) j = jd_fv G σ a (jd_ty ci j) j := by
  have : (jd_pl σ a kf v).2.2.1 a j = σ.2.2.1 a j := by simp [jd_pl, jd_u, h]
  simp only [jd_fv, this]
  rfl
theorem jd_pr_fv {G : jd_G} {a kf ci : Nat} {v : Option Nat} (hy : jd_isr (jd_ty ci kf) = true) : jd_fv G (jd_pr σ a kf v) a (jd_ty ci kf) kf = jd_v G v := by
  rw [jd_fv_r hy]
  simp [jd_pr, jd_u]
theorem jd_pr_fv2 {G : jd_G} {a kf ci : Nat} {v : Option Nat} (j : Nat) (h : j ≠ kf) : jd_fv G (jd_pr σ a kf v) a (jd_ty ci j) j = jd_fv G σ a (jd_ty ci j) j := by
  have : (jd_pr σ a kf v).2.2.2 a j = σ.2.2.2 a j := by simp [jd_pr, jd_u, h]
  simp only [jd_fv, this]
  rfl
theorem jd_fit_r {G : jd_G} {ty : FieldType} {o : Option Nat} (h : jd_isr ty = true) : narrow ty (jd_v G o) = jd_v G o ∧ fits ty (jd_v G o) = true := by
  cases ty <;> first | (cases o <;> exact ⟨rfl, rfl⟩) | (simp [jd_isr] at h)
theorem jr_puti (hX : jd_C X own nm cc nL ret) {idx ci kf N a : Nat} {v : Int32} (hf : jd_fl own idx ci kf N false) (hy : jd_ty ci kf = .int) (hd : decode cc pc = .ok (.putfield idx, 3)) (ha : σ.1[a]? = some (ci, N)) (k : jd_S X emb (pc + 3) lv st (jd_pi σ a kf v) cm) : jd_S X emb pc lv (.int v :: jd_v (jd_gG X) (some a) :: st) σ cm :=
  jd_put (σ1 := jd_pi σ a kf v) hX (Or.inl ⟨hf, Or.inl rfl⟩) rfl (jd_pi_fv (by rw [hy]; rfl)) jd_pi_fv2 jd_e_pi (by rw [hy]; rfl) (by rw [hy]; rfl) hd ha k
theorem jr_putiN (hX : jd_C X own nm cc nL ret) {idx ci kf N a : Nat} {v : Int32} (hf : jd_fn own idx ci kf N false) (hy : jd_ty ci kf = .int) (hd : decode cc pc = .ok (.putfield idx, 3)) (ha : σ.1[a]? = some (ci, N)) (k : jd_S X emb (pc + 3) lv st (jd_pi σ a kf v) cm) : jd_S X emb pc lv (.int v :: jd_v (jd_gG X) (some a) :: st) σ cm :=
  jd_put (σ1 := jd_pi σ a kf v) hX (Or.inr ⟨hf, rfl⟩) rfl (jd_pi_fv (by rw [hy]; rfl)) jd_pi_fv2 jd_e_pi (by rw [hy]; rfl) (by rw [hy]; rfl) hd ha k
theorem jr_putz (hX : jd_C X own nm cc nL ret) {idx ci kf N a : Nat} {v : Int32} (hf : jd_fl own idx ci kf N false) (hy : jd_ty ci kf = .boolean) (hv : v = 0 ∨ v = 1) (hd : decode cc pc = .ok (.putfield idx, 3)) (ha : σ.1[a]? = some (ci, N)) (k : jd_S X emb (pc + 3) lv st (jd_pi σ a kf v) cm) : jd_S X emb pc lv (.int v :: jd_v (jd_gG X) (some a) :: st) σ cm :=
  jd_put (σ1 := jd_pi σ a kf v) hX (Or.inl ⟨hf, Or.inl rfl⟩) rfl (jd_pi_fv (by rw [hy]; rfl)) jd_pi_fv2 jd_e_pi (by rw [hy]; rcases hv with rfl | rfl <;> decide) (by rw [hy]; rcases hv with rfl | rfl <;> decide) hd ha k
theorem jr_putl (hX : jd_C X own nm cc nL ret) {idx ci kf N a : Nat} {v : Int64} (hf : jd_fl own idx ci kf N false) (hy : jd_ty ci kf = .long) (hd : decode cc pc = .ok (.putfield idx, 3)) (ha : σ.1[a]? = some (ci, N)) (k : jd_S X emb (pc + 3) lv st (jd_pl σ a kf v) cm) : jd_S X emb pc lv (.long v :: jd_v (jd_gG X) (some a) :: st) σ cm :=
  jd_put (σ1 := jd_pl σ a kf v) hX (Or.inl ⟨hf, Or.inl rfl⟩) rfl (jd_pl_fv hy) jd_pl_fv2 jd_e_pl (by rw [hy]; rfl) (by rw [hy]; rfl) hd ha k
theorem jr_putr (hX : jd_C X own nm cc nL ret) {idx ci kf N a : Nat} {o : Option Nat} (hf : jd_fl own idx ci kf N false) (hy : jd_isr (jd_ty ci kf) = true) (hd : decode cc pc = .ok (.putfield idx, 3)) (ha : σ.1[a]? = some (ci, N)) (k : jd_S X emb (pc + 3) lv st (jd_pr σ a kf o) cm) : jd_S X emb pc lv (jd_v (jd_gG X) o :: jd_v (jd_gG X) (some a) :: st) σ cm :=
  jd_put (σ1 := jd_pr σ a kf o) hX (Or.inl ⟨hf, Or.inl rfl⟩) rfl (jd_pr_fv hy) jd_pr_fv2 jd_e_pr (jd_fit_r hy).1 (jd_fit_r hy).2 hd ha k
theorem jr_putrF (hX : jd_C X own nm cc nL ret) {idx ci kf N a : Nat} {o : Option Nat} (hf : jd_fl own idx ci kf N true) (hin : nm = "<init>") (hown : ∃ C T, jd_cl[ci]? = some (C, T, N) ∧ C = own) (hy : jd_isr (jd_ty ci kf) = true) (hd : decode cc pc = .ok (.putfield idx, 3)) (ha : σ.1[a]? = some (ci, N)) (k : jd_S X emb (pc + 3) lv st (jd_pr σ a kf o) cm) : jd_S X emb pc lv (jd_v (jd_gG X) o :: jd_v (jd_gG X) (some a) :: st) σ cm :=
  jd_put (σ1 := jd_pr σ a kf o) hX (Or.inl ⟨hf, Or.inr ⟨hin, hown⟩⟩) rfl (jd_pr_fv hy) jd_pr_fv2 jd_e_pr (jd_fit_r hy).1 (jd_fit_r hy).2 hd ha k

theorem jr_iald (hX : jd_C X own nm cc nL ret) {a n : Nat} {i : Int32} (hd : decode cc pc = .ok (.iaload, 1)) (ha : σ.1[a]? = some (20, n)) (hi : vp_in i n) (k : jd_S X emb (pc + 1) lv (.int (σ.2.1 a i.toNatClampNeg) :: st) σ cm) : jd_S X emb pc lv (.int i :: jd_v (jd_gG X) (some a) :: st) σ cm := by
  obtain ⟨p, l, e, s, m, args, below, meth, c, s0, G, d, mc, ms⟩ := X
  obtain ⟨hx, hb, -, hown, -, -, -, hW, -, -, hF⟩ := hX
  refine jd_rd (fun ls H locs cells slots Q _ hH w => ?_) k
  exact va_iald (cl := jd_cl) (tys := jd_tys G) hx hb (hF.2.1.moved hW.alike) (jd_P1 (hH.2.2.2 a _ _ ha rfl)) 0 0 rfl rfl hi hd w
theorem jr_bald (hX : jd_C X own nm cc nL ret) {a n : Nat} {i : Int32} (hd : decode cc pc = .ok (.baload, 1)) (ha : σ.1[a]? = some (21, n)) (hi : vp_in i n) (k : jd_S X emb (pc + 1) lv (.int (σ.2.1 a i.toNatClampNeg) :: st) σ cm) : jd_S X emb pc lv (.int i :: jd_v (jd_gG X) (some a) :: st) σ cm := by
  obtain ⟨p, l, e, s, m, args, below, meth, c, s0, G, d, mc, ms⟩ := X
  obtain ⟨hx, hb, -, hown, -, -, -, hW, -, -, hF⟩ := hX
  refine jd_rd (fun ls H locs cells slots Q _ hH w => ?_) k
  exact va_bald (cl := jd_cl) (tys := jd_tys G) hx hb (hF.2.1.moved hW.alike) (jd_P1 (hH.2.2.2 a _ _ ha rfl)) 0 1 rfl rfl hi hd w
theorem jr_zald (hX : jd_C X own nm cc nL ret) {a n : Nat} {i : Int32} (hd : decode cc pc = .ok (.baload, 1)) (ha : σ.1[a]? = some (22, n)) (hi : vp_in i n) (k : jd_S X emb (pc + 1) lv (.int (σ.2.1 a i.toNatClampNeg) :: st) σ cm) : jd_S X emb pc lv (.int i :: jd_v (jd_gG X) (some a) :: st) σ cm := by
  obtain ⟨p, l, e, s, m, args, below, meth, c, s0, G, d, mc, ms⟩ := X
  obtain ⟨hx, hb, -, hown, -, -, -, hW, -, -, hF⟩ := hX
  refine jd_rd (fun ls H locs cells slots Q _ hH w => ?_) k
  exact va_zald (cl := jd_cl) (tys := jd_tys G) hx hb (hF.2.1.moved hW.alike) (jd_P1 (hH.2.2.2 a _ _ ha rfl)) 0 2 rfl rfl hi hd w
theorem jr_lald (hX : jd_C X own nm cc nL ret) {a n : Nat} {i : Int32} (hd : decode cc pc = .ok (.laload, 1)) (ha : σ.1[a]? = some (23, n)) (hi : vp_in i n) (k : jd_S X emb (pc + 1) lv (.long (σ.2.2.1 a i.toNatClampNeg) :: st) σ cm) : jd_S X emb pc lv (.int i :: jd_v (jd_gG X) (some a) :: st) σ cm := by
  obtain ⟨p, l, e, s, m, args, below, meth, c, s0, G, d, mc, ms⟩ := X
  obtain ⟨hx, hb, -, hown, -, -, -, hW, -, -, hF⟩ := hX
  refine jd_rd (fun ls H locs cells slots Q _ hH w => ?_) k
  exact va_lald (cl := jd_cl) (tys := jd_tys G) hx hb (hF.2.1.moved hW.alike) (jd_P1 (hH.2.2.2 a _ _ ha rfl)) 0 3 rfl rfl hi hd w
theorem jr_aald (hX : jd_C X own nm cc nL ret) {a n : Nat} {i : Int32} (hd : decode cc pc = .ok (.aaload, 1)) (ha : σ.1[a]? = some (24, n)) (hi : vp_in i n) (k : jd_S X emb (pc + 1) lv (jd_v (jd_gG X) (σ.2.2.2 a i.toNatClampNeg) :: st) σ cm) : jd_S X emb pc lv (.int i :: jd_v (jd_gG X) (some a) :: st) σ cm := by
  obtain ⟨p, l, e, s, m, args, below, meth, c, s0, G, d, mc, ms⟩ := X
  obtain ⟨hx, hb, -, hown, -, -, -, hW, -, -, hF⟩ := hX
  refine jd_rd (fun ls H locs cells slots Q _ hH w => ?_) k
  exact va_aldq (cl := jd_cl) (tys := jd_tys G) hx hb (hF.2.1.moved hW.alike) (jd_P1 (hH.2.2.2 a _ _ ha rfl)) 0 4 rfl rfl hi hd w
theorem jr_alen20 (hX : jd_C X own nm cc nL ret) {a n : Nat} (hd : decode cc pc = .ok (.arraylength, 1)) (ha : σ.1[a]? = some (20, n)) (k : jd_S X emb (pc + 1) lv (.int (Int32.ofNat n) :: st) σ cm) : jd_S X emb pc lv (jd_v (jd_gG X) (some a) :: st) σ cm := by
  obtain ⟨p, l, e, s, m, args, below, meth, c, s0, G, d, mc, ms⟩ := X
  obtain ⟨hx, hb, -, hown, -, -, -, hW, -, -, hF⟩ := hX
  refine jd_rd (fun ls H locs cells slots Q _ hH w => ?_) k
  exact va_alen (cl := jd_cl) (tys := jd_tys G) hx hb (hF.2.1.moved hW.alike) (jd_P1 (hH.2.2.2 a _ _ ha rfl)) 0 0 rfl rfl rfl hd w
theorem jr_alen21 (hX : jd_C X own nm cc nL ret) {a n : Nat} (hd : decode cc pc = .ok (.arraylength, 1)) (ha : σ.1[a]? = some (21, n)) (k : jd_S X emb (pc + 1) lv (.int (Int32.ofNat n) :: st) σ cm) : jd_S X emb pc lv (jd_v (jd_gG X) (some a) :: st) σ cm := by
  obtain ⟨p, l, e, s, m, args, below, meth, c, s0, G, d, mc, ms⟩ := X
  obtain ⟨hx, hb, -, hown, -, -, -, hW, -, -, hF⟩ := hX
  refine jd_rd (fun ls H locs cells slots Q _ hH w => ?_) k
  exact va_alen (cl := jd_cl) (tys := jd_tys G) hx hb (hF.2.1.moved hW.alike) (jd_P1 (hH.2.2.2 a _ _ ha rfl)) 0 1 rfl rfl rfl hd w
theorem jr_alen22 (hX : jd_C X own nm cc nL ret) {a n : Nat} (hd : decode cc pc = .ok (.arraylength, 1)) (ha : σ.1[a]? = some (22, n)) (k : jd_S X emb (pc + 1) lv (.int (Int32.ofNat n) :: st) σ cm) : jd_S X emb pc lv (jd_v (jd_gG X) (some a) :: st) σ cm := by
  obtain ⟨p, l, e, s, m, args, below, meth, c, s0, G, d, mc, ms⟩ := X
  obtain ⟨hx, hb, -, hown, -, -, -, hW, -, -, hF⟩ := hX
  refine jd_rd (fun ls H locs cells slots Q _ hH w => ?_) k
  exact va_alen (cl := jd_cl) (tys := jd_tys G) hx hb (hF.2.1.moved hW.alike) (jd_P1 (hH.2.2.2 a _ _ ha rfl)) 0 2 rfl rfl rfl hd w
theorem jr_alen23 (hX : jd_C X own nm cc nL ret) {a n : Nat} (hd : decode cc pc = .ok (.arraylength, 1)) (ha : σ.1[a]? = some (23, n)) (k : jd_S X emb (pc + 1) lv (.int (Int32.ofNat n) :: st) σ cm) : jd_S X emb pc lv (jd_v (jd_gG X) (some a) :: st) σ cm := by
  obtain ⟨p, l, e, s, m, args, below, meth, c, s0, G, d, mc, ms⟩ := X
  obtain ⟨hx, hb, -, hown, -, -, -, hW, -, -, hF⟩ := hX
  refine jd_rd (fun ls H locs cells slots Q _ hH w => ?_) k
  exact va_alen (cl := jd_cl) (tys := jd_tys G) hx hb (hF.2.1.moved hW.alike) (jd_P1 (hH.2.2.2 a _ _ ha rfl)) 0 3 rfl rfl rfl hd w
theorem jr_alen24 (hX : jd_C X own nm cc nL ret) {a n : Nat} (hd : decode cc pc = .ok (.arraylength, 1)) (ha : σ.1[a]? = some (24, n)) (k : jd_S X emb (pc + 1) lv (.int (Int32.ofNat n) :: st) σ cm) : jd_S X emb pc lv (jd_v (jd_gG X) (some a) :: st) σ cm := by
  obtain ⟨p, l, e, s, m, args, below, meth, c, s0, G, d, mc, ms⟩ := X
  obtain ⟨hx, hb, -, hown, -, -, -, hW, -, -, hF⟩ := hX
  refine jd_rd (fun ls H locs cells slots Q _ hH w => ?_) k
  exact va_alen (cl := jd_cl) (tys := jd_tys G) hx hb (hF.2.1.moved hW.alike) (jd_P1 (hH.2.2.2 a _ _ ha rfl)) 0 4 rfl rfl rfl hd w
theorem jr_iast (hX : jd_C X own nm cc nL ret) {a n : Nat} {i : Int32} {x : Int32} (hd : decode cc pc = .ok (.iastore, 1)) (ha : σ.1[a]? = some (20, n)) (hi : vp_in i n) (k : jd_S X emb (pc + 1) lv st (jd_pi σ a i.toNatClampNeg (x)) cm) : jd_S X emb pc lv (.int x :: .int i :: jd_v (jd_gG X) (some a) :: st) σ cm := by
  obtain ⟨p, l, e, s, m, args, below, meth, c, s0, G, d, mc, ms⟩ := X
  obtain ⟨hx, hb, -, hown, -, -, -, hW, -, -, hF⟩ := hX
  refine jd_wr (σ1 := jd_pi σ a i.toNatClampNeg (x)) rfl (fun ls H locs cells slots Q _ hH w => ?_) k
  have hK : va_K G.2.1 jd_cl (jd_tys G) s := hF.2.1.moved hW.alike
  have hat : H[G.2.2.1 a]? = some (vp_cell _ _) := hH.2.2.2 a _ _ ha rfl
  refine W.iast hx hb hat ((hK.2 0 _ rfl).1 n (fun j => .int (σ.2.1 a j))) (fun q => by cases q) (by show ¬ (i < 0 ∨ (arrV _ _ _).slots.size ≤ _); rw [arrV_size]; exact hi) rfl rfl hd fun H1 e z oq => ?_
  refine w H1 ⟨G.2.2.1 a, i.toNatClampNeg⟩ (hH.one hF rfl ha rfl rfl ?_ z oq jd_e_pi) z oq (jd_ge hF hH ha (show 20 < 30 by decide))
  show H1[G.2.2.1 a]? = some (vp_cell _ _)
  rw [e]
  rw [vp_cell_i, vp_cell_i, arrV_store]
  congr 2
  funext q
  by_cases hq : q = i.toNatClampNeg
  · subst hq
    simp [updV, jd_pi, jd_u]
    try rfl
  · simp [updV, jd_pi, jd_u, hq]
theorem jr_bast (hX : jd_C X own nm cc nL ret) {a n : Nat} {i : Int32} {x : Int32} (hd : decode cc pc = .ok (.bastore, 1)) (ha : σ.1[a]? = some (21, n)) (hi : vp_in i n) (k : jd_S X emb (pc + 1) lv st (jd_pi σ a i.toNatClampNeg (vp_nar .byte x)) cm) : jd_S X emb pc lv (.int x :: .int i :: jd_v (jd_gG X) (some a) :: st) σ cm := by
  obtain ⟨p, l, e, s, m, args, below, meth, c, s0, G, d, mc, ms⟩ := X
  obtain ⟨hx, hb, -, hown, -, -, -, hW, -, -, hF⟩ := hX
  refine jd_wr (σ1 := jd_pi σ a i.toNatClampNeg (vp_nar .byte x)) rfl (fun ls H locs cells slots Q _ hH w => ?_) k
  have hK : va_K G.2.1 jd_cl (jd_tys G) s := hF.2.1.moved hW.alike
  have hat : H[G.2.2.1 a]? = some (vp_cell _ _) := hH.2.2.2 a _ _ ha rfl
  refine W.bast hx hb hat ((hK.2 1 _ rfl).1 n (fun j => .int (σ.2.1 a j))) (fun q => by cases q) (by show ¬ (i < 0 ∨ (arrV _ _ _).slots.size ≤ _); rw [arrV_size]; exact hi) rfl rfl hd fun H1 e z oq => ?_
  refine w H1 ⟨G.2.2.1 a, i.toNatClampNeg⟩ (hH.one hF rfl ha rfl rfl ?_ z oq jd_e_pi) z oq (jd_ge hF hH ha (show 21 < 30 by decide))
  show H1[G.2.2.1 a]? = some (vp_cell _ _)
  rw [e]
  rw [vp_cell_i, vp_cell_i, arrV_store]
  congr 2
  funext q
  by_cases hq : q = i.toNatClampNeg
  · subst hq
    simp [updV, jd_pi, jd_u, vp_nar]
    try rfl
  · simp [updV, jd_pi, jd_u, hq]
theorem jr_zast (hX : jd_C X own nm cc nL ret) {a n : Nat} {i : Int32} {x : Int32} (hd : decode cc pc = .ok (.bastore, 1)) (ha : σ.1[a]? = some (22, n)) (hi : vp_in i n) (k : jd_S X emb (pc + 1) lv st (jd_pi σ a i.toNatClampNeg (vp_nar .boolean x)) cm) : jd_S X emb pc lv (.int x :: .int i :: jd_v (jd_gG X) (some a) :: st) σ cm := by
  obtain ⟨p, l, e, s, m, args, below, meth, c, s0, G, d, mc, ms⟩ := X
  obtain ⟨hx, hb, -, hown, -, -, -, hW, -, -, hF⟩ := hX
  refine jd_wr (σ1 := jd_pi σ a i.toNatClampNeg (vp_nar .boolean x)) rfl (fun ls H locs cells slots Q _ hH w => ?_) k
  have hK : va_K G.2.1 jd_cl (jd_tys G) s := hF.2.1.moved hW.alike
  have hat : H[G.2.2.1 a]? = some (vp_cell _ _) := hH.2.2.2 a _ _ ha rfl
  refine W.zast hx hb hat ((hK.2 2 _ rfl).1 n (fun j => .int (σ.2.1 a j))) (fun q => by cases q) (by show ¬ (i < 0 ∨ (arrV _ _ _).slots.size ≤ _); rw [arrV_size]; exact hi) rfl rfl hd fun H1 e z oq => ?_
  refine w H1 ⟨G.2.2.1 a, i.toNatClampNeg⟩ (hH.one hF rfl ha rfl rfl ?_ z oq jd_e_pi) z oq (jd_ge hF hH ha (show 22 < 30 by decide))
  show H1[G.2.2.1 a]? = some (vp_cell _ _)
  rw [e]
  rw [vp_cell_i, vp_cell_i, arrV_store]
  congr 2
  funext q
  by_cases hq : q = i.toNatClampNeg
  · subst hq
    simp [updV, jd_pi, jd_u, vp_nar]
    try rfl
  · simp [updV, jd_pi, jd_u, hq]
theorem jr_last (hX : jd_C X own nm cc nL ret) {a n : Nat} {i : Int32} {x : Int64} (hd : decode cc pc = .ok (.lastore, 1)) (ha : σ.1[a]? = some (23, n)) (hi : vp_in i n) (k : jd_S X emb (pc + 1) lv st (jd_pl σ a i.toNatClampNeg (x)) cm) : jd_S X emb pc lv (.long x :: .int i :: jd_v (jd_gG X) (some a) :: st) σ cm := by
  obtain ⟨p, l, e, s, m, args, below, meth, c, s0, G, d, mc, ms⟩ := X
  obtain ⟨hx, hb, -, hown, -, -, -, hW, -, -, hF⟩ := hX
  refine jd_wr (σ1 := jd_pl σ a i.toNatClampNeg (x)) rfl (fun ls H locs cells slots Q _ hH w => ?_) k
  have hK : va_K G.2.1 jd_cl (jd_tys G) s := hF.2.1.moved hW.alike
  have hat : H[G.2.2.1 a]? = some (vp_cell _ _) := hH.2.2.2 a _ _ ha rfl
  refine W.last hx hb hat ((hK.2 3 _ rfl).1 n (fun j => .long (σ.2.2.1 a j))) (fun q => by cases q) (by show ¬ (i < 0 ∨ (arrV _ _ _).slots.size ≤ _); rw [arrV_size]; exact hi) rfl rfl hd fun H1 e z oq => ?_
  refine w H1 ⟨G.2.2.1 a, i.toNatClampNeg⟩ (hH.one hF rfl ha rfl rfl ?_ z oq jd_e_pl) z oq (jd_ge hF hH ha (show 23 < 30 by decide))
  show H1[G.2.2.1 a]? = some (vp_cell _ _)
  rw [e]
  rw [vp_cell_l, vp_cell_l, arrV_store]
  congr 2
  funext q
  by_cases hq : q = i.toNatClampNeg
  · subst hq
    simp [updV, jd_pl, jd_u]
    try rfl
  · simp [updV, jd_pl, jd_u, hq]
end JD4
