/-! JD (3): a row an instruction -/
theorem jd_v_cat (G : jd_G) (o : Option Nat) : (jd_v G o).category = 1 := by cases o <;> rfl
def jd_nl : Option Value → Bool
  | none => true
  | some v => v.category == 1
theorem jn_n : jd_nl none = true := rfl
theorem jn_i (x : Int32) : jd_nl (some (.int x)) = true := rfl
theorem jn_r (G : jd_G) (o : Option Nat) : jd_nl (some (jd_v G o)) = true := by simp [jd_nl, jd_v_cat]
theorem jd_al_mem {lv : List (Option Value)} {j : Nat} {w : Value} : (j, w) ∈ jd_al 0 lv ↔ lv[j]? = some (some w) := by
  have key : ∀ (lv : List (Option Value)) (k : Nat), (j, w) ∈ jd_al k lv ↔ k ≤ j ∧ lv[j - k]? = some (some w) := by
    intro lv
    induction lv with
    | nil => intro k; simp [jd_al]
    | cons o t ih =>
      intro k
      have step : ∀ (P : Prop), (P ↔ k + 1 ≤ j ∧ t[j - (k + 1)]? = some (some w)) → ((P ∨ (k = j ∧ o = some w)) ↔ k ≤ j ∧ (o :: t)[j - k]? = some (some w)) := by
        intro P hP
        constructor
        · rintro (h | ⟨h, h'⟩)
          · obtain ⟨h1, h2⟩ := hP.mp h
            refine ⟨by omega, ?_⟩
            rw [show j - k = j - (k + 1) + 1 by omega, List.getElem?_cons_succ]
            exact h2
          · subst h
            refine ⟨Nat.le_refl _, ?_⟩
            simp [h']
        · rintro ⟨h1, h2⟩
          by_cases hk : k = j
          · subst hk
            right
            refine ⟨rfl, ?_⟩
            simpa using h2
          · left
            refine hP.mpr ⟨by omega, ?_⟩
            rw [show j - k = j - (k + 1) + 1 by omega, List.getElem?_cons_succ] at h2
            exact h2
      cases o with
      | none =>
        have := step _ (ih (k + 1))
        simpa [jd_al] using this
      | some v =>
        have := step _ (ih (k + 1))
        rw [← this]
        simp only [jd_al, List.mem_cons, Prod.mk.injEq, Option.some.injEq]
        constructor
        · rintro (⟨h, h'⟩ | h)
          · exact Or.inr ⟨h.symm, h'.symm⟩
          · exact Or.inl h
        · rintro (h | ⟨h, h'⟩)
          · exact Or.inr h
          · exact Or.inl ⟨h.symm, h'.symm⟩
  simpa using key lv 0
theorem jd_st1 {ls' : Array Slot} {n i : Nat} {v : Value} {lv : List (Option Value)} (hl : lv.length = n) (h : lv_has ls' n ((i, v) :: (jd_al 0 lv).filter (fun q => !(q.1 == i) && !(q.1 + 1 == i && q.2.category == 2)))) (hi : i < n) (hc : ∀ j w, j + 1 = i → lv[j]? = some w → jd_nl w = true) : jd_L ls' n (lv.set i (some v)) := by
  refine ⟨by rw [List.length_set]; exact hl, h.1, h.2.1, ?_⟩
  rintro ⟨j, w⟩ hq
  rw [jd_al_mem] at hq
  by_cases hj : i = j
  · subst hj
    rw [List.getElem?_set_self (by omega)] at hq
    cases hq
    exact h.2.2 (i, v) List.mem_cons_self
  · rw [List.getElem?_set_ne hj] at hq
    refine h.2.2 (j, w) (List.mem_cons_of_mem _ (List.mem_filter.mpr ⟨jd_al_mem.mpr hq, ?_⟩))
    have h1 : ¬ j = i := fun q => hj q.symm
    by_cases h2 : j + 1 = i
    · have := hc j (some w) h2 hq
      simp only [jd_nl, beq_iff_eq] at this
      simp [h1, this]
    · simp [h1, h2]
theorem jd_st2 {ls' : Array Slot} {n i : Nat} {v : Value} {lv : List (Option Value)} (hl : lv.length = n) (h : lv_has ls' n ((i, v) :: (jd_al 0 lv).filter (fun q => !(q.1 == i) && (!(q.1 == i + 1) && !(q.1 + 1 == i && q.2.category == 2))))) (hi : i + 1 < n) (hc : ∀ j w, j + 1 = i → lv[j]? = some w → jd_nl w = true) : jd_L ls' n ((lv.set i (some v)).set (i + 1) none) := by
  refine ⟨by rw [List.length_set, List.length_set]; exact hl, h.1, h.2.1, ?_⟩
  rintro ⟨j, w⟩ hq
  rw [jd_al_mem] at hq
  by_cases hj1 : i + 1 = j
  · subst hj1
    rw [List.getElem?_set_self (by rw [List.length_set]; omega)] at hq
    cases hq
  · rw [List.getElem?_set_ne hj1] at hq
    by_cases hj : i = j
    · subst hj
      rw [List.getElem?_set_self (by omega)] at hq
      cases hq
      exact h.2.2 (i, v) List.mem_cons_self
    · rw [List.getElem?_set_ne hj] at hq
      refine h.2.2 (j, w) (List.mem_cons_of_mem _ (List.mem_filter.mpr ⟨jd_al_mem.mpr hq, ?_⟩))
      have h1 : ¬ j = i := fun q => hj q.symm
      have h3 : ¬ j = i + 1 := fun q => hj1 q.symm
      by_cases h2 : j + 1 = i
      · have := hc j (some w) h2 hq
        simp only [jd_nl, beq_iff_eq] at this
        simp [h1, h3, this]
      · simp [h1, h2, h3]
def jd_mk (bs : List Bool) (lv : List (Option Value)) : List (Option Value) := match bs, lv with
  | true :: bs, v :: t => v :: jd_mk bs t
  | false :: bs, _ :: t => none :: jd_mk bs t
  | _, lv => lv
theorem jd_mk_ok : ∀ (bs : List Bool) (lv : List (Option Value)), (jd_mk bs lv).length = lv.length ∧ ∀ (i : Nat) (w : Value), (jd_mk bs lv)[i]? = some (some w) → lv[i]? = some (some w)
  | [], lv => by simp [jd_mk]
  | b :: bs, [] => by cases b <;> simp [jd_mk]
  | b :: bs, v :: t => by
    obtain ⟨h1, h2⟩ := jd_mk_ok bs t
    cases b with
    | true =>
      refine ⟨by simp [jd_mk, h1], fun i w h => ?_⟩
      cases i with
      | zero => simpa [jd_mk] using h
      | succ i =>
        have h : (jd_mk bs t)[i]? = some (some w) := by simpa [jd_mk] using h
        simpa using h2 i w h
    | false =>
      refine ⟨by simp [jd_mk, h1], fun i w h => ?_⟩
      cases i with
      | zero => simp [jd_mk] at h
      | succ i =>
        have h : (jd_mk bs t)[i]? = some (some w) := by simpa [jd_mk] using h
        simpa using h2 i w h
theorem jd_hc {lv : List (Option Value)} {i : Nat} {a : Option Value} (h : lv[i]? = some a) (hc : jd_nl a = true) : ∀ j w, j + 1 = i + 1 → lv[j]? = some w → jd_nl w = true := by
  intro j w e q
  have : j = i := by omega
  subst this
  have : w = a := Option.some.inj (q.symm.trans h)
  subst this
  exact hc
theorem jd_hc0 {lv : List (Option Value)} : ∀ j w, j + 1 = 0 → lv[j]? = some w → jd_nl w = true := fun j w e => absurd e (by omega)
section JD3
variable {R τ : Type} {X : jd_X} {emb : R → Option Value} {own nm : String} {cc : ByteArray} {nL : Nat} {ret : Option FieldType} {pc : Nat} {lv : List (Option Value)} {st : List Value} {σ : jd_Hp} {cm : Option (R × jd_Hp)} {K : τ → jd_Hp → Option (R × jd_Hp)}
/-- less is known of the locals -/
theorem jr_wk (bs : List Bool) (k : jd_S X emb pc (jd_mk bs lv) st σ cm) : jd_S X emb pc lv st σ cm := by
  obtain ⟨p, l, e, s, m, args, below, meth, c, s0, G, d, mc, ms⟩ := X
  intro v σ' hv
  obtain ⟨h1, h2⟩ := k v σ' hv
  refine ⟨h1, fun ls H locs cells slots a b c d f => h2 ls H locs cells slots ?_ b c d f⟩
  obtain ⟨m1, m2⟩ := jd_mk_ok bs lv
  exact ⟨m1.trans a.1, a.2.1, a.2.2.1, fun q hq => a.2.2.2 q (jd_al_mem.mpr (m2 q.1 q.2 (jd_al_mem.mp hq)))⟩
/-- an instruction that leaves the heap: locals may change -/
theorem jd_loc {pc' : Nat} {lv' : List (Option Value)} {st' : List Value} (h : match X with
  | (p, l, e, s, m, args, below, meth, c, _, _, d, mc, ms) => ∀ (ls : Array Slot) (H : Heap) (locs : List Loc) (cells slots : Nat) (Q : State → Prop), jd_L ls c.maxLocals lv → (∀ ls', jd_L ls' c.maxLocals lv' → W p l e (jd_rm d mc ms) s m args below meth c H locs cells slots Q (F0 m pc' ls' st')) → W p l e (jd_rm d mc ms) s m args below meth c H locs cells slots Q (F0 m pc ls st)) (k : jd_S X emb pc' lv' st' σ cm) : jd_S X emb pc lv st σ cm := by
  obtain ⟨p, l, e, s, m, args, below, meth, c, s0, G, d, mc, ms⟩ := X
  intro v σ' hv
  obtain ⟨h1, h2⟩ := k v σ' hv
  exact ⟨h1, fun ls H locs cells slots a b c d f => h ls H locs cells slots _ a (fun ls' a' => h2 ls' H locs cells slots a' b c d f)⟩
/-- an instruction that reads the heap -/
theorem jd_rd {pc' : Nat} {st' : List Value} (h : match X with
  | (p, l, e, s, m, args, below, meth, c, _, G, d, mc, ms) => ∀ (ls : Array Slot) (H : Heap) (locs : List Loc) (cells slots : Nat) (Q : State → Prop), jd_L ls c.maxLocals lv → jd_H G σ H → W p l e (jd_rm d mc ms) s m args below meth c H locs cells slots Q (F0 m pc' ls st') → W p l e (jd_rm d mc ms) s m args below meth c H locs cells slots Q (F0 m pc ls st)) (k : jd_S X emb pc' lv st' σ cm) : jd_S X emb pc lv st σ cm := by
  obtain ⟨p, l, e, s, m, args, below, meth, c, s0, G, d, mc, ms⟩ := X
  intro v σ' hv
  obtain ⟨h1, h2⟩ := k v σ' hv
  exact ⟨h1, fun ls H locs cells slots a b c d f => h ls H locs cells slots _ a b (h2 ls H locs cells slots a b c d f)⟩
/-- an instruction that writes one cell -/
theorem jd_wr {pc' : Nat} {st' : List Value} {σ1 : jd_Hp} (hs : σ1.1 = σ.1) (h : match X with
  | (p, l, e, s, m, args, below, meth, c, _, G, d, mc, ms) => ∀ (ls : Array Slot) (H : Heap) (locs : List Loc) (cells slots : Nat) (Q : State → Prop), jd_L ls c.maxLocals lv → jd_H G σ H → (∀ (H1 : Heap) (L : Loc), jd_H G σ1 H1 → H1.size = H.size → (∀ q : Nat, q ≠ L.base → H1[q]? = H[q]?) → G.1 ≤ L.base → W p l e (jd_rm d mc ms) s m args below meth c H1 (locs ++ [L]) cells slots Q (F0 m pc' ls st')) → W p l e (jd_rm d mc ms) s m args below meth c H locs cells slots Q (F0 m pc ls st)) (k : jd_S X emb pc' lv st' σ1 cm) : jd_S X emb pc lv st σ cm := by
  obtain ⟨p, l, e, s, m, args, below, meth, c, s0, G, d, mc, ms⟩ := X
  intro v σ' hv
  obtain ⟨h1, h2⟩ := k v σ' hv
  refine ⟨(jd_p.of hs).tr h1, fun ls H locs cells slots a b c d f => h ls H locs cells slots _ a b (fun H1 L b1 z1 o1 hL => h2 ls H1 _ cells slots a b1 ?_ (by rw [hs]; exact d) (by simp only [jd_z, hs] at f ⊢; exact f))⟩
  refine ⟨by rw [z1]; exact c.1, fun q g1 g2 => ?_, fun x hx => ?_⟩
  · rw [o1 q (fun q1 => g2 (by rw [q1]; exact hL))]
    exact c.2.1 q g1 g2
  · rcases List.mem_append.mp hx with hx | hx
    · exact c.2.2 x hx
    · rw [List.mem_singleton.mp hx]
      exact hL

theorem jr_iadd (hX : jd_C X own nm cc nL ret) {x y : Int32} (hd : decode cc pc = .ok (.iadd, 1)) (k : jd_S X emb (pc + 1) lv (.int (x + y) :: st) σ cm) : jd_S X emb pc lv (.int y :: .int x :: st) σ cm := by
  obtain ⟨p, l, e, s, m, args, below, meth, c, s0, G, d, mc, ms⟩ := X
  exact jd_pure (fun ls H locs cells slots Q _ w => lv_iadd hX.1 hX.2.1 hd w) k
theorem jr_isub (hX : jd_C X own nm cc nL ret) {x y : Int32} (hd : decode cc pc = .ok (.isub, 1)) (k : jd_S X emb (pc + 1) lv (.int (x - y) :: st) σ cm) : jd_S X emb pc lv (.int y :: .int x :: st) σ cm := by
  obtain ⟨p, l, e, s, m, args, below, meth, c, s0, G, d, mc, ms⟩ := X
  exact jd_pure (fun ls H locs cells slots Q _ w => lv_isub hX.1 hX.2.1 hd w) k
theorem jr_imul (hX : jd_C X own nm cc nL ret) {x y : Int32} (hd : decode cc pc = .ok (.imul, 1)) (k : jd_S X emb (pc + 1) lv (.int (x * y) :: st) σ cm) : jd_S X emb pc lv (.int y :: .int x :: st) σ cm := by
  obtain ⟨p, l, e, s, m, args, below, meth, c, s0, G, d, mc, ms⟩ := X
  exact jd_pure (fun ls H locs cells slots Q _ w => lv_imul hX.1 hX.2.1 hd w) k
theorem jr_iand (hX : jd_C X own nm cc nL ret) {x y : Int32} (hd : decode cc pc = .ok (.iand, 1)) (k : jd_S X emb (pc + 1) lv (.int (x &&& y) :: st) σ cm) : jd_S X emb pc lv (.int y :: .int x :: st) σ cm := by
  obtain ⟨p, l, e, s, m, args, below, meth, c, s0, G, d, mc, ms⟩ := X
  exact jd_pure (fun ls H locs cells slots Q _ w => lv_iand hX.1 hX.2.1 hd w) k
theorem jr_ior (hX : jd_C X own nm cc nL ret) {x y : Int32} (hd : decode cc pc = .ok (.ior, 1)) (k : jd_S X emb (pc + 1) lv (.int (x ||| y) :: st) σ cm) : jd_S X emb pc lv (.int y :: .int x :: st) σ cm := by
  obtain ⟨p, l, e, s, m, args, below, meth, c, s0, G, d, mc, ms⟩ := X
  exact jd_pure (fun ls H locs cells slots Q _ w => lv_ior hX.1 hX.2.1 hd w) k
theorem jr_ixor (hX : jd_C X own nm cc nL ret) {x y : Int32} (hd : decode cc pc = .ok (.ixor, 1)) (k : jd_S X emb (pc + 1) lv (.int (x ^^^ y) :: st) σ cm) : jd_S X emb pc lv (.int y :: .int x :: st) σ cm := by
  obtain ⟨p, l, e, s, m, args, below, meth, c, s0, G, d, mc, ms⟩ := X
  exact jd_pure (fun ls H locs cells slots Q _ w => lv_ixor hX.1 hX.2.1 hd w) k
theorem jr_ladd (hX : jd_C X own nm cc nL ret) {x y : Int64} (hd : decode cc pc = .ok (.ladd, 1)) (k : jd_S X emb (pc + 1) lv (.long (x + y) :: st) σ cm) : jd_S X emb pc lv (.long y :: .long x :: st) σ cm := by
  obtain ⟨p, l, e, s, m, args, below, meth, c, s0, G, d, mc, ms⟩ := X
  exact jd_pure (fun ls H locs cells slots Q _ w => lv_ladd hX.1 hX.2.1 hd w) k
theorem jr_lsub (hX : jd_C X own nm cc nL ret) {x y : Int64} (hd : decode cc pc = .ok (.lsub, 1)) (k : jd_S X emb (pc + 1) lv (.long (x - y) :: st) σ cm) : jd_S X emb pc lv (.long y :: .long x :: st) σ cm := by
  obtain ⟨p, l, e, s, m, args, below, meth, c, s0, G, d, mc, ms⟩ := X
  exact jd_pure (fun ls H locs cells slots Q _ w => lv_lsub hX.1 hX.2.1 hd w) k
theorem jr_lmul (hX : jd_C X own nm cc nL ret) {x y : Int64} (hd : decode cc pc = .ok (.lmul, 1)) (k : jd_S X emb (pc + 1) lv (.long (x * y) :: st) σ cm) : jd_S X emb pc lv (.long y :: .long x :: st) σ cm := by
  obtain ⟨p, l, e, s, m, args, below, meth, c, s0, G, d, mc, ms⟩ := X
  exact jd_pure (fun ls H locs cells slots Q _ w => lv_lmul hX.1 hX.2.1 hd w) k
theorem jr_ishl (hX : jd_C X own nm cc nL ret) {x y : Int32} (hd : decode cc pc = .ok (.ishl, 1)) (k : jd_S X emb (pc + 1) lv (.int (x <<< (y &&& 31)) :: st) σ cm) : jd_S X emb pc lv (.int y :: .int x :: st) σ cm := by
  obtain ⟨p, l, e, s, m, args, below, meth, c, s0, G, d, mc, ms⟩ := X
  exact jd_pure (fun ls H locs cells slots Q _ w => lv_ishl hX.1 hX.2.1 hd w) k
theorem jr_ishr (hX : jd_C X own nm cc nL ret) {x y : Int32} (hd : decode cc pc = .ok (.ishr, 1)) (k : jd_S X emb (pc + 1) lv (.int (x >>> (y &&& 31)) :: st) σ cm) : jd_S X emb pc lv (.int y :: .int x :: st) σ cm := by
  obtain ⟨p, l, e, s, m, args, below, meth, c, s0, G, d, mc, ms⟩ := X
  exact jd_pure (fun ls H locs cells slots Q _ w => lv_ishr hX.1 hX.2.1 hd w) k
theorem jr_iushr (hX : jd_C X own nm cc nL ret) {x y : Int32} (hd : decode cc pc = .ok (.iushr, 1)) (k : jd_S X emb (pc + 1) lv (.int (x.toUInt32 >>> (y.toUInt32 &&& Int32.toUInt32 31)).toInt32 :: st) σ cm) : jd_S X emb pc lv (.int y :: .int x :: st) σ cm := by
  obtain ⟨p, l, e, s, m, args, below, meth, c, s0, G, d, mc, ms⟩ := X
  exact jd_pure (fun ls H locs cells slots Q _ w => lv_iushr hX.1 hX.2.1 hd rfl w) k
theorem jr_idiv (hX : jd_C X own nm cc nL ret) {x y : Int32} (hd : decode cc pc = .ok (.idiv, 1)) (hy : ¬ y = 0) (k : jd_S X emb (pc + 1) lv (.int (x / y) :: st) σ cm) : jd_S X emb pc lv (.int y :: .int x :: st) σ cm := by
  obtain ⟨p, l, e, s, m, args, below, meth, c, s0, G, d, mc, ms⟩ := X
  exact jd_pure (fun ls H locs cells slots Q _ w => lv_idiv hX.1 hX.2.1 hd hy w) k
theorem jr_irem (hX : jd_C X own nm cc nL ret) {x y : Int32} (hd : decode cc pc = .ok (.irem, 1)) (hy : ¬ y = 0) (k : jd_S X emb (pc + 1) lv (.int (x - x / y * y) :: st) σ cm) : jd_S X emb pc lv (.int y :: .int x :: st) σ cm := by
  obtain ⟨p, l, e, s, m, args, below, meth, c, s0, G, d, mc, ms⟩ := X
  exact jd_pure (fun ls H locs cells slots Q _ w => lv_irem hX.1 hX.2.1 hd hy w) k
theorem jr_ldiv (hX : jd_C X own nm cc nL ret) {x y : Int64} (hd : decode cc pc = .ok (.ldiv, 1)) (hy : ¬ y = 0) (k : jd_S X emb (pc + 1) lv (.long (x / y) :: st) σ cm) : jd_S X emb pc lv (.long y :: .long x :: st) σ cm := by
  obtain ⟨p, l, e, s, m, args, below, meth, c, s0, G, d, mc, ms⟩ := X
  exact jd_pure (fun ls H locs cells slots Q _ w => lv_ldiv hX.1 hX.2.1 hd hy w) k
theorem jr_lrem (hX : jd_C X own nm cc nL ret) {x y : Int64} (hd : decode cc pc = .ok (.lrem, 1)) (hy : ¬ y = 0) (k : jd_S X emb (pc + 1) lv (.long (x - x / y * y) :: st) σ cm) : jd_S X emb pc lv (.long y :: .long x :: st) σ cm := by
  obtain ⟨p, l, e, s, m, args, below, meth, c, s0, G, d, mc, ms⟩ := X
  exact jd_pure (fun ls H locs cells slots Q _ w => lv_lrem hX.1 hX.2.1 hd hy w) k
theorem jr_nz {cd : Prop} [Decidable cd] {B : Option (τ × jd_Hp)} (k : ¬ cd → jd_S X emb pc lv st σ (jd_b B K)) : jd_S X emb pc lv st σ (jd_b (jd_nz cd B) K) := by
  obtain ⟨p, l, e, s, m, args, below, meth, c, s0, G, d, mc, ms⟩ := X
  intro v σ' hv
  by_cases hc : cd
  · simp [jd_nz, hc, jd_b] at hv
  · exact k hc v σ' (by simpa [jd_nz, hc] using hv)
theorem jr_lcmp (hX : jd_C X own nm cc nL ret) {x y : Int64} (hd : decode cc pc = .ok (.lcmp, 1)) (k : jd_S X emb (pc + 1) lv (.int (lg_cmp x y) :: st) σ cm) : jd_S X emb pc lv (.long y :: .long x :: st) σ cm := by
  obtain ⟨p, l, e, s, m, args, below, meth, c, s0, G, d, mc, ms⟩ := X
  exact jd_pure (fun ls H locs cells slots Q _ w => W.lcmp hX.1 hX.2.1 hd w) k
theorem jr_i2l (hX : jd_C X own nm cc nL ret) {x : Int32} (hd : decode cc pc = .ok (.i2l, 1)) (k : jd_S X emb (pc + 1) lv (.long x.toInt64 :: st) σ cm) : jd_S X emb pc lv (.int x :: st) σ cm := by
  obtain ⟨p, l, e, s, m, args, below, meth, c, s0, G, d, mc, ms⟩ := X
  exact jd_pure (fun ls H locs cells slots Q _ w => lv_i2l hX.1 hX.2.1 hd rfl w) k
theorem jr_l2i (hX : jd_C X own nm cc nL ret) {x : Int64} (hd : decode cc pc = .ok (.l2i, 1)) (k : jd_S X emb (pc + 1) lv (.int x.toInt32 :: st) σ cm) : jd_S X emb pc lv (.long x :: st) σ cm := by
  obtain ⟨p, l, e, s, m, args, below, meth, c, s0, G, d, mc, ms⟩ := X
  exact jd_pure (fun ls H locs cells slots Q _ w => lv_l2i hX.1 hX.2.1 hd rfl w) k
theorem jr_i2b (hX : jd_C X own nm cc nL ret) {x : Int32} (hd : decode cc pc = .ok (.i2b, 1)) (k : jd_S X emb (pc + 1) lv (.int x.toInt8.toInt32 :: st) σ cm) : jd_S X emb pc lv (.int x :: st) σ cm := by
  obtain ⟨p, l, e, s, m, args, below, meth, c, s0, G, d, mc, ms⟩ := X
  exact jd_pure (fun ls H locs cells slots Q _ w => lv_i2b hX.1 hX.2.1 hd rfl w) k
theorem jr_i2c (hX : jd_C X own nm cc nL ret) {x : Int32} (hd : decode cc pc = .ok (.i2c, 1)) (k : jd_S X emb (pc + 1) lv (.int (x.toUInt32 % 65536).toInt32 :: st) σ cm) : jd_S X emb pc lv (.int x :: st) σ cm := by
  obtain ⟨p, l, e, s, m, args, below, meth, c, s0, G, d, mc, ms⟩ := X
  exact jd_pure (fun ls H locs cells slots Q _ w => lv_i2c hX.1 hX.2.1 hd rfl w) k
theorem jr_iconst (hX : jd_C X own nm cc nL ret) {n : Int} (v : Int32) (hv : Int32.ofInt n = v) (hd : decode cc pc = .ok (.iconst n, 1)) (k : jd_S X emb (pc + 1) lv (.int v :: st) σ cm) : jd_S X emb pc lv st σ cm := by
  obtain ⟨p, l, e, s, m, args, below, meth, c, s0, G, d, mc, ms⟩ := X
  exact jd_pure (fun ls H locs cells slots Q _ w => lv_iconst hX.1 hX.2.1 hd hv w) k
theorem jr_bipush (hX : jd_C X own nm cc nL ret) {n : Int} (v : Int32) (hv : (Int8.ofInt n).toInt32 = v) (hd : decode cc pc = .ok (.bipush n, 2)) (k : jd_S X emb (pc + 2) lv (.int v :: st) σ cm) : jd_S X emb pc lv st σ cm := by
  obtain ⟨p, l, e, s, m, args, below, meth, c, s0, G, d, mc, ms⟩ := X
  exact jd_pure (fun ls H locs cells slots Q _ w => lv_bipush hX.1 hX.2.1 hd hv w) k
theorem jr_sipush (hX : jd_C X own nm cc nL ret) {n : Int} (v : Int32) (hv : (Int16.ofInt n).toInt32 = v) (hd : decode cc pc = .ok (.sipush n, 3)) (k : jd_S X emb (pc + 3) lv (.int v :: st) σ cm) : jd_S X emb pc lv st σ cm := by
  obtain ⟨p, l, e, s, m, args, below, meth, c, s0, G, d, mc, ms⟩ := X
  exact jd_pure (fun ls H locs cells slots Q _ w => lv_sipush hX.1 hX.2.1 hd hv w) k
theorem jr_lconst (hX : jd_C X own nm cc nL ret) {n : Fin 2} (v : Int64) (hv : Int64.ofNat (n : Nat) = v) (hd : decode cc pc = .ok (.lconst n, 1)) (k : jd_S X emb (pc + 1) lv (.long v :: st) σ cm) : jd_S X emb pc lv st σ cm := by
  obtain ⟨p, l, e, s, m, args, below, meth, c, s0, G, d, mc, ms⟩ := X
  exact jd_pure (fun ls H locs cells slots Q _ w => lv_lconst hX.1 hX.2.1 hd hv w) k
theorem jr_ldc (hX : jd_C X own nm cc nL ret) {idx : Nat} {v : Int32} (hw : Cond.constant own idx v ∈ jd_TB) (hd : decode cc pc = .ok (.ldc idx, 2)) (k : jd_S X emb (pc + 2) lv (.int v :: st) σ cm) : jd_S X emb pc lv st σ cm := by
  have hts := jd_words hX
  obtain ⟨p, l, e, s, m, args, below, meth, c, s0, G, d, mc, ms⟩ := X
  exact jd_pure (fun ls H locs cells slots Q _ w => lv_ldc hX.1 hX.2.1 hX.2.2.2.1 (hts _ hw) hd w) k
theorem jr_ldcw (hX : jd_C X own nm cc nL ret) {idx : Nat} {v : Int32} (hw : Cond.constant own idx v ∈ jd_TB) (hd : decode cc pc = .ok (.ldc_w idx, 3)) (k : jd_S X emb (pc + 3) lv (.int v :: st) σ cm) : jd_S X emb pc lv st σ cm := by
  have hts := jd_words hX
  obtain ⟨p, l, e, s, m, args, below, meth, c, s0, G, d, mc, ms⟩ := X
  exact jd_pure (fun ls H locs cells slots Q _ w => lv_ldcw hX.1 hX.2.1 hX.2.2.2.1 (hts _ hw) hd w) k
theorem jr_ldc2 (hX : jd_C X own nm cc nL ret) {idx : Nat} {v : Int64} (hw : Cond.constantLong own idx v ∈ jd_TB) (hd : decode cc pc = .ok (.ldc2_w idx, 3)) (k : jd_S X emb (pc + 3) lv (.long v :: st) σ cm) : jd_S X emb pc lv st σ cm := by
  have hts := jd_words hX
  obtain ⟨p, l, e, s, m, args, below, meth, c, s0, G, d, mc, ms⟩ := X
  exact jd_pure (fun ls H locs cells slots Q _ w => lv_ldc2 hX.1 hX.2.1 hX.2.2.2.1 (hts _ hw) hd w) k
theorem jr_dup (hX : jd_C X own nm cc nL ret) {v : Value} (hv : v.category = 1) (hd : decode cc pc = .ok (.dup, 1)) (k : jd_S X emb (pc + 1) lv (v :: v :: st) σ cm) : jd_S X emb pc lv (v :: st) σ cm := by
  obtain ⟨p, l, e, s, m, args, below, meth, c, s0, G, d, mc, ms⟩ := X
  exact jd_pure (fun ls H locs cells slots Q _ w => lv_dup hX.1 hX.2.1 hd hv w) k
theorem jr_pop (hX : jd_C X own nm cc nL ret) {v : Value} (hv : v.category = 1) (hd : decode cc pc = .ok (.pop, 1)) (k : jd_S X emb (pc + 1) lv st σ cm) : jd_S X emb pc lv (v :: st) σ cm := by
  obtain ⟨p, l, e, s, m, args, below, meth, c, s0, G, d, mc, ms⟩ := X
  exact jd_pure (fun ls H locs cells slots Q _ w => lv_pop hX.1 hX.2.1 hd hv w) k
theorem jr_dup2 (hX : jd_C X own nm cc nL ret) {v u : Value} (hv : v.category = 1) (hu : u.category = 1) (hd : decode cc pc = .ok (.dup2, 1)) (k : jd_S X emb (pc + 1) lv (v :: u :: v :: u :: st) σ cm) : jd_S X emb pc lv (v :: u :: st) σ cm := by
  obtain ⟨p, l, e, s, m, args, below, meth, c, s0, G, d, mc, ms⟩ := X
  exact jd_pure (fun ls H locs cells slots Q _ w => lv_dup2_11 hX.1 hX.2.1 hd hv hu w) k
theorem jr_goto (hX : jd_C X own nm cc nL ret) {off : Int} (tgt : Nat) (hd : decode cc pc = .ok (.goto off, 3)) (ht : (pc : Int) + off = (tgt : Int)) (k : jd_S X emb tgt lv st σ cm) : jd_S X emb pc lv st σ cm := by
  obtain ⟨p, l, e, s, m, args, below, meth, c, s0, G, d, mc, ms⟩ := X
  exact jd_pure (fun ls H locs cells slots Q _ w => lv_goto hX.1 hX.2.1 hd ht w) k
theorem jr_null (hX : jd_C X own nm cc nL ret) (hd : decode cc pc = .ok (.aconst_null, 1)) (k : jd_S X emb (pc + 1) lv (jd_v (jd_gG X) none :: st) σ cm) : jd_S X emb pc lv st σ cm := by
  obtain ⟨p, l, e, s, m, args, below, meth, c, s0, G, d, mc, ms⟩ := X
  exact jd_pure (fun ls H locs cells slots Q _ w => lv_null hX.1 hX.2.1 hd w) k
theorem jr_ifeq (hX : jd_C X own nm cc nL ret) {x : Int32} {off : Int} (tgt : Nat) {A B : Option (τ × jd_Hp)} (hd : decode cc pc = .ok (.ifCond .eq off, 3)) (ht : (pc : Int) + off = (tgt : Int)) (kt : jd_S X emb tgt lv st σ (jd_b A K)) (kf : jd_S X emb (pc + 3) lv st σ (jd_b B K)) : jd_S X emb pc lv (.int x :: st) σ (jd_b (jd_if (x = 0) A B) K) := by
  obtain ⟨p, l, e, s, m, args, below, meth, c, s0, G, d, mc, ms⟩ := X
  intro v σ' hv
  by_cases hc : x = 0
  · obtain ⟨h1, h2⟩ := kt v σ' (by rwa [jd_if, if_pos hc] at hv)
    exact ⟨h1, fun ls H locs cells slots a b c d f => lv_if_eq hX.1 hX.2.1 hd ht (fun _ => h2 ls H locs cells slots a b c d f) (fun n => absurd hc n)⟩
  · obtain ⟨h1, h2⟩ := kf v σ' (by rwa [jd_if, if_neg hc] at hv)
    exact ⟨h1, fun ls H locs cells slots a b c d f => lv_if_eq hX.1 hX.2.1 hd ht (fun n => absurd n hc) (fun _ => h2 ls H locs cells slots a b c d f)⟩
theorem jr_ifne (hX : jd_C X own nm cc nL ret) {x : Int32} {off : Int} (tgt : Nat) {A B : Option (τ × jd_Hp)} (hd : decode cc pc = .ok (.ifCond .ne off, 3)) (ht : (pc : Int) + off = (tgt : Int)) (kt : jd_S X emb tgt lv st σ (jd_b A K)) (kf : jd_S X emb (pc + 3) lv st σ (jd_b B K)) : jd_S X emb pc lv (.int x :: st) σ (jd_b (jd_if (¬ x = 0) A B) K) := by
  obtain ⟨p, l, e, s, m, args, below, meth, c, s0, G, d, mc, ms⟩ := X
  intro v σ' hv
  by_cases hc : ¬ x = 0
  · obtain ⟨h1, h2⟩ := kt v σ' (by rwa [jd_if, if_pos hc] at hv)
    exact ⟨h1, fun ls H locs cells slots a b c d f => lv_if_ne hX.1 hX.2.1 hd ht (fun _ => h2 ls H locs cells slots a b c d f) (fun n => absurd n hc)⟩
  · obtain ⟨h1, h2⟩ := kf v σ' (by rwa [jd_if, if_neg hc] at hv)
    exact ⟨h1, fun ls H locs cells slots a b c d f => lv_if_ne hX.1 hX.2.1 hd ht (fun n => absurd n hc) (fun _ => h2 ls H locs cells slots a b c d f)⟩
theorem jr_iflt (hX : jd_C X own nm cc nL ret) {x : Int32} {off : Int} (tgt : Nat) {A B : Option (τ × jd_Hp)} (hd : decode cc pc = .ok (.ifCond .lt off, 3)) (ht : (pc : Int) + off = (tgt : Int)) (kt : jd_S X emb tgt lv st σ (jd_b A K)) (kf : jd_S X emb (pc + 3) lv st σ (jd_b B K)) : jd_S X emb pc lv (.int x :: st) σ (jd_b (jd_if (x < 0) A B) K) := by
  obtain ⟨p, l, e, s, m, args, below, meth, c, s0, G, d, mc, ms⟩ := X
  intro v σ' hv
  by_cases hc : x < 0
  · obtain ⟨h1, h2⟩ := kt v σ' (by rwa [jd_if, if_pos hc] at hv)
    exact ⟨h1, fun ls H locs cells slots a b c d f => lv_if_lt hX.1 hX.2.1 hd ht (fun _ => h2 ls H locs cells slots a b c d f) (fun n => absurd hc n)⟩
  · obtain ⟨h1, h2⟩ := kf v σ' (by rwa [jd_if, if_neg hc] at hv)
    exact ⟨h1, fun ls H locs cells slots a b c d f => lv_if_lt hX.1 hX.2.1 hd ht (fun n => absurd n hc) (fun _ => h2 ls H locs cells slots a b c d f)⟩
theorem jr_ifge (hX : jd_C X own nm cc nL ret) {x : Int32} {off : Int} (tgt : Nat) {A B : Option (τ × jd_Hp)} (hd : decode cc pc = .ok (.ifCond .ge off, 3)) (ht : (pc : Int) + off = (tgt : Int)) (kt : jd_S X emb tgt lv st σ (jd_b A K)) (kf : jd_S X emb (pc + 3) lv st σ (jd_b B K)) : jd_S X emb pc lv (.int x :: st) σ (jd_b (jd_if (0 ≤ x) A B) K) := by
  obtain ⟨p, l, e, s, m, args, below, meth, c, s0, G, d, mc, ms⟩ := X
  intro v σ' hv
  by_cases hc : 0 ≤ x
  · obtain ⟨h1, h2⟩ := kt v σ' (by rwa [jd_if, if_pos hc] at hv)
    exact ⟨h1, fun ls H locs cells slots a b c d f => lv_if_ge hX.1 hX.2.1 hd ht (fun _ => h2 ls H locs cells slots a b c d f) (fun n => absurd hc n)⟩
  · obtain ⟨h1, h2⟩ := kf v σ' (by rwa [jd_if, if_neg hc] at hv)
    exact ⟨h1, fun ls H locs cells slots a b c d f => lv_if_ge hX.1 hX.2.1 hd ht (fun n => absurd n hc) (fun _ => h2 ls H locs cells slots a b c d f)⟩
theorem jr_ifgt (hX : jd_C X own nm cc nL ret) {x : Int32} {off : Int} (tgt : Nat) {A B : Option (τ × jd_Hp)} (hd : decode cc pc = .ok (.ifCond .gt off, 3)) (ht : (pc : Int) + off = (tgt : Int)) (kt : jd_S X emb tgt lv st σ (jd_b A K)) (kf : jd_S X emb (pc + 3) lv st σ (jd_b B K)) : jd_S X emb pc lv (.int x :: st) σ (jd_b (jd_if (0 < x) A B) K) := by
  obtain ⟨p, l, e, s, m, args, below, meth, c, s0, G, d, mc, ms⟩ := X
  intro v σ' hv
  by_cases hc : 0 < x
  · obtain ⟨h1, h2⟩ := kt v σ' (by rwa [jd_if, if_pos hc] at hv)
    exact ⟨h1, fun ls H locs cells slots a b c d f => lv_if_gt hX.1 hX.2.1 hd ht (fun _ => h2 ls H locs cells slots a b c d f) (fun n => absurd hc n)⟩
  · obtain ⟨h1, h2⟩ := kf v σ' (by rwa [jd_if, if_neg hc] at hv)
    exact ⟨h1, fun ls H locs cells slots a b c d f => lv_if_gt hX.1 hX.2.1 hd ht (fun n => absurd n hc) (fun _ => h2 ls H locs cells slots a b c d f)⟩
theorem jr_ifle (hX : jd_C X own nm cc nL ret) {x : Int32} {off : Int} (tgt : Nat) {A B : Option (τ × jd_Hp)} (hd : decode cc pc = .ok (.ifCond .le off, 3)) (ht : (pc : Int) + off = (tgt : Int)) (kt : jd_S X emb tgt lv st σ (jd_b A K)) (kf : jd_S X emb (pc + 3) lv st σ (jd_b B K)) : jd_S X emb pc lv (.int x :: st) σ (jd_b (jd_if (x ≤ 0) A B) K) := by
  obtain ⟨p, l, e, s, m, args, below, meth, c, s0, G, d, mc, ms⟩ := X
  intro v σ' hv
  by_cases hc : x ≤ 0
  · obtain ⟨h1, h2⟩ := kt v σ' (by rwa [jd_if, if_pos hc] at hv)
    exact ⟨h1, fun ls H locs cells slots a b c d f => lv_if_le hX.1 hX.2.1 hd ht (fun _ => h2 ls H locs cells slots a b c d f) (fun n => absurd hc n)⟩
  · obtain ⟨h1, h2⟩ := kf v σ' (by rwa [jd_if, if_neg hc] at hv)
    exact ⟨h1, fun ls H locs cells slots a b c d f => lv_if_le hX.1 hX.2.1 hd ht (fun n => absurd n hc) (fun _ => h2 ls H locs cells slots a b c d f)⟩
theorem jr_iceq (hX : jd_C X own nm cc nL ret) {x y : Int32} {off : Int} (tgt : Nat) {A B : Option (τ × jd_Hp)} (hd : decode cc pc = .ok (.if_icmp .eq off, 3)) (ht : (pc : Int) + off = (tgt : Int)) (kt : jd_S X emb tgt lv st σ (jd_b A K)) (kf : jd_S X emb (pc + 3) lv st σ (jd_b B K)) : jd_S X emb pc lv (.int y :: .int x :: st) σ (jd_b (jd_if (x = y) A B) K) := by
  obtain ⟨p, l, e, s, m, args, below, meth, c, s0, G, d, mc, ms⟩ := X
  intro v σ' hv
  by_cases hc : x = y
  · obtain ⟨h1, h2⟩ := kt v σ' (by rwa [jd_if, if_pos hc] at hv)
    exact ⟨h1, fun ls H locs cells slots a b c d f => lv_icmp_eq hX.1 hX.2.1 hd ht (fun _ => h2 ls H locs cells slots a b c d f) (fun n => absurd hc n)⟩
  · obtain ⟨h1, h2⟩ := kf v σ' (by rwa [jd_if, if_neg hc] at hv)
    exact ⟨h1, fun ls H locs cells slots a b c d f => lv_icmp_eq hX.1 hX.2.1 hd ht (fun n => absurd n hc) (fun _ => h2 ls H locs cells slots a b c d f)⟩
theorem jr_icne (hX : jd_C X own nm cc nL ret) {x y : Int32} {off : Int} (tgt : Nat) {A B : Option (τ × jd_Hp)} (hd : decode cc pc = .ok (.if_icmp .ne off, 3)) (ht : (pc : Int) + off = (tgt : Int)) (kt : jd_S X emb tgt lv st σ (jd_b A K)) (kf : jd_S X emb (pc + 3) lv st σ (jd_b B K)) : jd_S X emb pc lv (.int y :: .int x :: st) σ (jd_b (jd_if (¬ x = y) A B) K) := by
  obtain ⟨p, l, e, s, m, args, below, meth, c, s0, G, d, mc, ms⟩ := X
  intro v σ' hv
  by_cases hc : ¬ x = y
  · obtain ⟨h1, h2⟩ := kt v σ' (by rwa [jd_if, if_pos hc] at hv)
    exact ⟨h1, fun ls H locs cells slots a b c d f => lv_icmp_ne hX.1 hX.2.1 hd ht (fun _ => h2 ls H locs cells slots a b c d f) (fun n => absurd n hc)⟩
  · obtain ⟨h1, h2⟩ := kf v σ' (by rwa [jd_if, if_neg hc] at hv)
    exact ⟨h1, fun ls H locs cells slots a b c d f => lv_icmp_ne hX.1 hX.2.1 hd ht (fun n => absurd n hc) (fun _ => h2 ls H locs cells slots a b c d f)⟩
theorem jr_iclt (hX : jd_C X own nm cc nL ret) {x y : Int32} {off : Int} (tgt : Nat) {A B : Option (τ × jd_Hp)} (hd : decode cc pc = .ok (.if_icmp .lt off, 3)) (ht : (pc : Int) + off = (tgt : Int)) (kt : jd_S X emb tgt lv st σ (jd_b A K)) (kf : jd_S X emb (pc + 3) lv st σ (jd_b B K)) : jd_S X emb pc lv (.int y :: .int x :: st) σ (jd_b (jd_if (x < y) A B) K) := by
  obtain ⟨p, l, e, s, m, args, below, meth, c, s0, G, d, mc, ms⟩ := X
  intro v σ' hv
  by_cases hc : x < y
  · obtain ⟨h1, h2⟩ := kt v σ' (by rwa [jd_if, if_pos hc] at hv)
    exact ⟨h1, fun ls H locs cells slots a b c d f => lv_icmp_lt hX.1 hX.2.1 hd ht (fun _ => h2 ls H locs cells slots a b c d f) (fun n => absurd hc n)⟩
  · obtain ⟨h1, h2⟩ := kf v σ' (by rwa [jd_if, if_neg hc] at hv)
    exact ⟨h1, fun ls H locs cells slots a b c d f => lv_icmp_lt hX.1 hX.2.1 hd ht (fun n => absurd n hc) (fun _ => h2 ls H locs cells slots a b c d f)⟩
theorem jr_icge (hX : jd_C X own nm cc nL ret) {x y : Int32} {off : Int} (tgt : Nat) {A B : Option (τ × jd_Hp)} (hd : decode cc pc = .ok (.if_icmp .ge off, 3)) (ht : (pc : Int) + off = (tgt : Int)) (kt : jd_S X emb tgt lv st σ (jd_b A K)) (kf : jd_S X emb (pc + 3) lv st σ (jd_b B K)) : jd_S X emb pc lv (.int y :: .int x :: st) σ (jd_b (jd_if (y ≤ x) A B) K) := by
  obtain ⟨p, l, e, s, m, args, below, meth, c, s0, G, d, mc, ms⟩ := X
  intro v σ' hv
  by_cases hc : y ≤ x
  · obtain ⟨h1, h2⟩ := kt v σ' (by rwa [jd_if, if_pos hc] at hv)
    exact ⟨h1, fun ls H locs cells slots a b c d f => lv_icmp_ge hX.1 hX.2.1 hd ht (fun _ => h2 ls H locs cells slots a b c d f) (fun n => absurd hc n)⟩
  · obtain ⟨h1, h2⟩ := kf v σ' (by rwa [jd_if, if_neg hc] at hv)
    exact ⟨h1, fun ls H locs cells slots a b c d f => lv_icmp_ge hX.1 hX.2.1 hd ht (fun n => absurd n hc) (fun _ => h2 ls H locs cells slots a b c d f)⟩
theorem jr_icgt (hX : jd_C X own nm cc nL ret) {x y : Int32} {off : Int} (tgt : Nat) {A B : Option (τ × jd_Hp)} (hd : decode cc pc = .ok (.if_icmp .gt off, 3)) (ht : (pc : Int) + off = (tgt : Int)) (kt : jd_S X emb tgt lv st σ (jd_b A K)) (kf : jd_S X emb (pc + 3) lv st σ (jd_b B K)) : jd_S X emb pc lv (.int y :: .int x :: st) σ (jd_b (jd_if (y < x) A B) K) := by
  obtain ⟨p, l, e, s, m, args, below, meth, c, s0, G, d, mc, ms⟩ := X
  intro v σ' hv
  by_cases hc : y < x
  · obtain ⟨h1, h2⟩ := kt v σ' (by rwa [jd_if, if_pos hc] at hv)
    exact ⟨h1, fun ls H locs cells slots a b c d f => lv_icmp_gt hX.1 hX.2.1 hd ht (fun _ => h2 ls H locs cells slots a b c d f) (fun n => absurd hc n)⟩
  · obtain ⟨h1, h2⟩ := kf v σ' (by rwa [jd_if, if_neg hc] at hv)
    exact ⟨h1, fun ls H locs cells slots a b c d f => lv_icmp_gt hX.1 hX.2.1 hd ht (fun n => absurd n hc) (fun _ => h2 ls H locs cells slots a b c d f)⟩
theorem jr_icle (hX : jd_C X own nm cc nL ret) {x y : Int32} {off : Int} (tgt : Nat) {A B : Option (τ × jd_Hp)} (hd : decode cc pc = .ok (.if_icmp .le off, 3)) (ht : (pc : Int) + off = (tgt : Int)) (kt : jd_S X emb tgt lv st σ (jd_b A K)) (kf : jd_S X emb (pc + 3) lv st σ (jd_b B K)) : jd_S X emb pc lv (.int y :: .int x :: st) σ (jd_b (jd_if (x ≤ y) A B) K) := by
  obtain ⟨p, l, e, s, m, args, below, meth, c, s0, G, d, mc, ms⟩ := X
  intro v σ' hv
  by_cases hc : x ≤ y
  · obtain ⟨h1, h2⟩ := kt v σ' (by rwa [jd_if, if_pos hc] at hv)
    exact ⟨h1, fun ls H locs cells slots a b c d f => lv_icmp_le hX.1 hX.2.1 hd ht (fun _ => h2 ls H locs cells slots a b c d f) (fun n => absurd hc n)⟩
  · obtain ⟨h1, h2⟩ := kf v σ' (by rwa [jd_if, if_neg hc] at hv)
    exact ⟨h1, fun ls H locs cells slots a b c d f => lv_icmp_le hX.1 hX.2.1 hd ht (fun n => absurd n hc) (fun _ => h2 ls H locs cells slots a b c d f)⟩
theorem jr_ifnull (hX : jd_C X own nm cc nL ret) {o : Option Nat} {off : Int} (tgt : Nat) {A B : Option (τ × jd_Hp)} (hd : decode cc pc = .ok (.ifnull off, 3)) (ht : (pc : Int) + off = (tgt : Int)) (kt : jd_S X emb tgt lv st σ (jd_b A K)) (kf : jd_S X emb (pc + 3) lv st σ (jd_b B K)) : jd_S X emb pc lv (jd_v (jd_gG X) o :: st) σ (jd_b (jd_if (o = none) A B) K) := by
  obtain ⟨p, l, e, s, m, args, below, meth, c, s0, G, d, mc, ms⟩ := X
  intro v σ' hv
  cases o with
  | none =>
    obtain ⟨h1, h2⟩ := kt v σ' (by simpa [jd_if] using hv)
    exact ⟨h1, fun ls H locs cells slots a b c d f => lv_ifnullN hX.1 hX.2.1 hd ht (h2 ls H locs cells slots a b c d f)⟩
  | some x =>
    obtain ⟨h1, h2⟩ := kf v σ' (by simpa [jd_if] using hv)
    exact ⟨h1, fun ls H locs cells slots a b c d f => lv_ifnull hX.1 hX.2.1 hd (h2 ls H locs cells slots a b c d f)⟩
theorem jr_ifnonnull (hX : jd_C X own nm cc nL ret) {o : Option Nat} {off : Int} (tgt : Nat) {A B : Option (τ × jd_Hp)} (hd : decode cc pc = .ok (.ifnonnull off, 3)) (ht : (pc : Int) + off = (tgt : Int)) (kt : jd_S X emb tgt lv st σ (jd_b A K)) (kf : jd_S X emb (pc + 3) lv st σ (jd_b B K)) : jd_S X emb pc lv (jd_v (jd_gG X) o :: st) σ (jd_b (jd_if (¬ o = none) A B) K) := by
  obtain ⟨p, l, e, s, m, args, below, meth, c, s0, G, d, mc, ms⟩ := X
  intro v σ' hv
  cases o with
  | none =>
    obtain ⟨h1, h2⟩ := kf v σ' (by simpa [jd_if] using hv)
    exact ⟨h1, fun ls H locs cells slots a b c d f => lv_ifnonnullN hX.1 hX.2.1 hd (h2 ls H locs cells slots a b c d f)⟩
  | some x =>
    obtain ⟨h1, h2⟩ := kt v σ' (by simpa [jd_if] using hv)
    exact ⟨h1, fun ls H locs cells slots a b c d f => lv_ifnonnull hX.1 hX.2.1 hd ht (h2 ls H locs cells slots a b c d f)⟩
theorem jr_tsw (hX : jd_C X own nm cc nL ret) {x : Int32} {dflt lo hi : Int} {offs : Array Int} {len : Nat} (tds : List Nat) (td : Nat) {As : List (Option (τ × jd_Hp))} {B : Option (τ × jd_Hp)} (hd : decode cc pc = .ok (.tableswitch dflt lo hi offs, len)) (ht : (pc : Int) + dflt = (td : Int)) (hn : lo + As.length = hi + 1) (hts : offs.toList = tds.map (fun t : Nat => (t : Int) - (pc : Int))) (hl : tds.length = As.length)
    (kt : ∀ (i t : Nat) (A : Option (τ × jd_Hp)), tds[i]? = some t → As[i]? = some A → jd_S X emb t lv st σ (jd_b A K)) (kf : jd_S X emb td lv st σ (jd_b B K)) : jd_S X emb pc lv (.int x :: st) σ (jd_b (jd_sw x lo As B) K) := by
  obtain ⟨p, l, e, s, m, args, below, meth, c, s0, G, d, mc, ms⟩ := X
  intro v σ' hv
  by_cases h1 : x.toInt < lo
  · obtain ⟨k1, k2⟩ := kf v σ' (by rwa [jd_sw, if_pos h1] at hv)
    exact ⟨k1, fun ls H locs cells slots a b c d f => lv_tableOut hX.1 hX.2.1 hd (Or.inl h1) ht (k2 ls H locs cells slots a b c d f)⟩
  · rw [jd_sw, if_neg h1] at hv
    by_cases h2 : hi < x.toInt
    · have hge : As.length ≤ (x.toInt - lo).toNat := by omega
      rw [List.getD_eq_getElem?_getD, List.getElem?_eq_none hge] at hv
      obtain ⟨k1, k2⟩ := kf v σ' hv
      exact ⟨k1, fun ls H locs cells slots a b c d f => lv_tableOut hX.1 hX.2.1 hd (Or.inr h2) ht (k2 ls H locs cells slots a b c d f)⟩
    · have hlt : (x.toInt - lo).toNat < As.length := by omega
      have hlt' : (x.toInt - lo).toNat < tds.length := by omega
      have eA : As[(x.toInt - lo).toNat]? = some As[(x.toInt - lo).toNat] := List.getElem?_eq_getElem hlt
      have eT : tds[(x.toInt - lo).toNat]? = some tds[(x.toInt - lo).toNat] := List.getElem?_eq_getElem hlt'
      rw [List.getD_eq_getElem?_getD, eA] at hv
      obtain ⟨k1, k2⟩ := kt _ _ _ eT eA v σ' hv
      have ho : offs[(x.toInt - lo).toNat]? = some ((tds[(x.toInt - lo).toNat] : Int) - (pc : Int)) := by
        rw [← Array.getElem?_toList, hts, List.getElem?_map, eT]
        rfl
      exact ⟨k1, fun ls H locs cells slots a b c d f => lv_tableIn hX.1 hX.2.1 hd h1 h2 ho (by omega) (k2 ls H locs cells slots a b c d f)⟩
theorem jr_ild0 (hX : jd_C X own nm cc nL ret) {t : List (Option Value)} {x : Int32} (hd : decode cc pc = .ok (.iload_n 0, 1)) (k : jd_S X emb (pc + 1) (some (.int x) :: t) (.int x :: st) σ cm) : jd_S X emb pc (some (.int x) :: t) st σ cm := by
  obtain ⟨p, l, e, s, m, args, below, meth, c, s0, G, d, mc, ms⟩ := X
  exact jd_pure (fun ls H locs cells slots Q h w => lv_iload_n hX.1 hX.2.1 hd rfl (jd_at h (i := 0) rfl) w) k
theorem jr_lld0 (hX : jd_C X own nm cc nL ret) {t : List (Option Value)} {x : Int64} (hd : decode cc pc = .ok (.lload_n 0, 1)) (k : jd_S X emb (pc + 1) (some (.long x) :: t) (.long x :: st) σ cm) : jd_S X emb pc (some (.long x) :: t) st σ cm := by
  obtain ⟨p, l, e, s, m, args, below, meth, c, s0, G, d, mc, ms⟩ := X
  exact jd_pure (fun ls H locs cells slots Q h w => lv_lload_n hX.1 hX.2.1 hd rfl (jd_at h (i := 0) rfl) w) k
theorem jr_ald0 (hX : jd_C X own nm cc nL ret) {t : List (Option Value)} {o : Option Nat} (hd : decode cc pc = .ok (.aload_n 0, 1)) (k : jd_S X emb (pc + 1) (some (jd_v (jd_gG X) o) :: t) (jd_v (jd_gG X) o :: st) σ cm) : jd_S X emb pc (some (jd_v (jd_gG X) o) :: t) st σ cm := by
  obtain ⟨p, l, e, s, m, args, below, meth, c, s0, G, d, mc, ms⟩ := X
  cases o with
  | none => exact jd_pure (fun ls H locs cells slots Q h w => lv_aload_nN hX.1 hX.2.1 hd rfl (jd_at h (i := 0) rfl) w) k
  | some x => exact jd_pure (fun ls H locs cells slots Q h w => lv_aload_n hX.1 hX.2.1 hd rfl (jd_at h (i := 0) rfl) w) k
theorem jr_ist0 (hX : jd_C X own nm cc nL ret) {b : Option Value} {t : List (Option Value)} {x : Int32} (hd : decode cc pc = .ok (.istore_n 0, 1)) (k : jd_S X emb (pc + 1) (some (.int x) :: t) st σ cm) : jd_S X emb pc (b :: t) (.int x :: st) σ cm := by
  obtain ⟨p, l, e, s, m, args, below, meth, c, s0, G, d, mc, ms⟩ := X
  exact jd_loc (fun ls H locs cells slots Q h w => lv_istore_n hX.1 hX.2.1 hd rfl h.2 (by have := h.1; simp at this; omega) rfl (fun ls' h' => w ls' (jd_st1 (i := 0) h.1 h' (by have := h.1; simp at this; omega) jd_hc0))) k
theorem jr_ast0 (hX : jd_C X own nm cc nL ret) {b : Option Value} {t : List (Option Value)} {o : Option Nat} (hd : decode cc pc = .ok (.astore_n 0, 1)) (k : jd_S X emb (pc + 1) (some (jd_v (jd_gG X) o) :: t) st σ cm) : jd_S X emb pc (b :: t) (jd_v (jd_gG X) o :: st) σ cm := by
  obtain ⟨p, l, e, s, m, args, below, meth, c, s0, G, d, mc, ms⟩ := X
  cases o with
  | none => exact jd_loc (fun ls H locs cells slots Q h w => lv_astore_nN hX.1 hX.2.1 hd rfl h.2 (by have := h.1; simp at this; omega) rfl (fun ls' h' => w ls' (jd_st1 (i := 0) h.1 h' (by have := h.1; simp at this; omega) jd_hc0))) k
  | some x => exact jd_loc (fun ls H locs cells slots Q h w => lv_astore_n hX.1 hX.2.1 hd rfl h.2 (by have := h.1; simp at this; omega) rfl (fun ls' h' => w ls' (jd_st1 (i := 0) h.1 h' (by have := h.1; simp at this; omega) jd_hc0))) k
theorem jr_lst0 (hX : jd_C X own nm cc nL ret) {b b2 : Option Value} {t : List (Option Value)} {x : Int64} (hd : decode cc pc = .ok (.lstore_n 0, 1)) (k : jd_S X emb (pc + 1) (some (.long x) :: none :: t) st σ cm) : jd_S X emb pc (b :: b2 :: t) (.long x :: st) σ cm := by
  obtain ⟨p, l, e, s, m, args, below, meth, c, s0, G, d, mc, ms⟩ := X
  exact jd_loc (fun ls H locs cells slots Q h w => lv_lstore_n hX.1 hX.2.1 hd rfl h.2 (by have := h.1; simp at this; omega) rfl (fun ls' h' => w ls' (jd_st2 (i := 0) h.1 h' (by have := h.1; simp at this; omega) jd_hc0))) k
theorem jr_inc0 (hX : jd_C X own nm cc nL ret) {t : List (Option Value)} {x : Int32} {n : Int} (c : Int32) (hcc : Int32.ofInt n = c) (hd : decode cc pc = .ok (.iinc 0 n, 3)) (k : jd_S X emb (pc + 3) (some (.int (x + c)) :: t) st σ cm) : jd_S X emb pc (some (.int x) :: t) st σ cm := by
  obtain ⟨p, l, e, s, m, args, below, meth, c, s0, G, d, mc, ms⟩ := X
  refine jd_loc (fun ls H locs cells slots Q h w => ?_) k
  obtain ⟨k0, hk0⟩ := List.getElem?_of_mem (jd_al_mem (lv := some (.int x) :: t) (j := 0) (w := .int x) |>.mpr rfl)
  exact lv_iinc hX.1 hX.2.1 hd h.2 hk0 (by rw [hcc]) (by have := h.1; simp at this; omega) rfl (fun ls' h' => w ls' (jd_st1 (i := 0) h.1 h' (by have := h.1; simp at this; omega) jd_hc0))
theorem jr_ild1 (hX : jd_C X own nm cc nL ret) {a0 : Option Value} {t : List (Option Value)} {x : Int32} (hd : decode cc pc = .ok (.iload_n 1, 1)) (k : jd_S X emb (pc + 1) (a0 :: some (.int x) :: t) (.int x :: st) σ cm) : jd_S X emb pc (a0 :: some (.int x) :: t) st σ cm := by
  obtain ⟨p, l, e, s, m, args, below, meth, c, s0, G, d, mc, ms⟩ := X
  exact jd_pure (fun ls H locs cells slots Q h w => lv_iload_n hX.1 hX.2.1 hd rfl (jd_at h (i := 1) rfl) w) k
theorem jr_lld1 (hX : jd_C X own nm cc nL ret) {a0 : Option Value} {t : List (Option Value)} {x : Int64} (hd : decode cc pc = .ok (.lload_n 1, 1)) (k : jd_S X emb (pc + 1) (a0 :: some (.long x) :: t) (.long x :: st) σ cm) : jd_S X emb pc (a0 :: some (.long x) :: t) st σ cm := by
  obtain ⟨p, l, e, s, m, args, below, meth, c, s0, G, d, mc, ms⟩ := X
  exact jd_pure (fun ls H locs cells slots Q h w => lv_lload_n hX.1 hX.2.1 hd rfl (jd_at h (i := 1) rfl) w) k
theorem jr_ald1 (hX : jd_C X own nm cc nL ret) {a0 : Option Value} {t : List (Option Value)} {o : Option Nat} (hd : decode cc pc = .ok (.aload_n 1, 1)) (k : jd_S X emb (pc + 1) (a0 :: some (jd_v (jd_gG X) o) :: t) (jd_v (jd_gG X) o :: st) σ cm) : jd_S X emb pc (a0 :: some (jd_v (jd_gG X) o) :: t) st σ cm := by
  obtain ⟨p, l, e, s, m, args, below, meth, c, s0, G, d, mc, ms⟩ := X
  cases o with
  | none => exact jd_pure (fun ls H locs cells slots Q h w => lv_aload_nN hX.1 hX.2.1 hd rfl (jd_at h (i := 1) rfl) w) k
  | some x => exact jd_pure (fun ls H locs cells slots Q h w => lv_aload_n hX.1 hX.2.1 hd rfl (jd_at h (i := 1) rfl) w) k
theorem jr_ist1 (hX : jd_C X own nm cc nL ret) {a0 : Option Value} {b : Option Value} {t : List (Option Value)} {x : Int32} (hc : jd_nl a0 = true) (hd : decode cc pc = .ok (.istore_n 1, 1)) (k : jd_S X emb (pc + 1) (a0 :: some (.int x) :: t) st σ cm) : jd_S X emb pc (a0 :: b :: t) (.int x :: st) σ cm := by
  obtain ⟨p, l, e, s, m, args, below, meth, c, s0, G, d, mc, ms⟩ := X
  exact jd_loc (fun ls H locs cells slots Q h w => lv_istore_n hX.1 hX.2.1 hd rfl h.2 (by have := h.1; simp at this; omega) rfl (fun ls' h' => w ls' (jd_st1 (i := 1) h.1 h' (by have := h.1; simp at this; omega) (jd_hc (i := 0) rfl hc)))) k
theorem jr_ast1 (hX : jd_C X own nm cc nL ret) {a0 : Option Value} {b : Option Value} {t : List (Option Value)} {o : Option Nat} (hc : jd_nl a0 = true) (hd : decode cc pc = .ok (.astore_n 1, 1)) (k : jd_S X emb (pc + 1) (a0 :: some (jd_v (jd_gG X) o) :: t) st σ cm) : jd_S X emb pc (a0 :: b :: t) (jd_v (jd_gG X) o :: st) σ cm := by
  obtain ⟨p, l, e, s, m, args, below, meth, c, s0, G, d, mc, ms⟩ := X
  cases o with
  | none => exact jd_loc (fun ls H locs cells slots Q h w => lv_astore_nN hX.1 hX.2.1 hd rfl h.2 (by have := h.1; simp at this; omega) rfl (fun ls' h' => w ls' (jd_st1 (i := 1) h.1 h' (by have := h.1; simp at this; omega) (jd_hc (i := 0) rfl hc)))) k
  | some x => exact jd_loc (fun ls H locs cells slots Q h w => lv_astore_n hX.1 hX.2.1 hd rfl h.2 (by have := h.1; simp at this; omega) rfl (fun ls' h' => w ls' (jd_st1 (i := 1) h.1 h' (by have := h.1; simp at this; omega) (jd_hc (i := 0) rfl hc)))) k
theorem jr_lst1 (hX : jd_C X own nm cc nL ret) {a0 : Option Value} {b b2 : Option Value} {t : List (Option Value)} {x : Int64} (hc : jd_nl a0 = true) (hd : decode cc pc = .ok (.lstore_n 1, 1)) (k : jd_S X emb (pc + 1) (a0 :: some (.long x) :: none :: t) st σ cm) : jd_S X emb pc (a0 :: b :: b2 :: t) (.long x :: st) σ cm := by
  obtain ⟨p, l, e, s, m, args, below, meth, c, s0, G, d, mc, ms⟩ := X
  exact jd_loc (fun ls H locs cells slots Q h w => lv_lstore_n hX.1 hX.2.1 hd rfl h.2 (by have := h.1; simp at this; omega) rfl (fun ls' h' => w ls' (jd_st2 (i := 1) h.1 h' (by have := h.1; simp at this; omega) (jd_hc (i := 0) rfl hc)))) k
theorem jr_inc1 (hX : jd_C X own nm cc nL ret) {a0 : Option Value} {t : List (Option Value)} {x : Int32} {n : Int} (c : Int32) (hcc : Int32.ofInt n = c) (hc : jd_nl a0 = true) (hd : decode cc pc = .ok (.iinc 1 n, 3)) (k : jd_S X emb (pc + 3) (a0 :: some (.int (x + c)) :: t) st σ cm) : jd_S X emb pc (a0 :: some (.int x) :: t) st σ cm := by
  obtain ⟨p, l, e, s, m, args, below, meth, c, s0, G, d, mc, ms⟩ := X
  refine jd_loc (fun ls H locs cells slots Q h w => ?_) k
  obtain ⟨k0, hk0⟩ := List.getElem?_of_mem (jd_al_mem (lv := a0 :: some (.int x) :: t) (j := 1) (w := .int x) |>.mpr rfl)
  exact lv_iinc hX.1 hX.2.1 hd h.2 hk0 (by rw [hcc]) (by have := h.1; simp at this; omega) rfl (fun ls' h' => w ls' (jd_st1 (i := 1) h.1 h' (by have := h.1; simp at this; omega) (jd_hc (i := 0) rfl hc)))
theorem jr_ild2 (hX : jd_C X own nm cc nL ret) {a0 a1 : Option Value} {t : List (Option Value)} {x : Int32} (hd : decode cc pc = .ok (.iload_n 2, 1)) (k : jd_S X emb (pc + 1) (a0 :: a1 :: some (.int x) :: t) (.int x :: st) σ cm) : jd_S X emb pc (a0 :: a1 :: some (.int x) :: t) st σ cm := by
  obtain ⟨p, l, e, s, m, args, below, meth, c, s0, G, d, mc, ms⟩ := X
  exact jd_pure (fun ls H locs cells slots Q h w => lv_iload_n hX.1 hX.2.1 hd rfl (jd_at h (i := 2) rfl) w) k
theorem jr_lld2 (hX : jd_C X own nm cc nL ret) {a0 a1 : Option Value} {t : List (Option Value)} {x : Int64} (hd : decode cc pc = .ok (.lload_n 2, 1)) (k : jd_S X emb (pc + 1) (a0 :: a1 :: some (.long x) :: t) (.long x :: st) σ cm) : jd_S X emb pc (a0 :: a1 :: some (.long x) :: t) st σ cm := by
  obtain ⟨p, l, e, s, m, args, below, meth, c, s0, G, d, mc, ms⟩ := X
  exact jd_pure (fun ls H locs cells slots Q h w => lv_lload_n hX.1 hX.2.1 hd rfl (jd_at h (i := 2) rfl) w) k
theorem jr_ald2 (hX : jd_C X own nm cc nL ret) {a0 a1 : Option Value} {t : List (Option Value)} {o : Option Nat} (hd : decode cc pc = .ok (.aload_n 2, 1)) (k : jd_S X emb (pc + 1) (a0 :: a1 :: some (jd_v (jd_gG X) o) :: t) (jd_v (jd_gG X) o :: st) σ cm) : jd_S X emb pc (a0 :: a1 :: some (jd_v (jd_gG X) o) :: t) st σ cm := by
  obtain ⟨p, l, e, s, m, args, below, meth, c, s0, G, d, mc, ms⟩ := X
  cases o with
  | none => exact jd_pure (fun ls H locs cells slots Q h w => lv_aload_nN hX.1 hX.2.1 hd rfl (jd_at h (i := 2) rfl) w) k
  | some x => exact jd_pure (fun ls H locs cells slots Q h w => lv_aload_n hX.1 hX.2.1 hd rfl (jd_at h (i := 2) rfl) w) k
theorem jr_ist2 (hX : jd_C X own nm cc nL ret) {a0 a1 : Option Value} {b : Option Value} {t : List (Option Value)} {x : Int32} (hc : jd_nl a1 = true) (hd : decode cc pc = .ok (.istore_n 2, 1)) (k : jd_S X emb (pc + 1) (a0 :: a1 :: some (.int x) :: t) st σ cm) : jd_S X emb pc (a0 :: a1 :: b :: t) (.int x :: st) σ cm := by
  obtain ⟨p, l, e, s, m, args, below, meth, c, s0, G, d, mc, ms⟩ := X
  exact jd_loc (fun ls H locs cells slots Q h w => lv_istore_n hX.1 hX.2.1 hd rfl h.2 (by have := h.1; simp at this; omega) rfl (fun ls' h' => w ls' (jd_st1 (i := 2) h.1 h' (by have := h.1; simp at this; omega) (jd_hc (i := 1) rfl hc)))) k
theorem jr_ast2 (hX : jd_C X own nm cc nL ret) {a0 a1 : Option Value} {b : Option Value} {t : List (Option Value)} {o : Option Nat} (hc : jd_nl a1 = true) (hd : decode cc pc = .ok (.astore_n 2, 1)) (k : jd_S X emb (pc + 1) (a0 :: a1 :: some (jd_v (jd_gG X) o) :: t) st σ cm) : jd_S X emb pc (a0 :: a1 :: b :: t) (jd_v (jd_gG X) o :: st) σ cm := by
  obtain ⟨p, l, e, s, m, args, below, meth, c, s0, G, d, mc, ms⟩ := X
  cases o with
  | none => exact jd_loc (fun ls H locs cells slots Q h w => lv_astore_nN hX.1 hX.2.1 hd rfl h.2 (by have := h.1; simp at this; omega) rfl (fun ls' h' => w ls' (jd_st1 (i := 2) h.1 h' (by have := h.1; simp at this; omega) (jd_hc (i := 1) rfl hc)))) k
  | some x => exact jd_loc (fun ls H locs cells slots Q h w => lv_astore_n hX.1 hX.2.1 hd rfl h.2 (by have := h.1; simp at this; omega) rfl (fun ls' h' => w ls' (jd_st1 (i := 2) h.1 h' (by have := h.1; simp at this; omega) (jd_hc (i := 1) rfl hc)))) k
theorem jr_lst2 (hX : jd_C X own nm cc nL ret) {a0 a1 : Option Value} {b b2 : Option Value} {t : List (Option Value)} {x : Int64} (hc : jd_nl a1 = true) (hd : decode cc pc = .ok (.lstore_n 2, 1)) (k : jd_S X emb (pc + 1) (a0 :: a1 :: some (.long x) :: none :: t) st σ cm) : jd_S X emb pc (a0 :: a1 :: b :: b2 :: t) (.long x :: st) σ cm := by
  obtain ⟨p, l, e, s, m, args, below, meth, c, s0, G, d, mc, ms⟩ := X
  exact jd_loc (fun ls H locs cells slots Q h w => lv_lstore_n hX.1 hX.2.1 hd rfl h.2 (by have := h.1; simp at this; omega) rfl (fun ls' h' => w ls' (jd_st2 (i := 2) h.1 h' (by have := h.1; simp at this; omega) (jd_hc (i := 1) rfl hc)))) k
theorem jr_inc2 (hX : jd_C X own nm cc nL ret) {a0 a1 : Option Value} {t : List (Option Value)} {x : Int32} {n : Int} (c : Int32) (hcc : Int32.ofInt n = c) (hc : jd_nl a1 = true) (hd : decode cc pc = .ok (.iinc 2 n, 3)) (k : jd_S X emb (pc + 3) (a0 :: a1 :: some (.int (x + c)) :: t) st σ cm) : jd_S X emb pc (a0 :: a1 :: some (.int x) :: t) st σ cm := by
  obtain ⟨p, l, e, s, m, args, below, meth, c, s0, G, d, mc, ms⟩ := X
  refine jd_loc (fun ls H locs cells slots Q h w => ?_) k
  obtain ⟨k0, hk0⟩ := List.getElem?_of_mem (jd_al_mem (lv := a0 :: a1 :: some (.int x) :: t) (j := 2) (w := .int x) |>.mpr rfl)
  exact lv_iinc hX.1 hX.2.1 hd h.2 hk0 (by rw [hcc]) (by have := h.1; simp at this; omega) rfl (fun ls' h' => w ls' (jd_st1 (i := 2) h.1 h' (by have := h.1; simp at this; omega) (jd_hc (i := 1) rfl hc)))
theorem jr_ild3 (hX : jd_C X own nm cc nL ret) {a0 a1 a2 : Option Value} {t : List (Option Value)} {x : Int32} (hd : decode cc pc = .ok (.iload_n 3, 1)) (k : jd_S X emb (pc + 1) (a0 :: a1 :: a2 :: some (.int x) :: t) (.int x :: st) σ cm) : jd_S X emb pc (a0 :: a1 :: a2 :: some (.int x) :: t) st σ cm := by
  obtain ⟨p, l, e, s, m, args, below, meth, c, s0, G, d, mc, ms⟩ := X
  exact jd_pure (fun ls H locs cells slots Q h w => lv_iload_n hX.1 hX.2.1 hd rfl (jd_at h (i := 3) rfl) w) k
theorem jr_lld3 (hX : jd_C X own nm cc nL ret) {a0 a1 a2 : Option Value} {t : List (Option Value)} {x : Int64} (hd : decode cc pc = .ok (.lload_n 3, 1)) (k : jd_S X emb (pc + 1) (a0 :: a1 :: a2 :: some (.long x) :: t) (.long x :: st) σ cm) : jd_S X emb pc (a0 :: a1 :: a2 :: some (.long x) :: t) st σ cm := by
  obtain ⟨p, l, e, s, m, args, below, meth, c, s0, G, d, mc, ms⟩ := X
  exact jd_pure (fun ls H locs cells slots Q h w => lv_lload_n hX.1 hX.2.1 hd rfl (jd_at h (i := 3) rfl) w) k
theorem jr_ald3 (hX : jd_C X own nm cc nL ret) {a0 a1 a2 : Option Value} {t : List (Option Value)} {o : Option Nat} (hd : decode cc pc = .ok (.aload_n 3, 1)) (k : jd_S X emb (pc + 1) (a0 :: a1 :: a2 :: some (jd_v (jd_gG X) o) :: t) (jd_v (jd_gG X) o :: st) σ cm) : jd_S X emb pc (a0 :: a1 :: a2 :: some (jd_v (jd_gG X) o) :: t) st σ cm := by
  obtain ⟨p, l, e, s, m, args, below, meth, c, s0, G, d, mc, ms⟩ := X
  cases o with
  | none => exact jd_pure (fun ls H locs cells slots Q h w => lv_aload_nN hX.1 hX.2.1 hd rfl (jd_at h (i := 3) rfl) w) k
  | some x => exact jd_pure (fun ls H locs cells slots Q h w => lv_aload_n hX.1 hX.2.1 hd rfl (jd_at h (i := 3) rfl) w) k
theorem jr_ist3 (hX : jd_C X own nm cc nL ret) {a0 a1 a2 : Option Value} {b : Option Value} {t : List (Option Value)} {x : Int32} (hc : jd_nl a2 = true) (hd : decode cc pc = .ok (.istore_n 3, 1)) (k : jd_S X emb (pc + 1) (a0 :: a1 :: a2 :: some (.int x) :: t) st σ cm) : jd_S X emb pc (a0 :: a1 :: a2 :: b :: t) (.int x :: st) σ cm := by
  obtain ⟨p, l, e, s, m, args, below, meth, c, s0, G, d, mc, ms⟩ := X
  exact jd_loc (fun ls H locs cells slots Q h w => lv_istore_n hX.1 hX.2.1 hd rfl h.2 (by have := h.1; simp at this; omega) rfl (fun ls' h' => w ls' (jd_st1 (i := 3) h.1 h' (by have := h.1; simp at this; omega) (jd_hc (i := 2) rfl hc)))) k
theorem jr_ast3 (hX : jd_C X own nm cc nL ret) {a0 a1 a2 : Option Value} {b : Option Value} {t : List (Option Value)} {o : Option Nat} (hc : jd_nl a2 = true) (hd : decode cc pc = .ok (.astore_n 3, 1)) (k : jd_S X emb (pc + 1) (a0 :: a1 :: a2 :: some (jd_v (jd_gG X) o) :: t) st σ cm) : jd_S X emb pc (a0 :: a1 :: a2 :: b :: t) (jd_v (jd_gG X) o :: st) σ cm := by
  obtain ⟨p, l, e, s, m, args, below, meth, c, s0, G, d, mc, ms⟩ := X
  cases o with
  | none => exact jd_loc (fun ls H locs cells slots Q h w => lv_astore_nN hX.1 hX.2.1 hd rfl h.2 (by have := h.1; simp at this; omega) rfl (fun ls' h' => w ls' (jd_st1 (i := 3) h.1 h' (by have := h.1; simp at this; omega) (jd_hc (i := 2) rfl hc)))) k
  | some x => exact jd_loc (fun ls H locs cells slots Q h w => lv_astore_n hX.1 hX.2.1 hd rfl h.2 (by have := h.1; simp at this; omega) rfl (fun ls' h' => w ls' (jd_st1 (i := 3) h.1 h' (by have := h.1; simp at this; omega) (jd_hc (i := 2) rfl hc)))) k
theorem jr_lst3 (hX : jd_C X own nm cc nL ret) {a0 a1 a2 : Option Value} {b b2 : Option Value} {t : List (Option Value)} {x : Int64} (hc : jd_nl a2 = true) (hd : decode cc pc = .ok (.lstore_n 3, 1)) (k : jd_S X emb (pc + 1) (a0 :: a1 :: a2 :: some (.long x) :: none :: t) st σ cm) : jd_S X emb pc (a0 :: a1 :: a2 :: b :: b2 :: t) (.long x :: st) σ cm := by
  obtain ⟨p, l, e, s, m, args, below, meth, c, s0, G, d, mc, ms⟩ := X
  exact jd_loc (fun ls H locs cells slots Q h w => lv_lstore_n hX.1 hX.2.1 hd rfl h.2 (by have := h.1; simp at this; omega) rfl (fun ls' h' => w ls' (jd_st2 (i := 3) h.1 h' (by have := h.1; simp at this; omega) (jd_hc (i := 2) rfl hc)))) k
theorem jr_inc3 (hX : jd_C X own nm cc nL ret) {a0 a1 a2 : Option Value} {t : List (Option Value)} {x : Int32} {n : Int} (c : Int32) (hcc : Int32.ofInt n = c) (hc : jd_nl a2 = true) (hd : decode cc pc = .ok (.iinc 3 n, 3)) (k : jd_S X emb (pc + 3) (a0 :: a1 :: a2 :: some (.int (x + c)) :: t) st σ cm) : jd_S X emb pc (a0 :: a1 :: a2 :: some (.int x) :: t) st σ cm := by
  obtain ⟨p, l, e, s, m, args, below, meth, c, s0, G, d, mc, ms⟩ := X
  refine jd_loc (fun ls H locs cells slots Q h w => ?_) k
  obtain ⟨k0, hk0⟩ := List.getElem?_of_mem (jd_al_mem (lv := a0 :: a1 :: a2 :: some (.int x) :: t) (j := 3) (w := .int x) |>.mpr rfl)
  exact lv_iinc hX.1 hX.2.1 hd h.2 hk0 (by rw [hcc]) (by have := h.1; simp at this; omega) rfl (fun ls' h' => w ls' (jd_st1 (i := 3) h.1 h' (by have := h.1; simp at this; omega) (jd_hc (i := 2) rfl hc)))
theorem jr_ild4 (hX : jd_C X own nm cc nL ret) {a0 a1 a2 a3 : Option Value} {t : List (Option Value)} {x : Int32} (hd : decode cc pc = .ok (.iload 4, 2)) (k : jd_S X emb (pc + 2) (a0 :: a1 :: a2 :: a3 :: some (.int x) :: t) (.int x :: st) σ cm) : jd_S X emb pc (a0 :: a1 :: a2 :: a3 :: some (.int x) :: t) st σ cm := by
  obtain ⟨p, l, e, s, m, args, below, meth, c, s0, G, d, mc, ms⟩ := X
  exact jd_pure (fun ls H locs cells slots Q h w => lv_iload hX.1 hX.2.1 hd (jd_at h (i := 4) rfl) w) k
theorem jr_lld4 (hX : jd_C X own nm cc nL ret) {a0 a1 a2 a3 : Option Value} {t : List (Option Value)} {x : Int64} (hd : decode cc pc = .ok (.lload 4, 2)) (k : jd_S X emb (pc + 2) (a0 :: a1 :: a2 :: a3 :: some (.long x) :: t) (.long x :: st) σ cm) : jd_S X emb pc (a0 :: a1 :: a2 :: a3 :: some (.long x) :: t) st σ cm := by
  obtain ⟨p, l, e, s, m, args, below, meth, c, s0, G, d, mc, ms⟩ := X
  exact jd_pure (fun ls H locs cells slots Q h w => lv_lload hX.1 hX.2.1 hd (jd_at h (i := 4) rfl) w) k
theorem jr_ald4 (hX : jd_C X own nm cc nL ret) {a0 a1 a2 a3 : Option Value} {t : List (Option Value)} {o : Option Nat} (hd : decode cc pc = .ok (.aload 4, 2)) (k : jd_S X emb (pc + 2) (a0 :: a1 :: a2 :: a3 :: some (jd_v (jd_gG X) o) :: t) (jd_v (jd_gG X) o :: st) σ cm) : jd_S X emb pc (a0 :: a1 :: a2 :: a3 :: some (jd_v (jd_gG X) o) :: t) st σ cm := by
  obtain ⟨p, l, e, s, m, args, below, meth, c, s0, G, d, mc, ms⟩ := X
  cases o with
  | none => exact jd_pure (fun ls H locs cells slots Q h w => lv_aloadN hX.1 hX.2.1 hd (jd_at h (i := 4) rfl) w) k
  | some x => exact jd_pure (fun ls H locs cells slots Q h w => lv_aload hX.1 hX.2.1 hd (jd_at h (i := 4) rfl) w) k
theorem jr_ist4 (hX : jd_C X own nm cc nL ret) {a0 a1 a2 a3 : Option Value} {b : Option Value} {t : List (Option Value)} {x : Int32} (hc : jd_nl a3 = true) (hd : decode cc pc = .ok (.istore 4, 2)) (k : jd_S X emb (pc + 2) (a0 :: a1 :: a2 :: a3 :: some (.int x) :: t) st σ cm) : jd_S X emb pc (a0 :: a1 :: a2 :: a3 :: b :: t) (.int x :: st) σ cm := by
  obtain ⟨p, l, e, s, m, args, below, meth, c, s0, G, d, mc, ms⟩ := X
  exact jd_loc (fun ls H locs cells slots Q h w => lv_istore hX.1 hX.2.1 hd h.2 (by have := h.1; simp at this; omega) rfl (fun ls' h' => w ls' (jd_st1 (i := 4) h.1 h' (by have := h.1; simp at this; omega) (jd_hc (i := 3) rfl hc)))) k
theorem jr_ast4 (hX : jd_C X own nm cc nL ret) {a0 a1 a2 a3 : Option Value} {b : Option Value} {t : List (Option Value)} {o : Option Nat} (hc : jd_nl a3 = true) (hd : decode cc pc = .ok (.astore 4, 2)) (k : jd_S X emb (pc + 2) (a0 :: a1 :: a2 :: a3 :: some (jd_v (jd_gG X) o) :: t) st σ cm) : jd_S X emb pc (a0 :: a1 :: a2 :: a3 :: b :: t) (jd_v (jd_gG X) o :: st) σ cm := by
  obtain ⟨p, l, e, s, m, args, below, meth, c, s0, G, d, mc, ms⟩ := X
  cases o with
  | none => exact jd_loc (fun ls H locs cells slots Q h w => lv_astoreN hX.1 hX.2.1 hd h.2 (by have := h.1; simp at this; omega) rfl (fun ls' h' => w ls' (jd_st1 (i := 4) h.1 h' (by have := h.1; simp at this; omega) (jd_hc (i := 3) rfl hc)))) k
  | some x => exact jd_loc (fun ls H locs cells slots Q h w => lv_astore hX.1 hX.2.1 hd h.2 (by have := h.1; simp at this; omega) rfl (fun ls' h' => w ls' (jd_st1 (i := 4) h.1 h' (by have := h.1; simp at this; omega) (jd_hc (i := 3) rfl hc)))) k
theorem jr_lst4 (hX : jd_C X own nm cc nL ret) {a0 a1 a2 a3 : Option Value} {b b2 : Option Value} {t : List (Option Value)} {x : Int64} (hc : jd_nl a3 = true) (hd : decode cc pc = .ok (.lstore 4, 2)) (k : jd_S X emb (pc + 2) (a0 :: a1 :: a2 :: a3 :: some (.long x) :: none :: t) st σ cm) : jd_S X emb pc (a0 :: a1 :: a2 :: a3 :: b :: b2 :: t) (.long x :: st) σ cm := by
  obtain ⟨p, l, e, s, m, args, below, meth, c, s0, G, d, mc, ms⟩ := X
  exact jd_loc (fun ls H locs cells slots Q h w => lv_lstore hX.1 hX.2.1 hd h.2 (by have := h.1; simp at this; omega) rfl (fun ls' h' => w ls' (jd_st2 (i := 4) h.1 h' (by have := h.1; simp at this; omega) (jd_hc (i := 3) rfl hc)))) k
theorem jr_inc4 (hX : jd_C X own nm cc nL ret) {a0 a1 a2 a3 : Option Value} {t : List (Option Value)} {x : Int32} {n : Int} (c : Int32) (hcc : Int32.ofInt n = c) (hc : jd_nl a3 = true) (hd : decode cc pc = .ok (.iinc 4 n, 3)) (k : jd_S X emb (pc + 3) (a0 :: a1 :: a2 :: a3 :: some (.int (x + c)) :: t) st σ cm) : jd_S X emb pc (a0 :: a1 :: a2 :: a3 :: some (.int x) :: t) st σ cm := by
  obtain ⟨p, l, e, s, m, args, below, meth, c, s0, G, d, mc, ms⟩ := X
  refine jd_loc (fun ls H locs cells slots Q h w => ?_) k
  obtain ⟨k0, hk0⟩ := List.getElem?_of_mem (jd_al_mem (lv := a0 :: a1 :: a2 :: a3 :: some (.int x) :: t) (j := 4) (w := .int x) |>.mpr rfl)
  exact lv_iinc hX.1 hX.2.1 hd h.2 hk0 (by rw [hcc]) (by have := h.1; simp at this; omega) rfl (fun ls' h' => w ls' (jd_st1 (i := 4) h.1 h' (by have := h.1; simp at this; omega) (jd_hc (i := 3) rfl hc)))
theorem jr_ild5 (hX : jd_C X own nm cc nL ret) {a0 a1 a2 a3 a4 : Option Value} {t : List (Option Value)} {x : Int32} (hd : decode cc pc = .ok (.iload 5, 2)) (k : jd_S X emb (pc + 2) (a0 :: a1 :: a2 :: a3 :: a4 :: some (.int x) :: t) (.int x :: st) σ cm) : jd_S X emb pc (a0 :: a1 :: a2 :: a3 :: a4 :: some (.int x) :: t) st σ cm := by
  obtain ⟨p, l, e, s, m, args, below, meth, c, s0, G, d, mc, ms⟩ := X
  exact jd_pure (fun ls H locs cells slots Q h w => lv_iload hX.1 hX.2.1 hd (jd_at h (i := 5) rfl) w) k
theorem jr_lld5 (hX : jd_C X own nm cc nL ret) {a0 a1 a2 a3 a4 : Option Value} {t : List (Option Value)} {x : Int64} (hd : decode cc pc = .ok (.lload 5, 2)) (k : jd_S X emb (pc + 2) (a0 :: a1 :: a2 :: a3 :: a4 :: some (.long x) :: t) (.long x :: st) σ cm) : jd_S X emb pc (a0 :: a1 :: a2 :: a3 :: a4 :: some (.long x) :: t) st σ cm := by
  obtain ⟨p, l, e, s, m, args, below, meth, c, s0, G, d, mc, ms⟩ := X
  exact jd_pure (fun ls H locs cells slots Q h w => lv_lload hX.1 hX.2.1 hd (jd_at h (i := 5) rfl) w) k
theorem jr_ald5 (hX : jd_C X own nm cc nL ret) {a0 a1 a2 a3 a4 : Option Value} {t : List (Option Value)} {o : Option Nat} (hd : decode cc pc = .ok (.aload 5, 2)) (k : jd_S X emb (pc + 2) (a0 :: a1 :: a2 :: a3 :: a4 :: some (jd_v (jd_gG X) o) :: t) (jd_v (jd_gG X) o :: st) σ cm) : jd_S X emb pc (a0 :: a1 :: a2 :: a3 :: a4 :: some (jd_v (jd_gG X) o) :: t) st σ cm := by
  obtain ⟨p, l, e, s, m, args, below, meth, c, s0, G, d, mc, ms⟩ := X
  cases o with
  | none => exact jd_pure (fun ls H locs cells slots Q h w => lv_aloadN hX.1 hX.2.1 hd (jd_at h (i := 5) rfl) w) k
  | some x => exact jd_pure (fun ls H locs cells slots Q h w => lv_aload hX.1 hX.2.1 hd (jd_at h (i := 5) rfl) w) k
theorem jr_ist5 (hX : jd_C X own nm cc nL ret) {a0 a1 a2 a3 a4 : Option Value} {b : Option Value} {t : List (Option Value)} {x : Int32} (hc : jd_nl a4 = true) (hd : decode cc pc = .ok (.istore 5, 2)) (k : jd_S X emb (pc + 2) (a0 :: a1 :: a2 :: a3 :: a4 :: some (.int x) :: t) st σ cm) : jd_S X emb pc (a0 :: a1 :: a2 :: a3 :: a4 :: b :: t) (.int x :: st) σ cm := by
  obtain ⟨p, l, e, s, m, args, below, meth, c, s0, G, d, mc, ms⟩ := X
  exact jd_loc (fun ls H locs cells slots Q h w => lv_istore hX.1 hX.2.1 hd h.2 (by have := h.1; simp at this; omega) rfl (fun ls' h' => w ls' (jd_st1 (i := 5) h.1 h' (by have := h.1; simp at this; omega) (jd_hc (i := 4) rfl hc)))) k
theorem jr_ast5 (hX : jd_C X own nm cc nL ret) {a0 a1 a2 a3 a4 : Option Value} {b : Option Value} {t : List (Option Value)} {o : Option Nat} (hc : jd_nl a4 = true) (hd : decode cc pc = .ok (.astore 5, 2)) (k : jd_S X emb (pc + 2) (a0 :: a1 :: a2 :: a3 :: a4 :: some (jd_v (jd_gG X) o) :: t) st σ cm) : jd_S X emb pc (a0 :: a1 :: a2 :: a3 :: a4 :: b :: t) (jd_v (jd_gG X) o :: st) σ cm := by
  obtain ⟨p, l, e, s, m, args, below, meth, c, s0, G, d, mc, ms⟩ := X
  cases o with
  | none => exact jd_loc (fun ls H locs cells slots Q h w => lv_astoreN hX.1 hX.2.1 hd h.2 (by have := h.1; simp at this; omega) rfl (fun ls' h' => w ls' (jd_st1 (i := 5) h.1 h' (by have := h.1; simp at this; omega) (jd_hc (i := 4) rfl hc)))) k
  | some x => exact jd_loc (fun ls H locs cells slots Q h w => lv_astore hX.1 hX.2.1 hd h.2 (by have := h.1; simp at this; omega) rfl (fun ls' h' => w ls' (jd_st1 (i := 5) h.1 h' (by have := h.1; simp at this; omega) (jd_hc (i := 4) rfl hc)))) k
theorem jr_lst5 (hX : jd_C X own nm cc nL ret) {a0 a1 a2 a3 a4 : Option Value} {b b2 : Option Value} {t : List (Option Value)} {x : Int64} (hc : jd_nl a4 = true) (hd : decode cc pc = .ok (.lstore 5, 2)) (k : jd_S X emb (pc + 2) (a0 :: a1 :: a2 :: a3 :: a4 :: some (.long x) :: none :: t) st σ cm) : jd_S X emb pc (a0 :: a1 :: a2 :: a3 :: a4 :: b :: b2 :: t) (.long x :: st) σ cm := by
  obtain ⟨p, l, e, s, m, args, below, meth, c, s0, G, d, mc, ms⟩ := X
  exact jd_loc (fun ls H locs cells slots Q h w => lv_lstore hX.1 hX.2.1 hd h.2 (by have := h.1; simp at this; omega) rfl (fun ls' h' => w ls' (jd_st2 (i := 5) h.1 h' (by have := h.1; simp at this; omega) (jd_hc (i := 4) rfl hc)))) k
theorem jr_inc5 (hX : jd_C X own nm cc nL ret) {a0 a1 a2 a3 a4 : Option Value} {t : List (Option Value)} {x : Int32} {n : Int} (c : Int32) (hcc : Int32.ofInt n = c) (hc : jd_nl a4 = true) (hd : decode cc pc = .ok (.iinc 5 n, 3)) (k : jd_S X emb (pc + 3) (a0 :: a1 :: a2 :: a3 :: a4 :: some (.int (x + c)) :: t) st σ cm) : jd_S X emb pc (a0 :: a1 :: a2 :: a3 :: a4 :: some (.int x) :: t) st σ cm := by
  obtain ⟨p, l, e, s, m, args, below, meth, c, s0, G, d, mc, ms⟩ := X
  refine jd_loc (fun ls H locs cells slots Q h w => ?_) k
  obtain ⟨k0, hk0⟩ := List.getElem?_of_mem (jd_al_mem (lv := a0 :: a1 :: a2 :: a3 :: a4 :: some (.int x) :: t) (j := 5) (w := .int x) |>.mpr rfl)
  exact lv_iinc hX.1 hX.2.1 hd h.2 hk0 (by rw [hcc]) (by have := h.1; simp at this; omega) rfl (fun ls' h' => w ls' (jd_st1 (i := 5) h.1 h' (by have := h.1; simp at this; omega) (jd_hc (i := 4) rfl hc)))
theorem jr_ild6 (hX : jd_C X own nm cc nL ret) {a0 a1 a2 a3 a4 a5 : Option Value} {t : List (Option Value)} {x : Int32} (hd : decode cc pc = .ok (.iload 6, 2)) (k : jd_S X emb (pc + 2) (a0 :: a1 :: a2 :: a3 :: a4 :: a5 :: some (.int x) :: t) (.int x :: st) σ cm) : jd_S X emb pc (a0 :: a1 :: a2 :: a3 :: a4 :: a5 :: some (.int x) :: t) st σ cm := by
  obtain ⟨p, l, e, s, m, args, below, meth, c, s0, G, d, mc, ms⟩ := X
  exact jd_pure (fun ls H locs cells slots Q h w => lv_iload hX.1 hX.2.1 hd (jd_at h (i := 6) rfl) w) k
theorem jr_lld6 (hX : jd_C X own nm cc nL ret) {a0 a1 a2 a3 a4 a5 : Option Value} {t : List (Option Value)} {x : Int64} (hd : decode cc pc = .ok (.lload 6, 2)) (k : jd_S X emb (pc + 2) (a0 :: a1 :: a2 :: a3 :: a4 :: a5 :: some (.long x) :: t) (.long x :: st) σ cm) : jd_S X emb pc (a0 :: a1 :: a2 :: a3 :: a4 :: a5 :: some (.long x) :: t) st σ cm := by
  obtain ⟨p, l, e, s, m, args, below, meth, c, s0, G, d, mc, ms⟩ := X
  exact jd_pure (fun ls H locs cells slots Q h w => lv_lload hX.1 hX.2.1 hd (jd_at h (i := 6) rfl) w) k
theorem jr_ald6 (hX : jd_C X own nm cc nL ret) {a0 a1 a2 a3 a4 a5 : Option Value} {t : List (Option Value)} {o : Option Nat} (hd : decode cc pc = .ok (.aload 6, 2)) (k : jd_S X emb (pc + 2) (a0 :: a1 :: a2 :: a3 :: a4 :: a5 :: some (jd_v (jd_gG X) o) :: t) (jd_v (jd_gG X) o :: st) σ cm) : jd_S X emb pc (a0 :: a1 :: a2 :: a3 :: a4 :: a5 :: some (jd_v (jd_gG X) o) :: t) st σ cm := by
  obtain ⟨p, l, e, s, m, args, below, meth, c, s0, G, d, mc, ms⟩ := X
  cases o with
  | none => exact jd_pure (fun ls H locs cells slots Q h w => lv_aloadN hX.1 hX.2.1 hd (jd_at h (i := 6) rfl) w) k
  | some x => exact jd_pure (fun ls H locs cells slots Q h w => lv_aload hX.1 hX.2.1 hd (jd_at h (i := 6) rfl) w) k
theorem jr_ist6 (hX : jd_C X own nm cc nL ret) {a0 a1 a2 a3 a4 a5 : Option Value} {b : Option Value} {t : List (Option Value)} {x : Int32} (hc : jd_nl a5 = true) (hd : decode cc pc = .ok (.istore 6, 2)) (k : jd_S X emb (pc + 2) (a0 :: a1 :: a2 :: a3 :: a4 :: a5 :: some (.int x) :: t) st σ cm) : jd_S X emb pc (a0 :: a1 :: a2 :: a3 :: a4 :: a5 :: b :: t) (.int x :: st) σ cm := by
  obtain ⟨p, l, e, s, m, args, below, meth, c, s0, G, d, mc, ms⟩ := X
  exact jd_loc (fun ls H locs cells slots Q h w => lv_istore hX.1 hX.2.1 hd h.2 (by have := h.1; simp at this; omega) rfl (fun ls' h' => w ls' (jd_st1 (i := 6) h.1 h' (by have := h.1; simp at this; omega) (jd_hc (i := 5) rfl hc)))) k
theorem jr_ast6 (hX : jd_C X own nm cc nL ret) {a0 a1 a2 a3 a4 a5 : Option Value} {b : Option Value} {t : List (Option Value)} {o : Option Nat} (hc : jd_nl a5 = true) (hd : decode cc pc = .ok (.astore 6, 2)) (k : jd_S X emb (pc + 2) (a0 :: a1 :: a2 :: a3 :: a4 :: a5 :: some (jd_v (jd_gG X) o) :: t) st σ cm) : jd_S X emb pc (a0 :: a1 :: a2 :: a3 :: a4 :: a5 :: b :: t) (jd_v (jd_gG X) o :: st) σ cm := by
  obtain ⟨p, l, e, s, m, args, below, meth, c, s0, G, d, mc, ms⟩ := X
  cases o with
  | none => exact jd_loc (fun ls H locs cells slots Q h w => lv_astoreN hX.1 hX.2.1 hd h.2 (by have := h.1; simp at this; omega) rfl (fun ls' h' => w ls' (jd_st1 (i := 6) h.1 h' (by have := h.1; simp at this; omega) (jd_hc (i := 5) rfl hc)))) k
  | some x => exact jd_loc (fun ls H locs cells slots Q h w => lv_astore hX.1 hX.2.1 hd h.2 (by have := h.1; simp at this; omega) rfl (fun ls' h' => w ls' (jd_st1 (i := 6) h.1 h' (by have := h.1; simp at this; omega) (jd_hc (i := 5) rfl hc)))) k
theorem jr_lst6 (hX : jd_C X own nm cc nL ret) {a0 a1 a2 a3 a4 a5 : Option Value} {b b2 : Option Value} {t : List (Option Value)} {x : Int64} (hc : jd_nl a5 = true) (hd : decode cc pc = .ok (.lstore 6, 2)) (k : jd_S X emb (pc + 2) (a0 :: a1 :: a2 :: a3 :: a4 :: a5 :: some (.long x) :: none :: t) st σ cm) : jd_S X emb pc (a0 :: a1 :: a2 :: a3 :: a4 :: a5 :: b :: b2 :: t) (.long x :: st) σ cm := by
  obtain ⟨p, l, e, s, m, args, below, meth, c, s0, G, d, mc, ms⟩ := X
  exact jd_loc (fun ls H locs cells slots Q h w => lv_lstore hX.1 hX.2.1 hd h.2 (by have := h.1; simp at this; omega) rfl (fun ls' h' => w ls' (jd_st2 (i := 6) h.1 h' (by have := h.1; simp at this; omega) (jd_hc (i := 5) rfl hc)))) k
theorem jr_inc6 (hX : jd_C X own nm cc nL ret) {a0 a1 a2 a3 a4 a5 : Option Value} {t : List (Option Value)} {x : Int32} {n : Int} (c : Int32) (hcc : Int32.ofInt n = c) (hc : jd_nl a5 = true) (hd : decode cc pc = .ok (.iinc 6 n, 3)) (k : jd_S X emb (pc + 3) (a0 :: a1 :: a2 :: a3 :: a4 :: a5 :: some (.int (x + c)) :: t) st σ cm) : jd_S X emb pc (a0 :: a1 :: a2 :: a3 :: a4 :: a5 :: some (.int x) :: t) st σ cm := by
  obtain ⟨p, l, e, s, m, args, below, meth, c, s0, G, d, mc, ms⟩ := X
  refine jd_loc (fun ls H locs cells slots Q h w => ?_) k
  obtain ⟨k0, hk0⟩ := List.getElem?_of_mem (jd_al_mem (lv := a0 :: a1 :: a2 :: a3 :: a4 :: a5 :: some (.int x) :: t) (j := 6) (w := .int x) |>.mpr rfl)
  exact lv_iinc hX.1 hX.2.1 hd h.2 hk0 (by rw [hcc]) (by have := h.1; simp at this; omega) rfl (fun ls' h' => w ls' (jd_st1 (i := 6) h.1 h' (by have := h.1; simp at this; omega) (jd_hc (i := 5) rfl hc)))
theorem jr_ild7 (hX : jd_C X own nm cc nL ret) {a0 a1 a2 a3 a4 a5 a6 : Option Value} {t : List (Option Value)} {x : Int32} (hd : decode cc pc = .ok (.iload 7, 2)) (k : jd_S X emb (pc + 2) (a0 :: a1 :: a2 :: a3 :: a4 :: a5 :: a6 :: some (.int x) :: t) (.int x :: st) σ cm) : jd_S X emb pc (a0 :: a1 :: a2 :: a3 :: a4 :: a5 :: a6 :: some (.int x) :: t) st σ cm := by
  obtain ⟨p, l, e, s, m, args, below, meth, c, s0, G, d, mc, ms⟩ := X
  exact jd_pure (fun ls H locs cells slots Q h w => lv_iload hX.1 hX.2.1 hd (jd_at h (i := 7) rfl) w) k
theorem jr_lld7 (hX : jd_C X own nm cc nL ret) {a0 a1 a2 a3 a4 a5 a6 : Option Value} {t : List (Option Value)} {x : Int64} (hd : decode cc pc = .ok (.lload 7, 2)) (k : jd_S X emb (pc + 2) (a0 :: a1 :: a2 :: a3 :: a4 :: a5 :: a6 :: some (.long x) :: t) (.long x :: st) σ cm) : jd_S X emb pc (a0 :: a1 :: a2 :: a3 :: a4 :: a5 :: a6 :: some (.long x) :: t) st σ cm := by
  obtain ⟨p, l, e, s, m, args, below, meth, c, s0, G, d, mc, ms⟩ := X
  exact jd_pure (fun ls H locs cells slots Q h w => lv_lload hX.1 hX.2.1 hd (jd_at h (i := 7) rfl) w) k
theorem jr_ald7 (hX : jd_C X own nm cc nL ret) {a0 a1 a2 a3 a4 a5 a6 : Option Value} {t : List (Option Value)} {o : Option Nat} (hd : decode cc pc = .ok (.aload 7, 2)) (k : jd_S X emb (pc + 2) (a0 :: a1 :: a2 :: a3 :: a4 :: a5 :: a6 :: some (jd_v (jd_gG X) o) :: t) (jd_v (jd_gG X) o :: st) σ cm) : jd_S X emb pc (a0 :: a1 :: a2 :: a3 :: a4 :: a5 :: a6 :: some (jd_v (jd_gG X) o) :: t) st σ cm := by
  obtain ⟨p, l, e, s, m, args, below, meth, c, s0, G, d, mc, ms⟩ := X
  cases o with
  | none => exact jd_pure (fun ls H locs cells slots Q h w => lv_aloadN hX.1 hX.2.1 hd (jd_at h (i := 7) rfl) w) k
  | some x => exact jd_pure (fun ls H locs cells slots Q h w => lv_aload hX.1 hX.2.1 hd (jd_at h (i := 7) rfl) w) k
theorem jr_ist7 (hX : jd_C X own nm cc nL ret) {a0 a1 a2 a3 a4 a5 a6 : Option Value} {b : Option Value} {t : List (Option Value)} {x : Int32} (hc : jd_nl a6 = true) (hd : decode cc pc = .ok (.istore 7, 2)) (k : jd_S X emb (pc + 2) (a0 :: a1 :: a2 :: a3 :: a4 :: a5 :: a6 :: some (.int x) :: t) st σ cm) : jd_S X emb pc (a0 :: a1 :: a2 :: a3 :: a4 :: a5 :: a6 :: b :: t) (.int x :: st) σ cm := by
  obtain ⟨p, l, e, s, m, args, below, meth, c, s0, G, d, mc, ms⟩ := X
  exact jd_loc (fun ls H locs cells slots Q h w => lv_istore hX.1 hX.2.1 hd h.2 (by have := h.1; simp at this; omega) rfl (fun ls' h' => w ls' (jd_st1 (i := 7) h.1 h' (by have := h.1; simp at this; omega) (jd_hc (i := 6) rfl hc)))) k
theorem jr_ast7 (hX : jd_C X own nm cc nL ret) {a0 a1 a2 a3 a4 a5 a6 : Option Value} {b : Option Value} {t : List (Option Value)} {o : Option Nat} (hc : jd_nl a6 = true) (hd : decode cc pc = .ok (.astore 7, 2)) (k : jd_S X emb (pc + 2) (a0 :: a1 :: a2 :: a3 :: a4 :: a5 :: a6 :: some (jd_v (jd_gG X) o) :: t) st σ cm) : jd_S X emb pc (a0 :: a1 :: a2 :: a3 :: a4 :: a5 :: a6 :: b :: t) (jd_v (jd_gG X) o :: st) σ cm := by
  obtain ⟨p, l, e, s, m, args, below, meth, c, s0, G, d, mc, ms⟩ := X
  cases o with
  | none => exact jd_loc (fun ls H locs cells slots Q h w => lv_astoreN hX.1 hX.2.1 hd h.2 (by have := h.1; simp at this; omega) rfl (fun ls' h' => w ls' (jd_st1 (i := 7) h.1 h' (by have := h.1; simp at this; omega) (jd_hc (i := 6) rfl hc)))) k
  | some x => exact jd_loc (fun ls H locs cells slots Q h w => lv_astore hX.1 hX.2.1 hd h.2 (by have := h.1; simp at this; omega) rfl (fun ls' h' => w ls' (jd_st1 (i := 7) h.1 h' (by have := h.1; simp at this; omega) (jd_hc (i := 6) rfl hc)))) k
theorem jr_lst7 (hX : jd_C X own nm cc nL ret) {a0 a1 a2 a3 a4 a5 a6 : Option Value} {b b2 : Option Value} {t : List (Option Value)} {x : Int64} (hc : jd_nl a6 = true) (hd : decode cc pc = .ok (.lstore 7, 2)) (k : jd_S X emb (pc + 2) (a0 :: a1 :: a2 :: a3 :: a4 :: a5 :: a6 :: some (.long x) :: none :: t) st σ cm) : jd_S X emb pc (a0 :: a1 :: a2 :: a3 :: a4 :: a5 :: a6 :: b :: b2 :: t) (.long x :: st) σ cm := by
  obtain ⟨p, l, e, s, m, args, below, meth, c, s0, G, d, mc, ms⟩ := X
  exact jd_loc (fun ls H locs cells slots Q h w => lv_lstore hX.1 hX.2.1 hd h.2 (by have := h.1; simp at this; omega) rfl (fun ls' h' => w ls' (jd_st2 (i := 7) h.1 h' (by have := h.1; simp at this; omega) (jd_hc (i := 6) rfl hc)))) k
theorem jr_inc7 (hX : jd_C X own nm cc nL ret) {a0 a1 a2 a3 a4 a5 a6 : Option Value} {t : List (Option Value)} {x : Int32} {n : Int} (c : Int32) (hcc : Int32.ofInt n = c) (hc : jd_nl a6 = true) (hd : decode cc pc = .ok (.iinc 7 n, 3)) (k : jd_S X emb (pc + 3) (a0 :: a1 :: a2 :: a3 :: a4 :: a5 :: a6 :: some (.int (x + c)) :: t) st σ cm) : jd_S X emb pc (a0 :: a1 :: a2 :: a3 :: a4 :: a5 :: a6 :: some (.int x) :: t) st σ cm := by
  obtain ⟨p, l, e, s, m, args, below, meth, c, s0, G, d, mc, ms⟩ := X
  refine jd_loc (fun ls H locs cells slots Q h w => ?_) k
  obtain ⟨k0, hk0⟩ := List.getElem?_of_mem (jd_al_mem (lv := a0 :: a1 :: a2 :: a3 :: a4 :: a5 :: a6 :: some (.int x) :: t) (j := 7) (w := .int x) |>.mpr rfl)
  exact lv_iinc hX.1 hX.2.1 hd h.2 hk0 (by rw [hcc]) (by have := h.1; simp at this; omega) rfl (fun ls' h' => w ls' (jd_st1 (i := 7) h.1 h' (by have := h.1; simp at this; omega) (jd_hc (i := 6) rfl hc)))
theorem jr_ild8 (hX : jd_C X own nm cc nL ret) {a0 a1 a2 a3 a4 a5 a6 a7 : Option Value} {t : List (Option Value)} {x : Int32} (hd : decode cc pc = .ok (.iload 8, 2)) (k : jd_S X emb (pc + 2) (a0 :: a1 :: a2 :: a3 :: a4 :: a5 :: a6 :: a7 :: some (.int x) :: t) (.int x :: st) σ cm) : jd_S X emb pc (a0 :: a1 :: a2 :: a3 :: a4 :: a5 :: a6 :: a7 :: some (.int x) :: t) st σ cm := by
  obtain ⟨p, l, e, s, m, args, below, meth, c, s0, G, d, mc, ms⟩ := X
  exact jd_pure (fun ls H locs cells slots Q h w => lv_iload hX.1 hX.2.1 hd (jd_at h (i := 8) rfl) w) k
theorem jr_lld8 (hX : jd_C X own nm cc nL ret) {a0 a1 a2 a3 a4 a5 a6 a7 : Option Value} {t : List (Option Value)} {x : Int64} (hd : decode cc pc = .ok (.lload 8, 2)) (k : jd_S X emb (pc + 2) (a0 :: a1 :: a2 :: a3 :: a4 :: a5 :: a6 :: a7 :: some (.long x) :: t) (.long x :: st) σ cm) : jd_S X emb pc (a0 :: a1 :: a2 :: a3 :: a4 :: a5 :: a6 :: a7 :: some (.long x) :: t) st σ cm := by
  obtain ⟨p, l, e, s, m, args, below, meth, c, s0, G, d, mc, ms⟩ := X
  exact jd_pure (fun ls H locs cells slots Q h w => lv_lload hX.1 hX.2.1 hd (jd_at h (i := 8) rfl) w) k
theorem jr_ald8 (hX : jd_C X own nm cc nL ret) {a0 a1 a2 a3 a4 a5 a6 a7 : Option Value} {t : List (Option Value)} {o : Option Nat} (hd : decode cc pc = .ok (.aload 8, 2)) (k : jd_S X emb (pc + 2) (a0 :: a1 :: a2 :: a3 :: a4 :: a5 :: a6 :: a7 :: some (jd_v (jd_gG X) o) :: t) (jd_v (jd_gG X) o :: st) σ cm) : jd_S X emb pc (a0 :: a1 :: a2 :: a3 :: a4 :: a5 :: a6 :: a7 :: some (jd_v (jd_gG X) o) :: t) st σ cm := by
  obtain ⟨p, l, e, s, m, args, below, meth, c, s0, G, d, mc, ms⟩ := X
  cases o with
  | none => exact jd_pure (fun ls H locs cells slots Q h w => lv_aloadN hX.1 hX.2.1 hd (jd_at h (i := 8) rfl) w) k
  | some x => exact jd_pure (fun ls H locs cells slots Q h w => lv_aload hX.1 hX.2.1 hd (jd_at h (i := 8) rfl) w) k
theorem jr_ist8 (hX : jd_C X own nm cc nL ret) {a0 a1 a2 a3 a4 a5 a6 a7 : Option Value} {b : Option Value} {t : List (Option Value)} {x : Int32} (hc : jd_nl a7 = true) (hd : decode cc pc = .ok (.istore 8, 2)) (k : jd_S X emb (pc + 2) (a0 :: a1 :: a2 :: a3 :: a4 :: a5 :: a6 :: a7 :: some (.int x) :: t) st σ cm) : jd_S X emb pc (a0 :: a1 :: a2 :: a3 :: a4 :: a5 :: a6 :: a7 :: b :: t) (.int x :: st) σ cm := by
  obtain ⟨p, l, e, s, m, args, below, meth, c, s0, G, d, mc, ms⟩ := X
  exact jd_loc (fun ls H locs cells slots Q h w => lv_istore hX.1 hX.2.1 hd h.2 (by have := h.1; simp at this; omega) rfl (fun ls' h' => w ls' (jd_st1 (i := 8) h.1 h' (by have := h.1; simp at this; omega) (jd_hc (i := 7) rfl hc)))) k
theorem jr_ast8 (hX : jd_C X own nm cc nL ret) {a0 a1 a2 a3 a4 a5 a6 a7 : Option Value} {b : Option Value} {t : List (Option Value)} {o : Option Nat} (hc : jd_nl a7 = true) (hd : decode cc pc = .ok (.astore 8, 2)) (k : jd_S X emb (pc + 2) (a0 :: a1 :: a2 :: a3 :: a4 :: a5 :: a6 :: a7 :: some (jd_v (jd_gG X) o) :: t) st σ cm) : jd_S X emb pc (a0 :: a1 :: a2 :: a3 :: a4 :: a5 :: a6 :: a7 :: b :: t) (jd_v (jd_gG X) o :: st) σ cm := by
  obtain ⟨p, l, e, s, m, args, below, meth, c, s0, G, d, mc, ms⟩ := X
  cases o with
  | none => exact jd_loc (fun ls H locs cells slots Q h w => lv_astoreN hX.1 hX.2.1 hd h.2 (by have := h.1; simp at this; omega) rfl (fun ls' h' => w ls' (jd_st1 (i := 8) h.1 h' (by have := h.1; simp at this; omega) (jd_hc (i := 7) rfl hc)))) k
  | some x => exact jd_loc (fun ls H locs cells slots Q h w => lv_astore hX.1 hX.2.1 hd h.2 (by have := h.1; simp at this; omega) rfl (fun ls' h' => w ls' (jd_st1 (i := 8) h.1 h' (by have := h.1; simp at this; omega) (jd_hc (i := 7) rfl hc)))) k
theorem jr_lst8 (hX : jd_C X own nm cc nL ret) {a0 a1 a2 a3 a4 a5 a6 a7 : Option Value} {b b2 : Option Value} {t : List (Option Value)} {x : Int64} (hc : jd_nl a7 = true) (hd : decode cc pc = .ok (.lstore 8, 2)) (k : jd_S X emb (pc + 2) (a0 :: a1 :: a2 :: a3 :: a4 :: a5 :: a6 :: a7 :: some (.long x) :: none :: t) st σ cm) : jd_S X emb pc (a0 :: a1 :: a2 :: a3 :: a4 :: a5 :: a6 :: a7 :: b :: b2 :: t) (.long x :: st) σ cm := by
  obtain ⟨p, l, e, s, m, args, below, meth, c, s0, G, d, mc, ms⟩ := X
  exact jd_loc (fun ls H locs cells slots Q h w => lv_lstore hX.1 hX.2.1 hd h.2 (by have := h.1; simp at this; omega) rfl (fun ls' h' => w ls' (jd_st2 (i := 8) h.1 h' (by have := h.1; simp at this; omega) (jd_hc (i := 7) rfl hc)))) k
theorem jr_inc8 (hX : jd_C X own nm cc nL ret) {a0 a1 a2 a3 a4 a5 a6 a7 : Option Value} {t : List (Option Value)} {x : Int32} {n : Int} (c : Int32) (hcc : Int32.ofInt n = c) (hc : jd_nl a7 = true) (hd : decode cc pc = .ok (.iinc 8 n, 3)) (k : jd_S X emb (pc + 3) (a0 :: a1 :: a2 :: a3 :: a4 :: a5 :: a6 :: a7 :: some (.int (x + c)) :: t) st σ cm) : jd_S X emb pc (a0 :: a1 :: a2 :: a3 :: a4 :: a5 :: a6 :: a7 :: some (.int x) :: t) st σ cm := by
  obtain ⟨p, l, e, s, m, args, below, meth, c, s0, G, d, mc, ms⟩ := X
  refine jd_loc (fun ls H locs cells slots Q h w => ?_) k
  obtain ⟨k0, hk0⟩ := List.getElem?_of_mem (jd_al_mem (lv := a0 :: a1 :: a2 :: a3 :: a4 :: a5 :: a6 :: a7 :: some (.int x) :: t) (j := 8) (w := .int x) |>.mpr rfl)
  exact lv_iinc hX.1 hX.2.1 hd h.2 hk0 (by rw [hcc]) (by have := h.1; simp at this; omega) rfl (fun ls' h' => w ls' (jd_st1 (i := 8) h.1 h' (by have := h.1; simp at this; omega) (jd_hc (i := 7) rfl hc)))
theorem jr_ild9 (hX : jd_C X own nm cc nL ret) {a0 a1 a2 a3 a4 a5 a6 a7 a8 : Option Value} {t : List (Option Value)} {x : Int32} (hd : decode cc pc = .ok (.iload 9, 2)) (k : jd_S X emb (pc + 2) (a0 :: a1 :: a2 :: a3 :: a4 :: a5 :: a6 :: a7 :: a8 :: some (.int x) :: t) (.int x :: st) σ cm) : jd_S X emb pc (a0 :: a1 :: a2 :: a3 :: a4 :: a5 :: a6 :: a7 :: a8 :: some (.int x) :: t) st σ cm := by
  obtain ⟨p, l, e, s, m, args, below, meth, c, s0, G, d, mc, ms⟩ := X
  exact jd_pure (fun ls H locs cells slots Q h w => lv_iload hX.1 hX.2.1 hd (jd_at h (i := 9) rfl) w) k
theorem jr_lld9 (hX : jd_C X own nm cc nL ret) {a0 a1 a2 a3 a4 a5 a6 a7 a8 : Option Value} {t : List (Option Value)} {x : Int64} (hd : decode cc pc = .ok (.lload 9, 2)) (k : jd_S X emb (pc + 2) (a0 :: a1 :: a2 :: a3 :: a4 :: a5 :: a6 :: a7 :: a8 :: some (.long x) :: t) (.long x :: st) σ cm) : jd_S X emb pc (a0 :: a1 :: a2 :: a3 :: a4 :: a5 :: a6 :: a7 :: a8 :: some (.long x) :: t) st σ cm := by
  obtain ⟨p, l, e, s, m, args, below, meth, c, s0, G, d, mc, ms⟩ := X
  exact jd_pure (fun ls H locs cells slots Q h w => lv_lload hX.1 hX.2.1 hd (jd_at h (i := 9) rfl) w) k
theorem jr_ald9 (hX : jd_C X own nm cc nL ret) {a0 a1 a2 a3 a4 a5 a6 a7 a8 : Option Value} {t : List (Option Value)} {o : Option Nat} (hd : decode cc pc = .ok (.aload 9, 2)) (k : jd_S X emb (pc + 2) (a0 :: a1 :: a2 :: a3 :: a4 :: a5 :: a6 :: a7 :: a8 :: some (jd_v (jd_gG X) o) :: t) (jd_v (jd_gG X) o :: st) σ cm) : jd_S X emb pc (a0 :: a1 :: a2 :: a3 :: a4 :: a5 :: a6 :: a7 :: a8 :: some (jd_v (jd_gG X) o) :: t) st σ cm := by
  obtain ⟨p, l, e, s, m, args, below, meth, c, s0, G, d, mc, ms⟩ := X
  cases o with
  | none => exact jd_pure (fun ls H locs cells slots Q h w => lv_aloadN hX.1 hX.2.1 hd (jd_at h (i := 9) rfl) w) k
  | some x => exact jd_pure (fun ls H locs cells slots Q h w => lv_aload hX.1 hX.2.1 hd (jd_at h (i := 9) rfl) w) k
theorem jr_ist9 (hX : jd_C X own nm cc nL ret) {a0 a1 a2 a3 a4 a5 a6 a7 a8 : Option Value} {b : Option Value} {t : List (Option Value)} {x : Int32} (hc : jd_nl a8 = true) (hd : decode cc pc = .ok (.istore 9, 2)) (k : jd_S X emb (pc + 2) (a0 :: a1 :: a2 :: a3 :: a4 :: a5 :: a6 :: a7 :: a8 :: some (.int x) :: t) st σ cm) : jd_S X emb pc (a0 :: a1 :: a2 :: a3 :: a4 :: a5 :: a6 :: a7 :: a8 :: b :: t) (.int x :: st) σ cm := by
  obtain ⟨p, l, e, s, m, args, below, meth, c, s0, G, d, mc, ms⟩ := X
  exact jd_loc (fun ls H locs cells slots Q h w => lv_istore hX.1 hX.2.1 hd h.2 (by have := h.1; simp at this; omega) rfl (fun ls' h' => w ls' (jd_st1 (i := 9) h.1 h' (by have := h.1; simp at this; omega) (jd_hc (i := 8) rfl hc)))) k
theorem jr_ast9 (hX : jd_C X own nm cc nL ret) {a0 a1 a2 a3 a4 a5 a6 a7 a8 : Option Value} {b : Option Value} {t : List (Option Value)} {o : Option Nat} (hc : jd_nl a8 = true) (hd : decode cc pc = .ok (.astore 9, 2)) (k : jd_S X emb (pc + 2) (a0 :: a1 :: a2 :: a3 :: a4 :: a5 :: a6 :: a7 :: a8 :: some (jd_v (jd_gG X) o) :: t) st σ cm) : jd_S X emb pc (a0 :: a1 :: a2 :: a3 :: a4 :: a5 :: a6 :: a7 :: a8 :: b :: t) (jd_v (jd_gG X) o :: st) σ cm := by
  obtain ⟨p, l, e, s, m, args, below, meth, c, s0, G, d, mc, ms⟩ := X
  cases o with
  | none => exact jd_loc (fun ls H locs cells slots Q h w => lv_astoreN hX.1 hX.2.1 hd h.2 (by have := h.1; simp at this; omega) rfl (fun ls' h' => w ls' (jd_st1 (i := 9) h.1 h' (by have := h.1; simp at this; omega) (jd_hc (i := 8) rfl hc)))) k
  | some x => exact jd_loc (fun ls H locs cells slots Q h w => lv_astore hX.1 hX.2.1 hd h.2 (by have := h.1; simp at this; omega) rfl (fun ls' h' => w ls' (jd_st1 (i := 9) h.1 h' (by have := h.1; simp at this; omega) (jd_hc (i := 8) rfl hc)))) k
theorem jr_lst9 (hX : jd_C X own nm cc nL ret) {a0 a1 a2 a3 a4 a5 a6 a7 a8 : Option Value} {b b2 : Option Value} {t : List (Option Value)} {x : Int64} (hc : jd_nl a8 = true) (hd : decode cc pc = .ok (.lstore 9, 2)) (k : jd_S X emb (pc + 2) (a0 :: a1 :: a2 :: a3 :: a4 :: a5 :: a6 :: a7 :: a8 :: some (.long x) :: none :: t) st σ cm) : jd_S X emb pc (a0 :: a1 :: a2 :: a3 :: a4 :: a5 :: a6 :: a7 :: a8 :: b :: b2 :: t) (.long x :: st) σ cm := by
  obtain ⟨p, l, e, s, m, args, below, meth, c, s0, G, d, mc, ms⟩ := X
  exact jd_loc (fun ls H locs cells slots Q h w => lv_lstore hX.1 hX.2.1 hd h.2 (by have := h.1; simp at this; omega) rfl (fun ls' h' => w ls' (jd_st2 (i := 9) h.1 h' (by have := h.1; simp at this; omega) (jd_hc (i := 8) rfl hc)))) k
theorem jr_inc9 (hX : jd_C X own nm cc nL ret) {a0 a1 a2 a3 a4 a5 a6 a7 a8 : Option Value} {t : List (Option Value)} {x : Int32} {n : Int} (c : Int32) (hcc : Int32.ofInt n = c) (hc : jd_nl a8 = true) (hd : decode cc pc = .ok (.iinc 9 n, 3)) (k : jd_S X emb (pc + 3) (a0 :: a1 :: a2 :: a3 :: a4 :: a5 :: a6 :: a7 :: a8 :: some (.int (x + c)) :: t) st σ cm) : jd_S X emb pc (a0 :: a1 :: a2 :: a3 :: a4 :: a5 :: a6 :: a7 :: a8 :: some (.int x) :: t) st σ cm := by
  obtain ⟨p, l, e, s, m, args, below, meth, c, s0, G, d, mc, ms⟩ := X
  refine jd_loc (fun ls H locs cells slots Q h w => ?_) k
  obtain ⟨k0, hk0⟩ := List.getElem?_of_mem (jd_al_mem (lv := a0 :: a1 :: a2 :: a3 :: a4 :: a5 :: a6 :: a7 :: a8 :: some (.int x) :: t) (j := 9) (w := .int x) |>.mpr rfl)
  exact lv_iinc hX.1 hX.2.1 hd h.2 hk0 (by rw [hcc]) (by have := h.1; simp at this; omega) rfl (fun ls' h' => w ls' (jd_st1 (i := 9) h.1 h' (by have := h.1; simp at this; omega) (jd_hc (i := 8) rfl hc)))
theorem jr_ild10 (hX : jd_C X own nm cc nL ret) {a0 a1 a2 a3 a4 a5 a6 a7 a8 a9 : Option Value} {t : List (Option Value)} {x : Int32} (hd : decode cc pc = .ok (.iload 10, 2)) (k : jd_S X emb (pc + 2) (a0 :: a1 :: a2 :: a3 :: a4 :: a5 :: a6 :: a7 :: a8 :: a9 :: some (.int x) :: t) (.int x :: st) σ cm) : jd_S X emb pc (a0 :: a1 :: a2 :: a3 :: a4 :: a5 :: a6 :: a7 :: a8 :: a9 :: some (.int x) :: t) st σ cm := by
  obtain ⟨p, l, e, s, m, args, below, meth, c, s0, G, d, mc, ms⟩ := X
  exact jd_pure (fun ls H locs cells slots Q h w => lv_iload hX.1 hX.2.1 hd (jd_at h (i := 10) rfl) w) k
theorem jr_lld10 (hX : jd_C X own nm cc nL ret) {a0 a1 a2 a3 a4 a5 a6 a7 a8 a9 : Option Value} {t : List (Option Value)} {x : Int64} (hd : decode cc pc = .ok (.lload 10, 2)) (k : jd_S X emb (pc + 2) (a0 :: a1 :: a2 :: a3 :: a4 :: a5 :: a6 :: a7 :: a8 :: a9 :: some (.long x) :: t) (.long x :: st) σ cm) : jd_S X emb pc (a0 :: a1 :: a2 :: a3 :: a4 :: a5 :: a6 :: a7 :: a8 :: a9 :: some (.long x) :: t) st σ cm := by
  obtain ⟨p, l, e, s, m, args, below, meth, c, s0, G, d, mc, ms⟩ := X
  exact jd_pure (fun ls H locs cells slots Q h w => lv_lload hX.1 hX.2.1 hd (jd_at h (i := 10) rfl) w) k
theorem jr_ald10 (hX : jd_C X own nm cc nL ret) {a0 a1 a2 a3 a4 a5 a6 a7 a8 a9 : Option Value} {t : List (Option Value)} {o : Option Nat} (hd : decode cc pc = .ok (.aload 10, 2)) (k : jd_S X emb (pc + 2) (a0 :: a1 :: a2 :: a3 :: a4 :: a5 :: a6 :: a7 :: a8 :: a9 :: some (jd_v (jd_gG X) o) :: t) (jd_v (jd_gG X) o :: st) σ cm) : jd_S X emb pc (a0 :: a1 :: a2 :: a3 :: a4 :: a5 :: a6 :: a7 :: a8 :: a9 :: some (jd_v (jd_gG X) o) :: t) st σ cm := by
  obtain ⟨p, l, e, s, m, args, below, meth, c, s0, G, d, mc, ms⟩ := X
  cases o with
  | none => exact jd_pure (fun ls H locs cells slots Q h w => lv_aloadN hX.1 hX.2.1 hd (jd_at h (i := 10) rfl) w) k
  | some x => exact jd_pure (fun ls H locs cells slots Q h w => lv_aload hX.1 hX.2.1 hd (jd_at h (i := 10) rfl) w) k
theorem jr_ist10 (hX : jd_C X own nm cc nL ret) {a0 a1 a2 a3 a4 a5 a6 a7 a8 a9 : Option Value} {b : Option Value} {t : List (Option Value)} {x : Int32} (hc : jd_nl a9 = true) (hd : decode cc pc = .ok (.istore 10, 2)) (k : jd_S X emb (pc + 2) (a0 :: a1 :: a2 :: a3 :: a4 :: a5 :: a6 :: a7 :: a8 :: a9 :: some (.int x) :: t) st σ cm) : jd_S X emb pc (a0 :: a1 :: a2 :: a3 :: a4 :: a5 :: a6 :: a7 :: a8 :: a9 :: b :: t) (.int x :: st) σ cm := by
  obtain ⟨p, l, e, s, m, args, below, meth, c, s0, G, d, mc, ms⟩ := X
  exact jd_loc (fun ls H locs cells slots Q h w => lv_istore hX.1 hX.2.1 hd h.2 (by have := h.1; simp at this; omega) rfl (fun ls' h' => w ls' (jd_st1 (i := 10) h.1 h' (by have := h.1; simp at this; omega) (jd_hc (i := 9) rfl hc)))) k
theorem jr_ast10 (hX : jd_C X own nm cc nL ret) {a0 a1 a2 a3 a4 a5 a6 a7 a8 a9 : Option Value} {b : Option Value} {t : List (Option Value)} {o : Option Nat} (hc : jd_nl a9 = true) (hd : decode cc pc = .ok (.astore 10, 2)) (k : jd_S X emb (pc + 2) (a0 :: a1 :: a2 :: a3 :: a4 :: a5 :: a6 :: a7 :: a8 :: a9 :: some (jd_v (jd_gG X) o) :: t) st σ cm) : jd_S X emb pc (a0 :: a1 :: a2 :: a3 :: a4 :: a5 :: a6 :: a7 :: a8 :: a9 :: b :: t) (jd_v (jd_gG X) o :: st) σ cm := by
  obtain ⟨p, l, e, s, m, args, below, meth, c, s0, G, d, mc, ms⟩ := X
  cases o with
  | none => exact jd_loc (fun ls H locs cells slots Q h w => lv_astoreN hX.1 hX.2.1 hd h.2 (by have := h.1; simp at this; omega) rfl (fun ls' h' => w ls' (jd_st1 (i := 10) h.1 h' (by have := h.1; simp at this; omega) (jd_hc (i := 9) rfl hc)))) k
  | some x => exact jd_loc (fun ls H locs cells slots Q h w => lv_astore hX.1 hX.2.1 hd h.2 (by have := h.1; simp at this; omega) rfl (fun ls' h' => w ls' (jd_st1 (i := 10) h.1 h' (by have := h.1; simp at this; omega) (jd_hc (i := 9) rfl hc)))) k
theorem jr_lst10 (hX : jd_C X own nm cc nL ret) {a0 a1 a2 a3 a4 a5 a6 a7 a8 a9 : Option Value} {b b2 : Option Value} {t : List (Option Value)} {x : Int64} (hc : jd_nl a9 = true) (hd : decode cc pc = .ok (.lstore 10, 2)) (k : jd_S X emb (pc + 2) (a0 :: a1 :: a2 :: a3 :: a4 :: a5 :: a6 :: a7 :: a8 :: a9 :: some (.long x) :: none :: t) st σ cm) : jd_S X emb pc (a0 :: a1 :: a2 :: a3 :: a4 :: a5 :: a6 :: a7 :: a8 :: a9 :: b :: b2 :: t) (.long x :: st) σ cm := by
  obtain ⟨p, l, e, s, m, args, below, meth, c, s0, G, d, mc, ms⟩ := X
  exact jd_loc (fun ls H locs cells slots Q h w => lv_lstore hX.1 hX.2.1 hd h.2 (by have := h.1; simp at this; omega) rfl (fun ls' h' => w ls' (jd_st2 (i := 10) h.1 h' (by have := h.1; simp at this; omega) (jd_hc (i := 9) rfl hc)))) k
theorem jr_inc10 (hX : jd_C X own nm cc nL ret) {a0 a1 a2 a3 a4 a5 a6 a7 a8 a9 : Option Value} {t : List (Option Value)} {x : Int32} {n : Int} (c : Int32) (hcc : Int32.ofInt n = c) (hc : jd_nl a9 = true) (hd : decode cc pc = .ok (.iinc 10 n, 3)) (k : jd_S X emb (pc + 3) (a0 :: a1 :: a2 :: a3 :: a4 :: a5 :: a6 :: a7 :: a8 :: a9 :: some (.int (x + c)) :: t) st σ cm) : jd_S X emb pc (a0 :: a1 :: a2 :: a3 :: a4 :: a5 :: a6 :: a7 :: a8 :: a9 :: some (.int x) :: t) st σ cm := by
  obtain ⟨p, l, e, s, m, args, below, meth, c, s0, G, d, mc, ms⟩ := X
  refine jd_loc (fun ls H locs cells slots Q h w => ?_) k
  obtain ⟨k0, hk0⟩ := List.getElem?_of_mem (jd_al_mem (lv := a0 :: a1 :: a2 :: a3 :: a4 :: a5 :: a6 :: a7 :: a8 :: a9 :: some (.int x) :: t) (j := 10) (w := .int x) |>.mpr rfl)
  exact lv_iinc hX.1 hX.2.1 hd h.2 hk0 (by rw [hcc]) (by have := h.1; simp at this; omega) rfl (fun ls' h' => w ls' (jd_st1 (i := 10) h.1 h' (by have := h.1; simp at this; omega) (jd_hc (i := 9) rfl hc)))
theorem jr_ild11 (hX : jd_C X own nm cc nL ret) {a0 a1 a2 a3 a4 a5 a6 a7 a8 a9 a10 : Option Value} {t : List (Option Value)} {x : Int32} (hd : decode cc pc = .ok (.iload 11, 2)) (k : jd_S X emb (pc + 2) (a0 :: a1 :: a2 :: a3 :: a4 :: a5 :: a6 :: a7 :: a8 :: a9 :: a10 :: some (.int x) :: t) (.int x :: st) σ cm) : jd_S X emb pc (a0 :: a1 :: a2 :: a3 :: a4 :: a5 :: a6 :: a7 :: a8 :: a9 :: a10 :: some (.int x) :: t) st σ cm := by
  obtain ⟨p, l, e, s, m, args, below, meth, c, s0, G, d, mc, ms⟩ := X
  exact jd_pure (fun ls H locs cells slots Q h w => lv_iload hX.1 hX.2.1 hd (jd_at h (i := 11) rfl) w) k
theorem jr_lld11 (hX : jd_C X own nm cc nL ret) {a0 a1 a2 a3 a4 a5 a6 a7 a8 a9 a10 : Option Value} {t : List (Option Value)} {x : Int64} (hd : decode cc pc = .ok (.lload 11, 2)) (k : jd_S X emb (pc + 2) (a0 :: a1 :: a2 :: a3 :: a4 :: a5 :: a6 :: a7 :: a8 :: a9 :: a10 :: some (.long x) :: t) (.long x :: st) σ cm) : jd_S X emb pc (a0 :: a1 :: a2 :: a3 :: a4 :: a5 :: a6 :: a7 :: a8 :: a9 :: a10 :: some (.long x) :: t) st σ cm := by
  obtain ⟨p, l, e, s, m, args, below, meth, c, s0, G, d, mc, ms⟩ := X
  exact jd_pure (fun ls H locs cells slots Q h w => lv_lload hX.1 hX.2.1 hd (jd_at h (i := 11) rfl) w) k
theorem jr_ald11 (hX : jd_C X own nm cc nL ret) {a0 a1 a2 a3 a4 a5 a6 a7 a8 a9 a10 : Option Value} {t : List (Option Value)} {o : Option Nat} (hd : decode cc pc = .ok (.aload 11, 2)) (k : jd_S X emb (pc + 2) (a0 :: a1 :: a2 :: a3 :: a4 :: a5 :: a6 :: a7 :: a8 :: a9 :: a10 :: some (jd_v (jd_gG X) o) :: t) (jd_v (jd_gG X) o :: st) σ cm) : jd_S X emb pc (a0 :: a1 :: a2 :: a3 :: a4 :: a5 :: a6 :: a7 :: a8 :: a9 :: a10 :: some (jd_v (jd_gG X) o) :: t) st σ cm := by
  obtain ⟨p, l, e, s, m, args, below, meth, c, s0, G, d, mc, ms⟩ := X
  cases o with
  | none => exact jd_pure (fun ls H locs cells slots Q h w => lv_aloadN hX.1 hX.2.1 hd (jd_at h (i := 11) rfl) w) k
  | some x => exact jd_pure (fun ls H locs cells slots Q h w => lv_aload hX.1 hX.2.1 hd (jd_at h (i := 11) rfl) w) k
theorem jr_ist11 (hX : jd_C X own nm cc nL ret) {a0 a1 a2 a3 a4 a5 a6 a7 a8 a9 a10 : Option Value} {b : Option Value} {t : List (Option Value)} {x : Int32} (hc : jd_nl a10 = true) (hd : decode cc pc = .ok (.istore 11, 2)) (k : jd_S X emb (pc + 2) (a0 :: a1 :: a2 :: a3 :: a4 :: a5 :: a6 :: a7 :: a8 :: a9 :: a10 :: some (.int x) :: t) st σ cm) : jd_S X emb pc (a0 :: a1 :: a2 :: a3 :: a4 :: a5 :: a6 :: a7 :: a8 :: a9 :: a10 :: b :: t) (.int x :: st) σ cm := by
  obtain ⟨p, l, e, s, m, args, below, meth, c, s0, G, d, mc, ms⟩ := X
  exact jd_loc (fun ls H locs cells slots Q h w => lv_istore hX.1 hX.2.1 hd h.2 (by have := h.1; simp at this; omega) rfl (fun ls' h' => w ls' (jd_st1 (i := 11) h.1 h' (by have := h.1; simp at this; omega) (jd_hc (i := 10) rfl hc)))) k
theorem jr_ast11 (hX : jd_C X own nm cc nL ret) {a0 a1 a2 a3 a4 a5 a6 a7 a8 a9 a10 : Option Value} {b : Option Value} {t : List (Option Value)} {o : Option Nat} (hc : jd_nl a10 = true) (hd : decode cc pc = .ok (.astore 11, 2)) (k : jd_S X emb (pc + 2) (a0 :: a1 :: a2 :: a3 :: a4 :: a5 :: a6 :: a7 :: a8 :: a9 :: a10 :: some (jd_v (jd_gG X) o) :: t) st σ cm) : jd_S X emb pc (a0 :: a1 :: a2 :: a3 :: a4 :: a5 :: a6 :: a7 :: a8 :: a9 :: a10 :: b :: t) (jd_v (jd_gG X) o :: st) σ cm := by
  obtain ⟨p, l, e, s, m, args, below, meth, c, s0, G, d, mc, ms⟩ := X
  cases o with
  | none => exact jd_loc (fun ls H locs cells slots Q h w => lv_astoreN hX.1 hX.2.1 hd h.2 (by have := h.1; simp at this; omega) rfl (fun ls' h' => w ls' (jd_st1 (i := 11) h.1 h' (by have := h.1; simp at this; omega) (jd_hc (i := 10) rfl hc)))) k
  | some x => exact jd_loc (fun ls H locs cells slots Q h w => lv_astore hX.1 hX.2.1 hd h.2 (by have := h.1; simp at this; omega) rfl (fun ls' h' => w ls' (jd_st1 (i := 11) h.1 h' (by have := h.1; simp at this; omega) (jd_hc (i := 10) rfl hc)))) k
theorem jr_lst11 (hX : jd_C X own nm cc nL ret) {a0 a1 a2 a3 a4 a5 a6 a7 a8 a9 a10 : Option Value} {b b2 : Option Value} {t : List (Option Value)} {x : Int64} (hc : jd_nl a10 = true) (hd : decode cc pc = .ok (.lstore 11, 2)) (k : jd_S X emb (pc + 2) (a0 :: a1 :: a2 :: a3 :: a4 :: a5 :: a6 :: a7 :: a8 :: a9 :: a10 :: some (.long x) :: none :: t) st σ cm) : jd_S X emb pc (a0 :: a1 :: a2 :: a3 :: a4 :: a5 :: a6 :: a7 :: a8 :: a9 :: a10 :: b :: b2 :: t) (.long x :: st) σ cm := by
  obtain ⟨p, l, e, s, m, args, below, meth, c, s0, G, d, mc, ms⟩ := X
  exact jd_loc (fun ls H locs cells slots Q h w => lv_lstore hX.1 hX.2.1 hd h.2 (by have := h.1; simp at this; omega) rfl (fun ls' h' => w ls' (jd_st2 (i := 11) h.1 h' (by have := h.1; simp at this; omega) (jd_hc (i := 10) rfl hc)))) k
theorem jr_inc11 (hX : jd_C X own nm cc nL ret) {a0 a1 a2 a3 a4 a5 a6 a7 a8 a9 a10 : Option Value} {t : List (Option Value)} {x : Int32} {n : Int} (c : Int32) (hcc : Int32.ofInt n = c) (hc : jd_nl a10 = true) (hd : decode cc pc = .ok (.iinc 11 n, 3)) (k : jd_S X emb (pc + 3) (a0 :: a1 :: a2 :: a3 :: a4 :: a5 :: a6 :: a7 :: a8 :: a9 :: a10 :: some (.int (x + c)) :: t) st σ cm) : jd_S X emb pc (a0 :: a1 :: a2 :: a3 :: a4 :: a5 :: a6 :: a7 :: a8 :: a9 :: a10 :: some (.int x) :: t) st σ cm := by
  obtain ⟨p, l, e, s, m, args, below, meth, c, s0, G, d, mc, ms⟩ := X
  refine jd_loc (fun ls H locs cells slots Q h w => ?_) k
  obtain ⟨k0, hk0⟩ := List.getElem?_of_mem (jd_al_mem (lv := a0 :: a1 :: a2 :: a3 :: a4 :: a5 :: a6 :: a7 :: a8 :: a9 :: a10 :: some (.int x) :: t) (j := 11) (w := .int x) |>.mpr rfl)
  exact lv_iinc hX.1 hX.2.1 hd h.2 hk0 (by rw [hcc]) (by have := h.1; simp at this; omega) rfl (fun ls' h' => w ls' (jd_st1 (i := 11) h.1 h' (by have := h.1; simp at this; omega) (jd_hc (i := 10) rfl hc)))
theorem jr_ild12 (hX : jd_C X own nm cc nL ret) {a0 a1 a2 a3 a4 a5 a6 a7 a8 a9 a10 a11 : Option Value} {t : List (Option Value)} {x : Int32} (hd : decode cc pc = .ok (.iload 12, 2)) (k : jd_S X emb (pc + 2) (a0 :: a1 :: a2 :: a3 :: a4 :: a5 :: a6 :: a7 :: a8 :: a9 :: a10 :: a11 :: some (.int x) :: t) (.int x :: st) σ cm) : jd_S X emb pc (a0 :: a1 :: a2 :: a3 :: a4 :: a5 :: a6 :: a7 :: a8 :: a9 :: a10 :: a11 :: some (.int x) :: t) st σ cm := by
  obtain ⟨p, l, e, s, m, args, below, meth, c, s0, G, d, mc, ms⟩ := X
  exact jd_pure (fun ls H locs cells slots Q h w => lv_iload hX.1 hX.2.1 hd (jd_at h (i := 12) rfl) w) k
theorem jr_lld12 (hX : jd_C X own nm cc nL ret) {a0 a1 a2 a3 a4 a5 a6 a7 a8 a9 a10 a11 : Option Value} {t : List (Option Value)} {x : Int64} (hd : decode cc pc = .ok (.lload 12, 2)) (k : jd_S X emb (pc + 2) (a0 :: a1 :: a2 :: a3 :: a4 :: a5 :: a6 :: a7 :: a8 :: a9 :: a10 :: a11 :: some (.long x) :: t) (.long x :: st) σ cm) : jd_S X emb pc (a0 :: a1 :: a2 :: a3 :: a4 :: a5 :: a6 :: a7 :: a8 :: a9 :: a10 :: a11 :: some (.long x) :: t) st σ cm := by
  obtain ⟨p, l, e, s, m, args, below, meth, c, s0, G, d, mc, ms⟩ := X
  exact jd_pure (fun ls H locs cells slots Q h w => lv_lload hX.1 hX.2.1 hd (jd_at h (i := 12) rfl) w) k
theorem jr_ald12 (hX : jd_C X own nm cc nL ret) {a0 a1 a2 a3 a4 a5 a6 a7 a8 a9 a10 a11 : Option Value} {t : List (Option Value)} {o : Option Nat} (hd : decode cc pc = .ok (.aload 12, 2)) (k : jd_S X emb (pc + 2) (a0 :: a1 :: a2 :: a3 :: a4 :: a5 :: a6 :: a7 :: a8 :: a9 :: a10 :: a11 :: some (jd_v (jd_gG X) o) :: t) (jd_v (jd_gG X) o :: st) σ cm) : jd_S X emb pc (a0 :: a1 :: a2 :: a3 :: a4 :: a5 :: a6 :: a7 :: a8 :: a9 :: a10 :: a11 :: some (jd_v (jd_gG X) o) :: t) st σ cm := by
  obtain ⟨p, l, e, s, m, args, below, meth, c, s0, G, d, mc, ms⟩ := X
  cases o with
  | none => exact jd_pure (fun ls H locs cells slots Q h w => lv_aloadN hX.1 hX.2.1 hd (jd_at h (i := 12) rfl) w) k
  | some x => exact jd_pure (fun ls H locs cells slots Q h w => lv_aload hX.1 hX.2.1 hd (jd_at h (i := 12) rfl) w) k
theorem jr_ist12 (hX : jd_C X own nm cc nL ret) {a0 a1 a2 a3 a4 a5 a6 a7 a8 a9 a10 a11 : Option Value} {b : Option Value} {t : List (Option Value)} {x : Int32} (hc : jd_nl a11 = true) (hd : decode cc pc = .ok (.istore 12, 2)) (k : jd_S X emb (pc + 2) (a0 :: a1 :: a2 :: a3 :: a4 :: a5 :: a6 :: a7 :: a8 :: a9 :: a10 :: a11 :: some (.int x) :: t) st σ cm) : jd_S X emb pc (a0 :: a1 :: a2 :: a3 :: a4 :: a5 :: a6 :: a7 :: a8 :: a9 :: a10 :: a11 :: b :: t) (.int x :: st) σ cm := by
  obtain ⟨p, l, e, s, m, args, below, meth, c, s0, G, d, mc, ms⟩ := X
  exact jd_loc (fun ls H locs cells slots Q h w => lv_istore hX.1 hX.2.1 hd h.2 (by have := h.1; simp at this; omega) rfl (fun ls' h' => w ls' (jd_st1 (i := 12) h.1 h' (by have := h.1; simp at this; omega) (jd_hc (i := 11) rfl hc)))) k
theorem jr_ast12 (hX : jd_C X own nm cc nL ret) {a0 a1 a2 a3 a4 a5 a6 a7 a8 a9 a10 a11 : Option Value} {b : Option Value} {t : List (Option Value)} {o : Option Nat} (hc : jd_nl a11 = true) (hd : decode cc pc = .ok (.astore 12, 2)) (k : jd_S X emb (pc + 2) (a0 :: a1 :: a2 :: a3 :: a4 :: a5 :: a6 :: a7 :: a8 :: a9 :: a10 :: a11 :: some (jd_v (jd_gG X) o) :: t) st σ cm) : jd_S X emb pc (a0 :: a1 :: a2 :: a3 :: a4 :: a5 :: a6 :: a7 :: a8 :: a9 :: a10 :: a11 :: b :: t) (jd_v (jd_gG X) o :: st) σ cm := by
  obtain ⟨p, l, e, s, m, args, below, meth, c, s0, G, d, mc, ms⟩ := X
  cases o with
  | none => exact jd_loc (fun ls H locs cells slots Q h w => lv_astoreN hX.1 hX.2.1 hd h.2 (by have := h.1; simp at this; omega) rfl (fun ls' h' => w ls' (jd_st1 (i := 12) h.1 h' (by have := h.1; simp at this; omega) (jd_hc (i := 11) rfl hc)))) k
  | some x => exact jd_loc (fun ls H locs cells slots Q h w => lv_astore hX.1 hX.2.1 hd h.2 (by have := h.1; simp at this; omega) rfl (fun ls' h' => w ls' (jd_st1 (i := 12) h.1 h' (by have := h.1; simp at this; omega) (jd_hc (i := 11) rfl hc)))) k
theorem jr_lst12 (hX : jd_C X own nm cc nL ret) {a0 a1 a2 a3 a4 a5 a6 a7 a8 a9 a10 a11 : Option Value} {b b2 : Option Value} {t : List (Option Value)} {x : Int64} (hc : jd_nl a11 = true) (hd : decode cc pc = .ok (.lstore 12, 2)) (k : jd_S X emb (pc + 2) (a0 :: a1 :: a2 :: a3 :: a4 :: a5 :: a6 :: a7 :: a8 :: a9 :: a10 :: a11 :: some (.long x) :: none :: t) st σ cm) : jd_S X emb pc (a0 :: a1 :: a2 :: a3 :: a4 :: a5 :: a6 :: a7 :: a8 :: a9 :: a10 :: a11 :: b :: b2 :: t) (.long x :: st) σ cm := by
  obtain ⟨p, l, e, s, m, args, below, meth, c, s0, G, d, mc, ms⟩ := X
  exact jd_loc (fun ls H locs cells slots Q h w => lv_lstore hX.1 hX.2.1 hd h.2 (by have := h.1; simp at this; omega) rfl (fun ls' h' => w ls' (jd_st2 (i := 12) h.1 h' (by have := h.1; simp at this; omega) (jd_hc (i := 11) rfl hc)))) k
theorem jr_inc12 (hX : jd_C X own nm cc nL ret) {a0 a1 a2 a3 a4 a5 a6 a7 a8 a9 a10 a11 : Option Value} {t : List (Option Value)} {x : Int32} {n : Int} (c : Int32) (hcc : Int32.ofInt n = c) (hc : jd_nl a11 = true) (hd : decode cc pc = .ok (.iinc 12 n, 3)) (k : jd_S X emb (pc + 3) (a0 :: a1 :: a2 :: a3 :: a4 :: a5 :: a6 :: a7 :: a8 :: a9 :: a10 :: a11 :: some (.int (x + c)) :: t) st σ cm) : jd_S X emb pc (a0 :: a1 :: a2 :: a3 :: a4 :: a5 :: a6 :: a7 :: a8 :: a9 :: a10 :: a11 :: some (.int x) :: t) st σ cm := by
  obtain ⟨p, l, e, s, m, args, below, meth, c, s0, G, d, mc, ms⟩ := X
  refine jd_loc (fun ls H locs cells slots Q h w => ?_) k
  obtain ⟨k0, hk0⟩ := List.getElem?_of_mem (jd_al_mem (lv := a0 :: a1 :: a2 :: a3 :: a4 :: a5 :: a6 :: a7 :: a8 :: a9 :: a10 :: a11 :: some (.int x) :: t) (j := 12) (w := .int x) |>.mpr rfl)
  exact lv_iinc hX.1 hX.2.1 hd h.2 hk0 (by rw [hcc]) (by have := h.1; simp at this; omega) rfl (fun ls' h' => w ls' (jd_st1 (i := 12) h.1 h' (by have := h.1; simp at this; omega) (jd_hc (i := 11) rfl hc)))
end JD3
