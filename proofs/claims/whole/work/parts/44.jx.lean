/-! JX: the judgement with any end -/
def jx_S {R : Type} (X : jd_X) (emb : jd_X → R → jd_Hp → State → Prop) (pc : Nat) (lv : List (Option Value)) (st : List Value) (σ : jd_Hp) (cm : Option (R × jd_Hp)) : Prop := match X with
  | (p, l, e, s, m, args, below, meth, c, s0, G, d, mc, ms) => ∀ (v : R) (σ' : jd_Hp), cm = some (v, σ') → jd_p σ σ' ∧ ∀ (ls : Array Slot) (H : Heap) (locs : List Loc) (cells slots : Nat), jd_L ls c.maxLocals lv → jd_H G σ H → va_S (fun q => G.1 ≤ q) s.heap H locs → cells + σ'.1.length ≤ mc + σ.1.length → slots + jd_z σ' ≤ ms + jd_z σ →
    W p l e (jd_rm d mc ms) s m args below meth c H locs cells slots (emb (p, l, e, s, m, args, below, meth, c, s0, G, d, mc, ms) v σ') (F0 m pc ls st)
section xJXP
variable {R : Type} {X : jd_X} {emb : jd_X → R → jd_Hp → State → Prop} {pc pc' : Nat} {lv : List (Option Value)} {st st' : List Value} {σ : jd_Hp} {cm : Option (R × jd_Hp)}
/-- an instruction that leaves locals and heap -/
theorem jxd_pure (h : match X with
  | (p, l, e, s, m, args, below, meth, c, _, _, d, mc, ms) => ∀ (ls : Array Slot) (H : Heap) (locs : List Loc) (cells slots : Nat) (Q : State → Prop), jd_L ls c.maxLocals lv → W p l e (jd_rm d mc ms) s m args below meth c H locs cells slots Q (F0 m pc' ls st') → W p l e (jd_rm d mc ms) s m args below meth c H locs cells slots Q (F0 m pc ls st)) (k : jx_S X emb pc' lv st' σ cm) : jx_S X emb pc lv st σ cm := by
  obtain ⟨p, l, e, s, m, args, below, meth, c, s0, G, d, mc, ms⟩ := X
  intro v σ' hv
  obtain ⟨h1, h2⟩ := k v σ' hv
  exact ⟨h1, fun ls H locs cells slots a b c d f => h ls H locs cells slots _ a (h2 ls H locs cells slots a b c d f)⟩
end xJXP
section xJD3
variable {R τ : Type} {X : jd_X} {emb : jd_X → R → jd_Hp → State → Prop} {own nm : String} {cc : ByteArray} {nL : Nat} {ret : Option FieldType} {pc : Nat} {lv : List (Option Value)} {st : List Value} {σ : jd_Hp} {cm : Option (R × jd_Hp)} {K : τ → jd_Hp → Option (R × jd_Hp)}
/-- less is known of the locals -/
theorem jx_wk (bs : List Bool) (k : jx_S X emb pc (jd_mk bs lv) st σ cm) : jx_S X emb pc lv st σ cm := by
  obtain ⟨p, l, e, s, m, args, below, meth, c, s0, G, d, mc, ms⟩ := X
  intro v σ' hv
  obtain ⟨h1, h2⟩ := k v σ' hv
  refine ⟨h1, fun ls H locs cells slots a b c d f => h2 ls H locs cells slots ?_ b c d f⟩
  obtain ⟨m1, m2⟩ := jd_mk_ok bs lv
  exact ⟨m1.trans a.1, a.2.1, a.2.2.1, fun q hq => a.2.2.2 q (jd_al_mem.mpr (m2 q.1 q.2 (jd_al_mem.mp hq)))⟩
/-- an instruction that leaves the heap: locals may change -/
theorem jxd_loc {pc' : Nat} {lv' : List (Option Value)} {st' : List Value} (h : match X with
  | (p, l, e, s, m, args, below, meth, c, _, _, d, mc, ms) => ∀ (ls : Array Slot) (H : Heap) (locs : List Loc) (cells slots : Nat) (Q : State → Prop), jd_L ls c.maxLocals lv → (∀ ls', jd_L ls' c.maxLocals lv' → W p l e (jd_rm d mc ms) s m args below meth c H locs cells slots Q (F0 m pc' ls' st')) → W p l e (jd_rm d mc ms) s m args below meth c H locs cells slots Q (F0 m pc ls st)) (k : jx_S X emb pc' lv' st' σ cm) : jx_S X emb pc lv st σ cm := by
  obtain ⟨p, l, e, s, m, args, below, meth, c, s0, G, d, mc, ms⟩ := X
  intro v σ' hv
  obtain ⟨h1, h2⟩ := k v σ' hv
  exact ⟨h1, fun ls H locs cells slots a b c d f => h ls H locs cells slots _ a (fun ls' a' => h2 ls' H locs cells slots a' b c d f)⟩
/-- an instruction that reads the heap -/
theorem jxd_rd {pc' : Nat} {st' : List Value} (h : match X with
  | (p, l, e, s, m, args, below, meth, c, _, G, d, mc, ms) => ∀ (ls : Array Slot) (H : Heap) (locs : List Loc) (cells slots : Nat) (Q : State → Prop), jd_L ls c.maxLocals lv → jd_H G σ H → W p l e (jd_rm d mc ms) s m args below meth c H locs cells slots Q (F0 m pc' ls st') → W p l e (jd_rm d mc ms) s m args below meth c H locs cells slots Q (F0 m pc ls st)) (k : jx_S X emb pc' lv st' σ cm) : jx_S X emb pc lv st σ cm := by
  obtain ⟨p, l, e, s, m, args, below, meth, c, s0, G, d, mc, ms⟩ := X
  intro v σ' hv
  obtain ⟨h1, h2⟩ := k v σ' hv
  exact ⟨h1, fun ls H locs cells slots a b c d f => h ls H locs cells slots _ a b (h2 ls H locs cells slots a b c d f)⟩
/-- an instruction that writes one cell -/
theorem jxd_wr {pc' : Nat} {st' : List Value} {σ1 : jd_Hp} (hs : σ1.1 = σ.1) (h : match X with
  | (p, l, e, s, m, args, below, meth, c, _, G, d, mc, ms) => ∀ (ls : Array Slot) (H : Heap) (locs : List Loc) (cells slots : Nat) (Q : State → Prop), jd_L ls c.maxLocals lv → jd_H G σ H → (∀ (H1 : Heap) (L : Loc), jd_H G σ1 H1 → H1.size = H.size → (∀ q : Nat, q ≠ L.base → H1[q]? = H[q]?) → G.1 ≤ L.base → W p l e (jd_rm d mc ms) s m args below meth c H1 (locs ++ [L]) cells slots Q (F0 m pc' ls st')) → W p l e (jd_rm d mc ms) s m args below meth c H locs cells slots Q (F0 m pc ls st)) (k : jx_S X emb pc' lv st' σ1 cm) : jx_S X emb pc lv st σ cm := by
  obtain ⟨p, l, e, s, m, args, below, meth, c, s0, G, d, mc, ms⟩ := X
  intro v σ' hv
  obtain ⟨h1, h2⟩ := k v σ' hv
  refine ⟨(jd_p.of hs).tr h1, fun ls H locs cells slots a b c d f => h ls H locs cells slots _ a b (fun H1 L b1 z1 o1 hL => h2 ls H1 _ cells slots a b1 ?_ (by rw [hs]; exact d) (by simp only [jd_z, hs] at f ⊢; exact f))⟩
  refine ⟨by rw [z1]; exact c.1, fun q g1 g2 => ?_, fun x hx => ?_⟩
  · rw [o1 q (fun q1 => g2 (by rw [q1]; exact hL))]
    exact c.2.1 q g1 g2
  · rcases List.mem_append.mp hx with hx | hx
    · exact c.2.2 x hx
    · rw [List.mem_singleton.mp hx]
      exact hL

theorem jx_iadd (hX : jd_C X own nm cc nL ret) {x y : Int32} (hd : decode cc pc = .ok (.iadd, 1)) (k : jx_S X emb (pc + 1) lv (.int (x + y) :: st) σ cm) : jx_S X emb pc lv (.int y :: .int x :: st) σ cm := by
  obtain ⟨p, l, e, s, m, args, below, meth, c, s0, G, d, mc, ms⟩ := X
  exact jxd_pure (fun ls H locs cells slots Q _ w => lv_iadd hX.1 hX.2.1 hd w) k
theorem jx_isub (hX : jd_C X own nm cc nL ret) {x y : Int32} (hd : decode cc pc = .ok (.isub, 1)) (k : jx_S X emb (pc + 1) lv (.int (x - y) :: st) σ cm) : jx_S X emb pc lv (.int y :: .int x :: st) σ cm := by
  obtain ⟨p, l, e, s, m, args, below, meth, c, s0, G, d, mc, ms⟩ := X
  exact jxd_pure (fun ls H locs cells slots Q _ w => lv_isub hX.1 hX.2.1 hd w) k
theorem jx_imul (hX : jd_C X own nm cc nL ret) {x y : Int32} (hd : decode cc pc = .ok (.imul, 1)) (k : jx_S X emb (pc + 1) lv (.int (x * y) :: st) σ cm) : jx_S X emb pc lv (.int y :: .int x :: st) σ cm := by
  obtain ⟨p, l, e, s, m, args, below, meth, c, s0, G, d, mc, ms⟩ := X
  exact jxd_pure (fun ls H locs cells slots Q _ w => lv_imul hX.1 hX.2.1 hd w) k
theorem jx_iand (hX : jd_C X own nm cc nL ret) {x y : Int32} (hd : decode cc pc = .ok (.iand, 1)) (k : jx_S X emb (pc + 1) lv (.int (x &&& y) :: st) σ cm) : jx_S X emb pc lv (.int y :: .int x :: st) σ cm := by
  obtain ⟨p, l, e, s, m, args, below, meth, c, s0, G, d, mc, ms⟩ := X
  exact jxd_pure (fun ls H locs cells slots Q _ w => lv_iand hX.1 hX.2.1 hd w) k
theorem jx_ior (hX : jd_C X own nm cc nL ret) {x y : Int32} (hd : decode cc pc = .ok (.ior, 1)) (k : jx_S X emb (pc + 1) lv (.int (x ||| y) :: st) σ cm) : jx_S X emb pc lv (.int y :: .int x :: st) σ cm := by
  obtain ⟨p, l, e, s, m, args, below, meth, c, s0, G, d, mc, ms⟩ := X
  exact jxd_pure (fun ls H locs cells slots Q _ w => lv_ior hX.1 hX.2.1 hd w) k
theorem jx_ixor (hX : jd_C X own nm cc nL ret) {x y : Int32} (hd : decode cc pc = .ok (.ixor, 1)) (k : jx_S X emb (pc + 1) lv (.int (x ^^^ y) :: st) σ cm) : jx_S X emb pc lv (.int y :: .int x :: st) σ cm := by
  obtain ⟨p, l, e, s, m, args, below, meth, c, s0, G, d, mc, ms⟩ := X
  exact jxd_pure (fun ls H locs cells slots Q _ w => lv_ixor hX.1 hX.2.1 hd w) k
theorem jx_ladd (hX : jd_C X own nm cc nL ret) {x y : Int64} (hd : decode cc pc = .ok (.ladd, 1)) (k : jx_S X emb (pc + 1) lv (.long (x + y) :: st) σ cm) : jx_S X emb pc lv (.long y :: .long x :: st) σ cm := by
  obtain ⟨p, l, e, s, m, args, below, meth, c, s0, G, d, mc, ms⟩ := X
  exact jxd_pure (fun ls H locs cells slots Q _ w => lv_ladd hX.1 hX.2.1 hd w) k
theorem jx_lsub (hX : jd_C X own nm cc nL ret) {x y : Int64} (hd : decode cc pc = .ok (.lsub, 1)) (k : jx_S X emb (pc + 1) lv (.long (x - y) :: st) σ cm) : jx_S X emb pc lv (.long y :: .long x :: st) σ cm := by
  obtain ⟨p, l, e, s, m, args, below, meth, c, s0, G, d, mc, ms⟩ := X
  exact jxd_pure (fun ls H locs cells slots Q _ w => lv_lsub hX.1 hX.2.1 hd w) k
theorem jx_lmul (hX : jd_C X own nm cc nL ret) {x y : Int64} (hd : decode cc pc = .ok (.lmul, 1)) (k : jx_S X emb (pc + 1) lv (.long (x * y) :: st) σ cm) : jx_S X emb pc lv (.long y :: .long x :: st) σ cm := by
  obtain ⟨p, l, e, s, m, args, below, meth, c, s0, G, d, mc, ms⟩ := X
  exact jxd_pure (fun ls H locs cells slots Q _ w => lv_lmul hX.1 hX.2.1 hd w) k
theorem jx_ishl (hX : jd_C X own nm cc nL ret) {x y : Int32} (hd : decode cc pc = .ok (.ishl, 1)) (k : jx_S X emb (pc + 1) lv (.int (x <<< (y &&& 31)) :: st) σ cm) : jx_S X emb pc lv (.int y :: .int x :: st) σ cm := by
  obtain ⟨p, l, e, s, m, args, below, meth, c, s0, G, d, mc, ms⟩ := X
  exact jxd_pure (fun ls H locs cells slots Q _ w => lv_ishl hX.1 hX.2.1 hd w) k
theorem jx_ishr (hX : jd_C X own nm cc nL ret) {x y : Int32} (hd : decode cc pc = .ok (.ishr, 1)) (k : jx_S X emb (pc + 1) lv (.int (x >>> (y &&& 31)) :: st) σ cm) : jx_S X emb pc lv (.int y :: .int x :: st) σ cm := by
  obtain ⟨p, l, e, s, m, args, below, meth, c, s0, G, d, mc, ms⟩ := X
  exact jxd_pure (fun ls H locs cells slots Q _ w => lv_ishr hX.1 hX.2.1 hd w) k
theorem jx_iushr (hX : jd_C X own nm cc nL ret) {x y : Int32} (hd : decode cc pc = .ok (.iushr, 1)) (k : jx_S X emb (pc + 1) lv (.int (x.toUInt32 >>> (y.toUInt32 &&& Int32.toUInt32 31)).toInt32 :: st) σ cm) : jx_S X emb pc lv (.int y :: .int x :: st) σ cm := by
  obtain ⟨p, l, e, s, m, args, below, meth, c, s0, G, d, mc, ms⟩ := X
  exact jxd_pure (fun ls H locs cells slots Q _ w => lv_iushr hX.1 hX.2.1 hd rfl w) k
theorem jx_idiv (hX : jd_C X own nm cc nL ret) {x y : Int32} (hd : decode cc pc = .ok (.idiv, 1)) (hy : ¬ y = 0) (k : jx_S X emb (pc + 1) lv (.int (x / y) :: st) σ cm) : jx_S X emb pc lv (.int y :: .int x :: st) σ cm := by
  obtain ⟨p, l, e, s, m, args, below, meth, c, s0, G, d, mc, ms⟩ := X
  exact jxd_pure (fun ls H locs cells slots Q _ w => lv_idiv hX.1 hX.2.1 hd hy w) k
theorem jx_irem (hX : jd_C X own nm cc nL ret) {x y : Int32} (hd : decode cc pc = .ok (.irem, 1)) (hy : ¬ y = 0) (k : jx_S X emb (pc + 1) lv (.int (x - x / y * y) :: st) σ cm) : jx_S X emb pc lv (.int y :: .int x :: st) σ cm := by
  obtain ⟨p, l, e, s, m, args, below, meth, c, s0, G, d, mc, ms⟩ := X
  exact jxd_pure (fun ls H locs cells slots Q _ w => lv_irem hX.1 hX.2.1 hd hy w) k
theorem jx_ldiv (hX : jd_C X own nm cc nL ret) {x y : Int64} (hd : decode cc pc = .ok (.ldiv, 1)) (hy : ¬ y = 0) (k : jx_S X emb (pc + 1) lv (.long (x / y) :: st) σ cm) : jx_S X emb pc lv (.long y :: .long x :: st) σ cm := by
  obtain ⟨p, l, e, s, m, args, below, meth, c, s0, G, d, mc, ms⟩ := X
  exact jxd_pure (fun ls H locs cells slots Q _ w => lv_ldiv hX.1 hX.2.1 hd hy w) k
theorem jx_lrem (hX : jd_C X own nm cc nL ret) {x y : Int64} (hd : decode cc pc = .ok (.lrem, 1)) (hy : ¬ y = 0) (k : jx_S X emb (pc + 1) lv (.long (x - x / y * y) :: st) σ cm) : jx_S X emb pc lv (.long y :: .long x :: st) σ cm := by
  obtain ⟨p, l, e, s, m, args, below, meth, c, s0, G, d, mc, ms⟩ := X
  exact jxd_pure (fun ls H locs cells slots Q _ w => lv_lrem hX.1 hX.2.1 hd hy w) k
theorem jx_nz {cd : Prop} [Decidable cd] {B : Option (τ × jd_Hp)} (k : ¬ cd → jx_S X emb pc lv st σ (jd_b B K)) : jx_S X emb pc lv st σ (jd_b (jd_nz cd B) K) := by
  obtain ⟨p, l, e, s, m, args, below, meth, c, s0, G, d, mc, ms⟩ := X
  intro v σ' hv
  by_cases hc : cd
  · simp [jd_nz, hc, jd_b] at hv
  · exact k hc v σ' (by simpa [jd_nz, hc] using hv)
theorem jx_lcmp (hX : jd_C X own nm cc nL ret) {x y : Int64} (hd : decode cc pc = .ok (.lcmp, 1)) (k : jx_S X emb (pc + 1) lv (.int (lg_cmp x y) :: st) σ cm) : jx_S X emb pc lv (.long y :: .long x :: st) σ cm := by
  obtain ⟨p, l, e, s, m, args, below, meth, c, s0, G, d, mc, ms⟩ := X
  exact jxd_pure (fun ls H locs cells slots Q _ w => W.lcmp hX.1 hX.2.1 hd w) k
theorem jx_i2l (hX : jd_C X own nm cc nL ret) {x : Int32} (hd : decode cc pc = .ok (.i2l, 1)) (k : jx_S X emb (pc + 1) lv (.long x.toInt64 :: st) σ cm) : jx_S X emb pc lv (.int x :: st) σ cm := by
  obtain ⟨p, l, e, s, m, args, below, meth, c, s0, G, d, mc, ms⟩ := X
  exact jxd_pure (fun ls H locs cells slots Q _ w => lv_i2l hX.1 hX.2.1 hd rfl w) k
theorem jx_l2i (hX : jd_C X own nm cc nL ret) {x : Int64} (hd : decode cc pc = .ok (.l2i, 1)) (k : jx_S X emb (pc + 1) lv (.int x.toInt32 :: st) σ cm) : jx_S X emb pc lv (.long x :: st) σ cm := by
  obtain ⟨p, l, e, s, m, args, below, meth, c, s0, G, d, mc, ms⟩ := X
  exact jxd_pure (fun ls H locs cells slots Q _ w => lv_l2i hX.1 hX.2.1 hd rfl w) k
theorem jx_i2b (hX : jd_C X own nm cc nL ret) {x : Int32} (hd : decode cc pc = .ok (.i2b, 1)) (k : jx_S X emb (pc + 1) lv (.int x.toInt8.toInt32 :: st) σ cm) : jx_S X emb pc lv (.int x :: st) σ cm := by
  obtain ⟨p, l, e, s, m, args, below, meth, c, s0, G, d, mc, ms⟩ := X
  exact jxd_pure (fun ls H locs cells slots Q _ w => lv_i2b hX.1 hX.2.1 hd rfl w) k
theorem jx_i2c (hX : jd_C X own nm cc nL ret) {x : Int32} (hd : decode cc pc = .ok (.i2c, 1)) (k : jx_S X emb (pc + 1) lv (.int (x.toUInt32 % 65536).toInt32 :: st) σ cm) : jx_S X emb pc lv (.int x :: st) σ cm := by
  obtain ⟨p, l, e, s, m, args, below, meth, c, s0, G, d, mc, ms⟩ := X
  exact jxd_pure (fun ls H locs cells slots Q _ w => lv_i2c hX.1 hX.2.1 hd rfl w) k
theorem jx_iconst (hX : jd_C X own nm cc nL ret) {n : Int} (v : Int32) (hv : Int32.ofInt n = v) (hd : decode cc pc = .ok (.iconst n, 1)) (k : jx_S X emb (pc + 1) lv (.int v :: st) σ cm) : jx_S X emb pc lv st σ cm := by
  obtain ⟨p, l, e, s, m, args, below, meth, c, s0, G, d, mc, ms⟩ := X
  exact jxd_pure (fun ls H locs cells slots Q _ w => lv_iconst hX.1 hX.2.1 hd hv w) k
theorem jx_bipush (hX : jd_C X own nm cc nL ret) {n : Int} (v : Int32) (hv : (Int8.ofInt n).toInt32 = v) (hd : decode cc pc = .ok (.bipush n, 2)) (k : jx_S X emb (pc + 2) lv (.int v :: st) σ cm) : jx_S X emb pc lv st σ cm := by
  obtain ⟨p, l, e, s, m, args, below, meth, c, s0, G, d, mc, ms⟩ := X
  exact jxd_pure (fun ls H locs cells slots Q _ w => lv_bipush hX.1 hX.2.1 hd hv w) k
theorem jx_sipush (hX : jd_C X own nm cc nL ret) {n : Int} (v : Int32) (hv : (Int16.ofInt n).toInt32 = v) (hd : decode cc pc = .ok (.sipush n, 3)) (k : jx_S X emb (pc + 3) lv (.int v :: st) σ cm) : jx_S X emb pc lv st σ cm := by
  obtain ⟨p, l, e, s, m, args, below, meth, c, s0, G, d, mc, ms⟩ := X
  exact jxd_pure (fun ls H locs cells slots Q _ w => lv_sipush hX.1 hX.2.1 hd hv w) k
theorem jx_lconst (hX : jd_C X own nm cc nL ret) {n : Fin 2} (v : Int64) (hv : Int64.ofNat (n : Nat) = v) (hd : decode cc pc = .ok (.lconst n, 1)) (k : jx_S X emb (pc + 1) lv (.long v :: st) σ cm) : jx_S X emb pc lv st σ cm := by
  obtain ⟨p, l, e, s, m, args, below, meth, c, s0, G, d, mc, ms⟩ := X
  exact jxd_pure (fun ls H locs cells slots Q _ w => lv_lconst hX.1 hX.2.1 hd hv w) k
theorem jx_ldc (hX : jd_C X own nm cc nL ret) {idx : Nat} {v : Int32} (hw : Cond.constant own idx v ∈ jd_TB) (hd : decode cc pc = .ok (.ldc idx, 2)) (k : jx_S X emb (pc + 2) lv (.int v :: st) σ cm) : jx_S X emb pc lv st σ cm := by
  have hts := jd_words hX
  obtain ⟨p, l, e, s, m, args, below, meth, c, s0, G, d, mc, ms⟩ := X
  exact jxd_pure (fun ls H locs cells slots Q _ w => lv_ldc hX.1 hX.2.1 hX.2.2.2.1 (hts _ hw) hd w) k
theorem jx_ldcw (hX : jd_C X own nm cc nL ret) {idx : Nat} {v : Int32} (hw : Cond.constant own idx v ∈ jd_TB) (hd : decode cc pc = .ok (.ldc_w idx, 3)) (k : jx_S X emb (pc + 3) lv (.int v :: st) σ cm) : jx_S X emb pc lv st σ cm := by
  have hts := jd_words hX
  obtain ⟨p, l, e, s, m, args, below, meth, c, s0, G, d, mc, ms⟩ := X
  exact jxd_pure (fun ls H locs cells slots Q _ w => lv_ldcw hX.1 hX.2.1 hX.2.2.2.1 (hts _ hw) hd w) k
theorem jx_ldc2 (hX : jd_C X own nm cc nL ret) {idx : Nat} {v : Int64} (hw : Cond.constantLong own idx v ∈ jd_TB) (hd : decode cc pc = .ok (.ldc2_w idx, 3)) (k : jx_S X emb (pc + 3) lv (.long v :: st) σ cm) : jx_S X emb pc lv st σ cm := by
  have hts := jd_words hX
  obtain ⟨p, l, e, s, m, args, below, meth, c, s0, G, d, mc, ms⟩ := X
  exact jxd_pure (fun ls H locs cells slots Q _ w => lv_ldc2 hX.1 hX.2.1 hX.2.2.2.1 (hts _ hw) hd w) k
theorem jx_dup (hX : jd_C X own nm cc nL ret) {v : Value} (hv : v.category = 1) (hd : decode cc pc = .ok (.dup, 1)) (k : jx_S X emb (pc + 1) lv (v :: v :: st) σ cm) : jx_S X emb pc lv (v :: st) σ cm := by
  obtain ⟨p, l, e, s, m, args, below, meth, c, s0, G, d, mc, ms⟩ := X
  exact jxd_pure (fun ls H locs cells slots Q _ w => lv_dup hX.1 hX.2.1 hd hv w) k
theorem jx_pop (hX : jd_C X own nm cc nL ret) {v : Value} (hv : v.category = 1) (hd : decode cc pc = .ok (.pop, 1)) (k : jx_S X emb (pc + 1) lv st σ cm) : jx_S X emb pc lv (v :: st) σ cm := by
  obtain ⟨p, l, e, s, m, args, below, meth, c, s0, G, d, mc, ms⟩ := X
  exact jxd_pure (fun ls H locs cells slots Q _ w => lv_pop hX.1 hX.2.1 hd hv w) k
theorem jx_dup2 (hX : jd_C X own nm cc nL ret) {v u : Value} (hv : v.category = 1) (hu : u.category = 1) (hd : decode cc pc = .ok (.dup2, 1)) (k : jx_S X emb (pc + 1) lv (v :: u :: v :: u :: st) σ cm) : jx_S X emb pc lv (v :: u :: st) σ cm := by
  obtain ⟨p, l, e, s, m, args, below, meth, c, s0, G, d, mc, ms⟩ := X
  exact jxd_pure (fun ls H locs cells slots Q _ w => lv_dup2_11 hX.1 hX.2.1 hd hv hu w) k
theorem jx_goto (hX : jd_C X own nm cc nL ret) {off : Int} (tgt : Nat) (hd : decode cc pc = .ok (.goto off, 3)) (ht : (pc : Int) + off = (tgt : Int)) (k : jx_S X emb tgt lv st σ cm) : jx_S X emb pc lv st σ cm := by
  obtain ⟨p, l, e, s, m, args, below, meth, c, s0, G, d, mc, ms⟩ := X
  exact jxd_pure (fun ls H locs cells slots Q _ w => lv_goto hX.1 hX.2.1 hd ht w) k
theorem jx_null (hX : jd_C X own nm cc nL ret) (hd : decode cc pc = .ok (.aconst_null, 1)) (k : jx_S X emb (pc + 1) lv (jd_v (jd_gG X) none :: st) σ cm) : jx_S X emb pc lv st σ cm := by
  obtain ⟨p, l, e, s, m, args, below, meth, c, s0, G, d, mc, ms⟩ := X
  exact jxd_pure (fun ls H locs cells slots Q _ w => lv_null hX.1 hX.2.1 hd w) k
theorem jx_ifeq (hX : jd_C X own nm cc nL ret) {x : Int32} {off : Int} (tgt : Nat) {A B : Option (τ × jd_Hp)} (hd : decode cc pc = .ok (.ifCond .eq off, 3)) (ht : (pc : Int) + off = (tgt : Int)) (kt : jx_S X emb tgt lv st σ (jd_b A K)) (kf : jx_S X emb (pc + 3) lv st σ (jd_b B K)) : jx_S X emb pc lv (.int x :: st) σ (jd_b (jd_if (x = 0) A B) K) := by
  obtain ⟨p, l, e, s, m, args, below, meth, c, s0, G, d, mc, ms⟩ := X
  intro v σ' hv
  by_cases hc : x = 0
  · obtain ⟨h1, h2⟩ := kt v σ' (by rwa [jd_if, if_pos hc] at hv)
    exact ⟨h1, fun ls H locs cells slots a b c d f => lv_if_eq hX.1 hX.2.1 hd ht (fun _ => h2 ls H locs cells slots a b c d f) (fun n => absurd hc n)⟩
  · obtain ⟨h1, h2⟩ := kf v σ' (by rwa [jd_if, if_neg hc] at hv)
    exact ⟨h1, fun ls H locs cells slots a b c d f => lv_if_eq hX.1 hX.2.1 hd ht (fun n => absurd n hc) (fun _ => h2 ls H locs cells slots a b c d f)⟩
theorem jx_ifne (hX : jd_C X own nm cc nL ret) {x : Int32} {off : Int} (tgt : Nat) {A B : Option (τ × jd_Hp)} (hd : decode cc pc = .ok (.ifCond .ne off, 3)) (ht : (pc : Int) + off = (tgt : Int)) (kt : jx_S X emb tgt lv st σ (jd_b A K)) (kf : jx_S X emb (pc + 3) lv st σ (jd_b B K)) : jx_S X emb pc lv (.int x :: st) σ (jd_b (jd_if (¬ x = 0) A B) K) := by
  obtain ⟨p, l, e, s, m, args, below, meth, c, s0, G, d, mc, ms⟩ := X
  intro v σ' hv
  by_cases hc : ¬ x = 0
  · obtain ⟨h1, h2⟩ := kt v σ' (by rwa [jd_if, if_pos hc] at hv)
    exact ⟨h1, fun ls H locs cells slots a b c d f => lv_if_ne hX.1 hX.2.1 hd ht (fun _ => h2 ls H locs cells slots a b c d f) (fun n => absurd n hc)⟩
  · obtain ⟨h1, h2⟩ := kf v σ' (by rwa [jd_if, if_neg hc] at hv)
    exact ⟨h1, fun ls H locs cells slots a b c d f => lv_if_ne hX.1 hX.2.1 hd ht (fun n => absurd n hc) (fun _ => h2 ls H locs cells slots a b c d f)⟩
theorem jx_iflt (hX : jd_C X own nm cc nL ret) {x : Int32} {off : Int} (tgt : Nat) {A B : Option (τ × jd_Hp)} (hd : decode cc pc = .ok (.ifCond .lt off, 3)) (ht : (pc : Int) + off = (tgt : Int)) (kt : jx_S X emb tgt lv st σ (jd_b A K)) (kf : jx_S X emb (pc + 3) lv st σ (jd_b B K)) : jx_S X emb pc lv (.int x :: st) σ (jd_b (jd_if (x < 0) A B) K) := by
  obtain ⟨p, l, e, s, m, args, below, meth, c, s0, G, d, mc, ms⟩ := X
  intro v σ' hv
  by_cases hc : x < 0
  · obtain ⟨h1, h2⟩ := kt v σ' (by rwa [jd_if, if_pos hc] at hv)
    exact ⟨h1, fun ls H locs cells slots a b c d f => lv_if_lt hX.1 hX.2.1 hd ht (fun _ => h2 ls H locs cells slots a b c d f) (fun n => absurd hc n)⟩
  · obtain ⟨h1, h2⟩ := kf v σ' (by rwa [jd_if, if_neg hc] at hv)
    exact ⟨h1, fun ls H locs cells slots a b c d f => lv_if_lt hX.1 hX.2.1 hd ht (fun n => absurd n hc) (fun _ => h2 ls H locs cells slots a b c d f)⟩
theorem jx_ifge (hX : jd_C X own nm cc nL ret) {x : Int32} {off : Int} (tgt : Nat) {A B : Option (τ × jd_Hp)} (hd : decode cc pc = .ok (.ifCond .ge off, 3)) (ht : (pc : Int) + off = (tgt : Int)) (kt : jx_S X emb tgt lv st σ (jd_b A K)) (kf : jx_S X emb (pc + 3) lv st σ (jd_b B K)) : jx_S X emb pc lv (.int x :: st) σ (jd_b (jd_if (0 ≤ x) A B) K) := by
  obtain ⟨p, l, e, s, m, args, below, meth, c, s0, G, d, mc, ms⟩ := X
  intro v σ' hv
  by_cases hc : 0 ≤ x
  · obtain ⟨h1, h2⟩ := kt v σ' (by rwa [jd_if, if_pos hc] at hv)
    exact ⟨h1, fun ls H locs cells slots a b c d f => lv_if_ge hX.1 hX.2.1 hd ht (fun _ => h2 ls H locs cells slots a b c d f) (fun n => absurd hc n)⟩
  · obtain ⟨h1, h2⟩ := kf v σ' (by rwa [jd_if, if_neg hc] at hv)
    exact ⟨h1, fun ls H locs cells slots a b c d f => lv_if_ge hX.1 hX.2.1 hd ht (fun n => absurd n hc) (fun _ => h2 ls H locs cells slots a b c d f)⟩
theorem jx_ifgt (hX : jd_C X own nm cc nL ret) {x : Int32} {off : Int} (tgt : Nat) {A B : Option (τ × jd_Hp)} (hd : decode cc pc = .ok (.ifCond .gt off, 3)) (ht : (pc : Int) + off = (tgt : Int)) (kt : jx_S X emb tgt lv st σ (jd_b A K)) (kf : jx_S X emb (pc + 3) lv st σ (jd_b B K)) : jx_S X emb pc lv (.int x :: st) σ (jd_b (jd_if (0 < x) A B) K) := by
  obtain ⟨p, l, e, s, m, args, below, meth, c, s0, G, d, mc, ms⟩ := X
  intro v σ' hv
  by_cases hc : 0 < x
  · obtain ⟨h1, h2⟩ := kt v σ' (by rwa [jd_if, if_pos hc] at hv)
    exact ⟨h1, fun ls H locs cells slots a b c d f => lv_if_gt hX.1 hX.2.1 hd ht (fun _ => h2 ls H locs cells slots a b c d f) (fun n => absurd hc n)⟩
  · obtain ⟨h1, h2⟩ := kf v σ' (by rwa [jd_if, if_neg hc] at hv)
    exact ⟨h1, fun ls H locs cells slots a b c d f => lv_if_gt hX.1 hX.2.1 hd ht (fun n => absurd n hc) (fun _ => h2 ls H locs cells slots a b c d f)⟩
theorem jx_ifle (hX : jd_C X own nm cc nL ret) {x : Int32} {off : Int} (tgt : Nat) {A B : Option (τ × jd_Hp)} (hd : decode cc pc = .ok (.ifCond .le off, 3)) (ht : (pc : Int) + off = (tgt : Int)) (kt : jx_S X emb tgt lv st σ (jd_b A K)) (kf : jx_S X emb (pc + 3) lv st σ (jd_b B K)) : jx_S X emb pc lv (.int x :: st) σ (jd_b (jd_if (x ≤ 0) A B) K) := by
  obtain ⟨p, l, e, s, m, args, below, meth, c, s0, G, d, mc, ms⟩ := X
  intro v σ' hv
  by_cases hc : x ≤ 0
  · obtain ⟨h1, h2⟩ := kt v σ' (by rwa [jd_if, if_pos hc] at hv)
    exact ⟨h1, fun ls H locs cells slots a b c d f => lv_if_le hX.1 hX.2.1 hd ht (fun _ => h2 ls H locs cells slots a b c d f) (fun n => absurd hc n)⟩
  · obtain ⟨h1, h2⟩ := kf v σ' (by rwa [jd_if, if_neg hc] at hv)
    exact ⟨h1, fun ls H locs cells slots a b c d f => lv_if_le hX.1 hX.2.1 hd ht (fun n => absurd n hc) (fun _ => h2 ls H locs cells slots a b c d f)⟩
theorem jx_iceq (hX : jd_C X own nm cc nL ret) {x y : Int32} {off : Int} (tgt : Nat) {A B : Option (τ × jd_Hp)} (hd : decode cc pc = .ok (.if_icmp .eq off, 3)) (ht : (pc : Int) + off = (tgt : Int)) (kt : jx_S X emb tgt lv st σ (jd_b A K)) (kf : jx_S X emb (pc + 3) lv st σ (jd_b B K)) : jx_S X emb pc lv (.int y :: .int x :: st) σ (jd_b (jd_if (x = y) A B) K) := by
  obtain ⟨p, l, e, s, m, args, below, meth, c, s0, G, d, mc, ms⟩ := X
  intro v σ' hv
  by_cases hc : x = y
  · obtain ⟨h1, h2⟩ := kt v σ' (by rwa [jd_if, if_pos hc] at hv)
    exact ⟨h1, fun ls H locs cells slots a b c d f => lv_icmp_eq hX.1 hX.2.1 hd ht (fun _ => h2 ls H locs cells slots a b c d f) (fun n => absurd hc n)⟩
  · obtain ⟨h1, h2⟩ := kf v σ' (by rwa [jd_if, if_neg hc] at hv)
    exact ⟨h1, fun ls H locs cells slots a b c d f => lv_icmp_eq hX.1 hX.2.1 hd ht (fun n => absurd n hc) (fun _ => h2 ls H locs cells slots a b c d f)⟩
theorem jx_icne (hX : jd_C X own nm cc nL ret) {x y : Int32} {off : Int} (tgt : Nat) {A B : Option (τ × jd_Hp)} (hd : decode cc pc = .ok (.if_icmp .ne off, 3)) (ht : (pc : Int) + off = (tgt : Int)) (kt : jx_S X emb tgt lv st σ (jd_b A K)) (kf : jx_S X emb (pc + 3) lv st σ (jd_b B K)) : jx_S X emb pc lv (.int y :: .int x :: st) σ (jd_b (jd_if (¬ x = y) A B) K) := by
  obtain ⟨p, l, e, s, m, args, below, meth, c, s0, G, d, mc, ms⟩ := X
  intro v σ' hv
  by_cases hc : ¬ x = y
  · obtain ⟨h1, h2⟩ := kt v σ' (by rwa [jd_if, if_pos hc] at hv)
    exact ⟨h1, fun ls H locs cells slots a b c d f => lv_icmp_ne hX.1 hX.2.1 hd ht (fun _ => h2 ls H locs cells slots a b c d f) (fun n => absurd n hc)⟩
  · obtain ⟨h1, h2⟩ := kf v σ' (by rwa [jd_if, if_neg hc] at hv)
    exact ⟨h1, fun ls H locs cells slots a b c d f => lv_icmp_ne hX.1 hX.2.1 hd ht (fun n => absurd n hc) (fun _ => h2 ls H locs cells slots a b c d f)⟩
theorem jx_iclt (hX : jd_C X own nm cc nL ret) {x y : Int32} {off : Int} (tgt : Nat) {A B : Option (τ × jd_Hp)} (hd : decode cc pc = .ok (.if_icmp .lt off, 3)) (ht : (pc : Int) + off = (tgt : Int)) (kt : jx_S X emb tgt lv st σ (jd_b A K)) (kf : jx_S X emb (pc + 3) lv st σ (jd_b B K)) : jx_S X emb pc lv (.int y :: .int x :: st) σ (jd_b (jd_if (x < y) A B) K) := by
  obtain ⟨p, l, e, s, m, args, below, meth, c, s0, G, d, mc, ms⟩ := X
  intro v σ' hv
  by_cases hc : x < y
  · obtain ⟨h1, h2⟩ := kt v σ' (by rwa [jd_if, if_pos hc] at hv)
    exact ⟨h1, fun ls H locs cells slots a b c d f => lv_icmp_lt hX.1 hX.2.1 hd ht (fun _ => h2 ls H locs cells slots a b c d f) (fun n => absurd hc n)⟩
  · obtain ⟨h1, h2⟩ := kf v σ' (by rwa [jd_if, if_neg hc] at hv)
    exact ⟨h1, fun ls H locs cells slots a b c d f => lv_icmp_lt hX.1 hX.2.1 hd ht (fun n => absurd n hc) (fun _ => h2 ls H locs cells slots a b c d f)⟩
theorem jx_icge (hX : jd_C X own nm cc nL ret) {x y : Int32} {off : Int} (tgt : Nat) {A B : Option (τ × jd_Hp)} (hd : decode cc pc = .ok (.if_icmp .ge off, 3)) (ht : (pc : Int) + off = (tgt : Int)) (kt : jx_S X emb tgt lv st σ (jd_b A K)) (kf : jx_S X emb (pc + 3) lv st σ (jd_b B K)) : jx_S X emb pc lv (.int y :: .int x :: st) σ (jd_b (jd_if (y ≤ x) A B) K) := by
  obtain ⟨p, l, e, s, m, args, below, meth, c, s0, G, d, mc, ms⟩ := X
  intro v σ' hv
  by_cases hc : y ≤ x
  · obtain ⟨h1, h2⟩ := kt v σ' (by rwa [jd_if, if_pos hc] at hv)
    exact ⟨h1, fun ls H locs cells slots a b c d f => lv_icmp_ge hX.1 hX.2.1 hd ht (fun _ => h2 ls H locs cells slots a b c d f) (fun n => absurd hc n)⟩
  · obtain ⟨h1, h2⟩ := kf v σ' (by rwa [jd_if, if_neg hc] at hv)
    exact ⟨h1, fun ls H locs cells slots a b c d f => lv_icmp_ge hX.1 hX.2.1 hd ht (fun n => absurd n hc) (fun _ => h2 ls H locs cells slots a b c d f)⟩
theorem jx_icgt (hX : jd_C X own nm cc nL ret) {x y : Int32} {off : Int} (tgt : Nat) {A B : Option (τ × jd_Hp)} (hd : decode cc pc = .ok (.if_icmp .gt off, 3)) (ht : (pc : Int) + off = (tgt : Int)) (kt : jx_S X emb tgt lv st σ (jd_b A K)) (kf : jx_S X emb (pc + 3) lv st σ (jd_b B K)) : jx_S X emb pc lv (.int y :: .int x :: st) σ (jd_b (jd_if (y < x) A B) K) := by
  obtain ⟨p, l, e, s, m, args, below, meth, c, s0, G, d, mc, ms⟩ := X
  intro v σ' hv
  by_cases hc : y < x
  · obtain ⟨h1, h2⟩ := kt v σ' (by rwa [jd_if, if_pos hc] at hv)
    exact ⟨h1, fun ls H locs cells slots a b c d f => lv_icmp_gt hX.1 hX.2.1 hd ht (fun _ => h2 ls H locs cells slots a b c d f) (fun n => absurd hc n)⟩
  · obtain ⟨h1, h2⟩ := kf v σ' (by rwa [jd_if, if_neg hc] at hv)
    exact ⟨h1, fun ls H locs cells slots a b c d f => lv_icmp_gt hX.1 hX.2.1 hd ht (fun n => absurd n hc) (fun _ => h2 ls H locs cells slots a b c d f)⟩
theorem jx_icle (hX : jd_C X own nm cc nL ret) {x y : Int32} {off : Int} (tgt : Nat) {A B : Option (τ × jd_Hp)} (hd : decode cc pc = .ok (.if_icmp .le off, 3)) (ht : (pc : Int) + off = (tgt : Int)) (kt : jx_S X emb tgt lv st σ (jd_b A K)) (kf : jx_S X emb (pc + 3) lv st σ (jd_b B K)) : jx_S X emb pc lv (.int y :: .int x :: st) σ (jd_b (jd_if (x ≤ y) A B) K) := by
  obtain ⟨p, l, e, s, m, args, below, meth, c, s0, G, d, mc, ms⟩ := X
  intro v σ' hv
  by_cases hc : x ≤ y
  · obtain ⟨h1, h2⟩ := kt v σ' (by rwa [jd_if, if_pos hc] at hv)
    exact ⟨h1, fun ls H locs cells slots a b c d f => lv_icmp_le hX.1 hX.2.1 hd ht (fun _ => h2 ls H locs cells slots a b c d f) (fun n => absurd hc n)⟩
  · obtain ⟨h1, h2⟩ := kf v σ' (by rwa [jd_if, if_neg hc] at hv)
    exact ⟨h1, fun ls H locs cells slots a b c d f => lv_icmp_le hX.1 hX.2.1 hd ht (fun n => absurd n hc) (fun _ => h2 ls H locs cells slots a b c d f)⟩
theorem jx_ifnull (hX : jd_C X own nm cc nL ret) {o : Option Nat} {off : Int} (tgt : Nat) {A B : Option (τ × jd_Hp)} (hd : decode cc pc = .ok (.ifnull off, 3)) (ht : (pc : Int) + off = (tgt : Int)) (kt : jx_S X emb tgt lv st σ (jd_b A K)) (kf : jx_S X emb (pc + 3) lv st σ (jd_b B K)) : jx_S X emb pc lv (jd_v (jd_gG X) o :: st) σ (jd_b (jd_if (o = none) A B) K) := by
  obtain ⟨p, l, e, s, m, args, below, meth, c, s0, G, d, mc, ms⟩ := X
  intro v σ' hv
  cases o with
  | none =>
    obtain ⟨h1, h2⟩ := kt v σ' (by simpa [jd_if] using hv)
    exact ⟨h1, fun ls H locs cells slots a b c d f => lv_ifnullN hX.1 hX.2.1 hd ht (h2 ls H locs cells slots a b c d f)⟩
  | some x =>
    obtain ⟨h1, h2⟩ := kf v σ' (by simpa [jd_if] using hv)
    exact ⟨h1, fun ls H locs cells slots a b c d f => lv_ifnull hX.1 hX.2.1 hd (h2 ls H locs cells slots a b c d f)⟩
theorem jx_ifnonnull (hX : jd_C X own nm cc nL ret) {o : Option Nat} {off : Int} (tgt : Nat) {A B : Option (τ × jd_Hp)} (hd : decode cc pc = .ok (.ifnonnull off, 3)) (ht : (pc : Int) + off = (tgt : Int)) (kt : jx_S X emb tgt lv st σ (jd_b A K)) (kf : jx_S X emb (pc + 3) lv st σ (jd_b B K)) : jx_S X emb pc lv (jd_v (jd_gG X) o :: st) σ (jd_b (jd_if (¬ o = none) A B) K) := by
  obtain ⟨p, l, e, s, m, args, below, meth, c, s0, G, d, mc, ms⟩ := X
  intro v σ' hv
  cases o with
  | none =>
    obtain ⟨h1, h2⟩ := kf v σ' (by simpa [jd_if] using hv)
    exact ⟨h1, fun ls H locs cells slots a b c d f => lv_ifnonnullN hX.1 hX.2.1 hd (h2 ls H locs cells slots a b c d f)⟩
  | some x =>
    obtain ⟨h1, h2⟩ := kt v σ' (by simpa [jd_if] using hv)
    exact ⟨h1, fun ls H locs cells slots a b c d f => lv_ifnonnull hX.1 hX.2.1 hd ht (h2 ls H locs cells slots a b c d f)⟩
theorem jx_tsw (hX : jd_C X own nm cc nL ret) {x : Int32} {dflt lo hi : Int} {offs : Array Int} {len : Nat} (tds : List Nat) (td : Nat) {As : List (Option (τ × jd_Hp))} {B : Option (τ × jd_Hp)} (hd : decode cc pc = .ok (.tableswitch dflt lo hi offs, len)) (ht : (pc : Int) + dflt = (td : Int)) (hn : lo + As.length = hi + 1) (hts : offs.toList = tds.map (fun t : Nat => (t : Int) - (pc : Int))) (hl : tds.length = As.length)
    (kt : ∀ (i t : Nat) (A : Option (τ × jd_Hp)), tds[i]? = some t → As[i]? = some A → jx_S X emb t lv st σ (jd_b A K)) (kf : jx_S X emb td lv st σ (jd_b B K)) : jx_S X emb pc lv (.int x :: st) σ (jd_b (jd_sw x lo As B) K) := by
  obtain ⟨p, l, e, s, m, args, below, meth, c, s0, G, d, mc, ms⟩ := X
  intro v σ' hv
  by_cases h1 : x.toInt < lo
  · obtain ⟨k1, k2⟩ := kf v σ' (by rwa [jd_sw, if_pos h1] at hv)
    exact ⟨k1, fun ls H locs cells slots a b c d f => lv_tableOut hX.1 hX.2.1 hd (Or.inl h1) ht (k2 ls H locs cells slots a b c d f)⟩
  · rw [jd_sw, if_neg h1] at hv
    by_cases h2 : hi < x.toInt
    · have hge : As.length ≤ (x.toInt - lo).toNat := by omega
      rw [List.getD_eq_getElem?_getD, List.getElem?_eq_none hge] at hv
      obtain ⟨k1, k2⟩ := kf v σ' hv
      exact ⟨k1, fun ls H locs cells slots a b c d f => lv_tableOut hX.1 hX.2.1 hd (Or.inr h2) ht (k2 ls H locs cells slots a b c d f)⟩
    · have hlt : (x.toInt - lo).toNat < As.length := by omega
      have hlt' : (x.toInt - lo).toNat < tds.length := by omega
      have eA : As[(x.toInt - lo).toNat]? = some As[(x.toInt - lo).toNat] := List.getElem?_eq_getElem hlt
      have eT : tds[(x.toInt - lo).toNat]? = some tds[(x.toInt - lo).toNat] := List.getElem?_eq_getElem hlt'
      rw [List.getD_eq_getElem?_getD, eA] at hv
      obtain ⟨k1, k2⟩ := kt _ _ _ eT eA v σ' hv
      have ho : offs[(x.toInt - lo).toNat]? = some ((tds[(x.toInt - lo).toNat] : Int) - (pc : Int)) := by
        rw [← Array.getElem?_toList, hts, List.getElem?_map, eT]
        rfl
      exact ⟨k1, fun ls H locs cells slots a b c d f => lv_tableIn hX.1 hX.2.1 hd h1 h2 ho (by omega) (k2 ls H locs cells slots a b c d f)⟩
theorem jx_ild0 (hX : jd_C X own nm cc nL ret) {t : List (Option Value)} {x : Int32} (hd : decode cc pc = .ok (.iload_n 0, 1)) (k : jx_S X emb (pc + 1) (some (.int x) :: t) (.int x :: st) σ cm) : jx_S X emb pc (some (.int x) :: t) st σ cm := by
  obtain ⟨p, l, e, s, m, args, below, meth, c, s0, G, d, mc, ms⟩ := X
  exact jxd_pure (fun ls H locs cells slots Q h w => lv_iload_n hX.1 hX.2.1 hd rfl (jd_at h (i := 0) rfl) w) k
theorem jx_lld0 (hX : jd_C X own nm cc nL ret) {t : List (Option Value)} {x : Int64} (hd : decode cc pc = .ok (.lload_n 0, 1)) (k : jx_S X emb (pc + 1) (some (.long x) :: t) (.long x :: st) σ cm) : jx_S X emb pc (some (.long x) :: t) st σ cm := by
  obtain ⟨p, l, e, s, m, args, below, meth, c, s0, G, d, mc, ms⟩ := X
  exact jxd_pure (fun ls H locs cells slots Q h w => lv_lload_n hX.1 hX.2.1 hd rfl (jd_at h (i := 0) rfl) w) k
theorem jx_ald0 (hX : jd_C X own nm cc nL ret) {t : List (Option Value)} {o : Option Nat} (hd : decode cc pc = .ok (.aload_n 0, 1)) (k : jx_S X emb (pc + 1) (some (jd_v (jd_gG X) o) :: t) (jd_v (jd_gG X) o :: st) σ cm) : jx_S X emb pc (some (jd_v (jd_gG X) o) :: t) st σ cm := by
  obtain ⟨p, l, e, s, m, args, below, meth, c, s0, G, d, mc, ms⟩ := X
  cases o with
  | none => exact jxd_pure (fun ls H locs cells slots Q h w => lv_aload_nN hX.1 hX.2.1 hd rfl (jd_at h (i := 0) rfl) w) k
  | some x => exact jxd_pure (fun ls H locs cells slots Q h w => lv_aload_n hX.1 hX.2.1 hd rfl (jd_at h (i := 0) rfl) w) k
theorem jx_ist0 (hX : jd_C X own nm cc nL ret) {b : Option Value} {t : List (Option Value)} {x : Int32} (hd : decode cc pc = .ok (.istore_n 0, 1)) (k : jx_S X emb (pc + 1) (some (.int x) :: t) st σ cm) : jx_S X emb pc (b :: t) (.int x :: st) σ cm := by
  obtain ⟨p, l, e, s, m, args, below, meth, c, s0, G, d, mc, ms⟩ := X
  exact jxd_loc (fun ls H locs cells slots Q h w => lv_istore_n hX.1 hX.2.1 hd rfl h.2 (by have := h.1; simp at this; omega) rfl (fun ls' h' => w ls' (jd_st1 (i := 0) h.1 h' (by have := h.1; simp at this; omega) jd_hc0))) k
theorem jx_ast0 (hX : jd_C X own nm cc nL ret) {b : Option Value} {t : List (Option Value)} {o : Option Nat} (hd : decode cc pc = .ok (.astore_n 0, 1)) (k : jx_S X emb (pc + 1) (some (jd_v (jd_gG X) o) :: t) st σ cm) : jx_S X emb pc (b :: t) (jd_v (jd_gG X) o :: st) σ cm := by
  obtain ⟨p, l, e, s, m, args, below, meth, c, s0, G, d, mc, ms⟩ := X
  cases o with
  | none => exact jxd_loc (fun ls H locs cells slots Q h w => lv_astore_nN hX.1 hX.2.1 hd rfl h.2 (by have := h.1; simp at this; omega) rfl (fun ls' h' => w ls' (jd_st1 (i := 0) h.1 h' (by have := h.1; simp at this; omega) jd_hc0))) k
  | some x => exact jxd_loc (fun ls H locs cells slots Q h w => lv_astore_n hX.1 hX.2.1 hd rfl h.2 (by have := h.1; simp at this; omega) rfl (fun ls' h' => w ls' (jd_st1 (i := 0) h.1 h' (by have := h.1; simp at this; omega) jd_hc0))) k
theorem jx_lst0 (hX : jd_C X own nm cc nL ret) {b b2 : Option Value} {t : List (Option Value)} {x : Int64} (hd : decode cc pc = .ok (.lstore_n 0, 1)) (k : jx_S X emb (pc + 1) (some (.long x) :: none :: t) st σ cm) : jx_S X emb pc (b :: b2 :: t) (.long x :: st) σ cm := by
  obtain ⟨p, l, e, s, m, args, below, meth, c, s0, G, d, mc, ms⟩ := X
  exact jxd_loc (fun ls H locs cells slots Q h w => lv_lstore_n hX.1 hX.2.1 hd rfl h.2 (by have := h.1; simp at this; omega) rfl (fun ls' h' => w ls' (jd_st2 (i := 0) h.1 h' (by have := h.1; simp at this; omega) jd_hc0))) k
theorem jx_inc0 (hX : jd_C X own nm cc nL ret) {t : List (Option Value)} {x : Int32} {n : Int} (c : Int32) (hcc : Int32.ofInt n = c) (hd : decode cc pc = .ok (.iinc 0 n, 3)) (k : jx_S X emb (pc + 3) (some (.int (x + c)) :: t) st σ cm) : jx_S X emb pc (some (.int x) :: t) st σ cm := by
  obtain ⟨p, l, e, s, m, args, below, meth, c, s0, G, d, mc, ms⟩ := X
  refine jxd_loc (fun ls H locs cells slots Q h w => ?_) k
  obtain ⟨k0, hk0⟩ := List.getElem?_of_mem (jd_al_mem (lv := some (.int x) :: t) (j := 0) (w := .int x) |>.mpr rfl)
  exact lv_iinc hX.1 hX.2.1 hd h.2 hk0 (by rw [hcc]) (by have := h.1; simp at this; omega) rfl (fun ls' h' => w ls' (jd_st1 (i := 0) h.1 h' (by have := h.1; simp at this; omega) jd_hc0))
theorem jx_ild1 (hX : jd_C X own nm cc nL ret) {a0 : Option Value} {t : List (Option Value)} {x : Int32} (hd : decode cc pc = .ok (.iload_n 1, 1)) (k : jx_S X emb (pc + 1) (a0 :: some (.int x) :: t) (.int x :: st) σ cm) : jx_S X emb pc (a0 :: some (.int x) :: t) st σ cm := by
  obtain ⟨p, l, e, s, m, args, below, meth, c, s0, G, d, mc, ms⟩ := X
  exact jxd_pure (fun ls H locs cells slots Q h w => lv_iload_n hX.1 hX.2.1 hd rfl (jd_at h (i := 1) rfl) w) k
theorem jx_lld1 (hX : jd_C X own nm cc nL ret) {a0 : Option Value} {t : List (Option Value)} {x : Int64} (hd : decode cc pc = .ok (.lload_n 1, 1)) (k : jx_S X emb (pc + 1) (a0 :: some (.long x) :: t) (.long x :: st) σ cm) : jx_S X emb pc (a0 :: some (.long x) :: t) st σ cm := by
  obtain ⟨p, l, e, s, m, args, below, meth, c, s0, G, d, mc, ms⟩ := X
  exact jxd_pure (fun ls H locs cells slots Q h w => lv_lload_n hX.1 hX.2.1 hd rfl (jd_at h (i := 1) rfl) w) k
theorem jx_ald1 (hX : jd_C X own nm cc nL ret) {a0 : Option Value} {t : List (Option Value)} {o : Option Nat} (hd : decode cc pc = .ok (.aload_n 1, 1)) (k : jx_S X emb (pc + 1) (a0 :: some (jd_v (jd_gG X) o) :: t) (jd_v (jd_gG X) o :: st) σ cm) : jx_S X emb pc (a0 :: some (jd_v (jd_gG X) o) :: t) st σ cm := by
  obtain ⟨p, l, e, s, m, args, below, meth, c, s0, G, d, mc, ms⟩ := X
  cases o with
  | none => exact jxd_pure (fun ls H locs cells slots Q h w => lv_aload_nN hX.1 hX.2.1 hd rfl (jd_at h (i := 1) rfl) w) k
  | some x => exact jxd_pure (fun ls H locs cells slots Q h w => lv_aload_n hX.1 hX.2.1 hd rfl (jd_at h (i := 1) rfl) w) k
theorem jx_ist1 (hX : jd_C X own nm cc nL ret) {a0 : Option Value} {b : Option Value} {t : List (Option Value)} {x : Int32} (hc : jd_nl a0 = true) (hd : decode cc pc = .ok (.istore_n 1, 1)) (k : jx_S X emb (pc + 1) (a0 :: some (.int x) :: t) st σ cm) : jx_S X emb pc (a0 :: b :: t) (.int x :: st) σ cm := by
  obtain ⟨p, l, e, s, m, args, below, meth, c, s0, G, d, mc, ms⟩ := X
  exact jxd_loc (fun ls H locs cells slots Q h w => lv_istore_n hX.1 hX.2.1 hd rfl h.2 (by have := h.1; simp at this; omega) rfl (fun ls' h' => w ls' (jd_st1 (i := 1) h.1 h' (by have := h.1; simp at this; omega) (jd_hc (i := 0) rfl hc)))) k
theorem jx_ast1 (hX : jd_C X own nm cc nL ret) {a0 : Option Value} {b : Option Value} {t : List (Option Value)} {o : Option Nat} (hc : jd_nl a0 = true) (hd : decode cc pc = .ok (.astore_n 1, 1)) (k : jx_S X emb (pc + 1) (a0 :: some (jd_v (jd_gG X) o) :: t) st σ cm) : jx_S X emb pc (a0 :: b :: t) (jd_v (jd_gG X) o :: st) σ cm := by
  obtain ⟨p, l, e, s, m, args, below, meth, c, s0, G, d, mc, ms⟩ := X
  cases o with
  | none => exact jxd_loc (fun ls H locs cells slots Q h w => lv_astore_nN hX.1 hX.2.1 hd rfl h.2 (by have := h.1; simp at this; omega) rfl (fun ls' h' => w ls' (jd_st1 (i := 1) h.1 h' (by have := h.1; simp at this; omega) (jd_hc (i := 0) rfl hc)))) k
  | some x => exact jxd_loc (fun ls H locs cells slots Q h w => lv_astore_n hX.1 hX.2.1 hd rfl h.2 (by have := h.1; simp at this; omega) rfl (fun ls' h' => w ls' (jd_st1 (i := 1) h.1 h' (by have := h.1; simp at this; omega) (jd_hc (i := 0) rfl hc)))) k
theorem jx_lst1 (hX : jd_C X own nm cc nL ret) {a0 : Option Value} {b b2 : Option Value} {t : List (Option Value)} {x : Int64} (hc : jd_nl a0 = true) (hd : decode cc pc = .ok (.lstore_n 1, 1)) (k : jx_S X emb (pc + 1) (a0 :: some (.long x) :: none :: t) st σ cm) : jx_S X emb pc (a0 :: b :: b2 :: t) (.long x :: st) σ cm := by
  obtain ⟨p, l, e, s, m, args, below, meth, c, s0, G, d, mc, ms⟩ := X
  exact jxd_loc (fun ls H locs cells slots Q h w => lv_lstore_n hX.1 hX.2.1 hd rfl h.2 (by have := h.1; simp at this; omega) rfl (fun ls' h' => w ls' (jd_st2 (i := 1) h.1 h' (by have := h.1; simp at this; omega) (jd_hc (i := 0) rfl hc)))) k
theorem jx_inc1 (hX : jd_C X own nm cc nL ret) {a0 : Option Value} {t : List (Option Value)} {x : Int32} {n : Int} (c : Int32) (hcc : Int32.ofInt n = c) (hc : jd_nl a0 = true) (hd : decode cc pc = .ok (.iinc 1 n, 3)) (k : jx_S X emb (pc + 3) (a0 :: some (.int (x + c)) :: t) st σ cm) : jx_S X emb pc (a0 :: some (.int x) :: t) st σ cm := by
  obtain ⟨p, l, e, s, m, args, below, meth, c, s0, G, d, mc, ms⟩ := X
  refine jxd_loc (fun ls H locs cells slots Q h w => ?_) k
  obtain ⟨k0, hk0⟩ := List.getElem?_of_mem (jd_al_mem (lv := a0 :: some (.int x) :: t) (j := 1) (w := .int x) |>.mpr rfl)
  exact lv_iinc hX.1 hX.2.1 hd h.2 hk0 (by rw [hcc]) (by have := h.1; simp at this; omega) rfl (fun ls' h' => w ls' (jd_st1 (i := 1) h.1 h' (by have := h.1; simp at this; omega) (jd_hc (i := 0) rfl hc)))
theorem jx_ild2 (hX : jd_C X own nm cc nL ret) {a0 a1 : Option Value} {t : List (Option Value)} {x : Int32} (hd : decode cc pc = .ok (.iload_n 2, 1)) (k : jx_S X emb (pc + 1) (a0 :: a1 :: some (.int x) :: t) (.int x :: st) σ cm) : jx_S X emb pc (a0 :: a1 :: some (.int x) :: t) st σ cm := by
  obtain ⟨p, l, e, s, m, args, below, meth, c, s0, G, d, mc, ms⟩ := X
  exact jxd_pure (fun ls H locs cells slots Q h w => lv_iload_n hX.1 hX.2.1 hd rfl (jd_at h (i := 2) rfl) w) k
theorem jx_lld2 (hX : jd_C X own nm cc nL ret) {a0 a1 : Option Value} {t : List (Option Value)} {x : Int64} (hd : decode cc pc = .ok (.lload_n 2, 1)) (k : jx_S X emb (pc + 1) (a0 :: a1 :: some (.long x) :: t) (.long x :: st) σ cm) : jx_S X emb pc (a0 :: a1 :: some (.long x) :: t) st σ cm := by
  obtain ⟨p, l, e, s, m, args, below, meth, c, s0, G, d, mc, ms⟩ := X
  exact jxd_pure (fun ls H locs cells slots Q h w => lv_lload_n hX.1 hX.2.1 hd rfl (jd_at h (i := 2) rfl) w) k
theorem jx_ald2 (hX : jd_C X own nm cc nL ret) {a0 a1 : Option Value} {t : List (Option Value)} {o : Option Nat} (hd : decode cc pc = .ok (.aload_n 2, 1)) (k : jx_S X emb (pc + 1) (a0 :: a1 :: some (jd_v (jd_gG X) o) :: t) (jd_v (jd_gG X) o :: st) σ cm) : jx_S X emb pc (a0 :: a1 :: some (jd_v (jd_gG X) o) :: t) st σ cm := by
  obtain ⟨p, l, e, s, m, args, below, meth, c, s0, G, d, mc, ms⟩ := X
  cases o with
  | none => exact jxd_pure (fun ls H locs cells slots Q h w => lv_aload_nN hX.1 hX.2.1 hd rfl (jd_at h (i := 2) rfl) w) k
  | some x => exact jxd_pure (fun ls H locs cells slots Q h w => lv_aload_n hX.1 hX.2.1 hd rfl (jd_at h (i := 2) rfl) w) k
theorem jx_ist2 (hX : jd_C X own nm cc nL ret) {a0 a1 : Option Value} {b : Option Value} {t : List (Option Value)} {x : Int32} (hc : jd_nl a1 = true) (hd : decode cc pc = .ok (.istore_n 2, 1)) (k : jx_S X emb (pc + 1) (a0 :: a1 :: some (.int x) :: t) st σ cm) : jx_S X emb pc (a0 :: a1 :: b :: t) (.int x :: st) σ cm := by
  obtain ⟨p, l, e, s, m, args, below, meth, c, s0, G, d, mc, ms⟩ := X
  exact jxd_loc (fun ls H locs cells slots Q h w => lv_istore_n hX.1 hX.2.1 hd rfl h.2 (by have := h.1; simp at this; omega) rfl (fun ls' h' => w ls' (jd_st1 (i := 2) h.1 h' (by have := h.1; simp at this; omega) (jd_hc (i := 1) rfl hc)))) k
theorem jx_ast2 (hX : jd_C X own nm cc nL ret) {a0 a1 : Option Value} {b : Option Value} {t : List (Option Value)} {o : Option Nat} (hc : jd_nl a1 = true) (hd : decode cc pc = .ok (.astore_n 2, 1)) (k : jx_S X emb (pc + 1) (a0 :: a1 :: some (jd_v (jd_gG X) o) :: t) st σ cm) : jx_S X emb pc (a0 :: a1 :: b :: t) (jd_v (jd_gG X) o :: st) σ cm := by
  obtain ⟨p, l, e, s, m, args, below, meth, c, s0, G, d, mc, ms⟩ := X
  cases o with
  | none => exact jxd_loc (fun ls H locs cells slots Q h w => lv_astore_nN hX.1 hX.2.1 hd rfl h.2 (by have := h.1; simp at this; omega) rfl (fun ls' h' => w ls' (jd_st1 (i := 2) h.1 h' (by have := h.1; simp at this; omega) (jd_hc (i := 1) rfl hc)))) k
  | some x => exact jxd_loc (fun ls H locs cells slots Q h w => lv_astore_n hX.1 hX.2.1 hd rfl h.2 (by have := h.1; simp at this; omega) rfl (fun ls' h' => w ls' (jd_st1 (i := 2) h.1 h' (by have := h.1; simp at this; omega) (jd_hc (i := 1) rfl hc)))) k
theorem jx_lst2 (hX : jd_C X own nm cc nL ret) {a0 a1 : Option Value} {b b2 : Option Value} {t : List (Option Value)} {x : Int64} (hc : jd_nl a1 = true) (hd : decode cc pc = .ok (.lstore_n 2, 1)) (k : jx_S X emb (pc + 1) (a0 :: a1 :: some (.long x) :: none :: t) st σ cm) : jx_S X emb pc (a0 :: a1 :: b :: b2 :: t) (.long x :: st) σ cm := by
  obtain ⟨p, l, e, s, m, args, below, meth, c, s0, G, d, mc, ms⟩ := X
  exact jxd_loc (fun ls H locs cells slots Q h w => lv_lstore_n hX.1 hX.2.1 hd rfl h.2 (by have := h.1; simp at this; omega) rfl (fun ls' h' => w ls' (jd_st2 (i := 2) h.1 h' (by have := h.1; simp at this; omega) (jd_hc (i := 1) rfl hc)))) k
theorem jx_inc2 (hX : jd_C X own nm cc nL ret) {a0 a1 : Option Value} {t : List (Option Value)} {x : Int32} {n : Int} (c : Int32) (hcc : Int32.ofInt n = c) (hc : jd_nl a1 = true) (hd : decode cc pc = .ok (.iinc 2 n, 3)) (k : jx_S X emb (pc + 3) (a0 :: a1 :: some (.int (x + c)) :: t) st σ cm) : jx_S X emb pc (a0 :: a1 :: some (.int x) :: t) st σ cm := by
  obtain ⟨p, l, e, s, m, args, below, meth, c, s0, G, d, mc, ms⟩ := X
  refine jxd_loc (fun ls H locs cells slots Q h w => ?_) k
  obtain ⟨k0, hk0⟩ := List.getElem?_of_mem (jd_al_mem (lv := a0 :: a1 :: some (.int x) :: t) (j := 2) (w := .int x) |>.mpr rfl)
  exact lv_iinc hX.1 hX.2.1 hd h.2 hk0 (by rw [hcc]) (by have := h.1; simp at this; omega) rfl (fun ls' h' => w ls' (jd_st1 (i := 2) h.1 h' (by have := h.1; simp at this; omega) (jd_hc (i := 1) rfl hc)))
theorem jx_ild3 (hX : jd_C X own nm cc nL ret) {a0 a1 a2 : Option Value} {t : List (Option Value)} {x : Int32} (hd : decode cc pc = .ok (.iload_n 3, 1)) (k : jx_S X emb (pc + 1) (a0 :: a1 :: a2 :: some (.int x) :: t) (.int x :: st) σ cm) : jx_S X emb pc (a0 :: a1 :: a2 :: some (.int x) :: t) st σ cm := by
  obtain ⟨p, l, e, s, m, args, below, meth, c, s0, G, d, mc, ms⟩ := X
  exact jxd_pure (fun ls H locs cells slots Q h w => lv_iload_n hX.1 hX.2.1 hd rfl (jd_at h (i := 3) rfl) w) k
theorem jx_lld3 (hX : jd_C X own nm cc nL ret) {a0 a1 a2 : Option Value} {t : List (Option Value)} {x : Int64} (hd : decode cc pc = .ok (.lload_n 3, 1)) (k : jx_S X emb (pc + 1) (a0 :: a1 :: a2 :: some (.long x) :: t) (.long x :: st) σ cm) : jx_S X emb pc (a0 :: a1 :: a2 :: some (.long x) :: t) st σ cm := by
  obtain ⟨p, l, e, s, m, args, below, meth, c, s0, G, d, mc, ms⟩ := X
  exact jxd_pure (fun ls H locs cells slots Q h w => lv_lload_n hX.1 hX.2.1 hd rfl (jd_at h (i := 3) rfl) w) k
theorem jx_ald3 (hX : jd_C X own nm cc nL ret) {a0 a1 a2 : Option Value} {t : List (Option Value)} {o : Option Nat} (hd : decode cc pc = .ok (.aload_n 3, 1)) (k : jx_S X emb (pc + 1) (a0 :: a1 :: a2 :: some (jd_v (jd_gG X) o) :: t) (jd_v (jd_gG X) o :: st) σ cm) : jx_S X emb pc (a0 :: a1 :: a2 :: some (jd_v (jd_gG X) o) :: t) st σ cm := by
  obtain ⟨p, l, e, s, m, args, below, meth, c, s0, G, d, mc, ms⟩ := X
  cases o with
  | none => exact jxd_pure (fun ls H locs cells slots Q h w => lv_aload_nN hX.1 hX.2.1 hd rfl (jd_at h (i := 3) rfl) w) k
  | some x => exact jxd_pure (fun ls H locs cells slots Q h w => lv_aload_n hX.1 hX.2.1 hd rfl (jd_at h (i := 3) rfl) w) k
theorem jx_ist3 (hX : jd_C X own nm cc nL ret) {a0 a1 a2 : Option Value} {b : Option Value} {t : List (Option Value)} {x : Int32} (hc : jd_nl a2 = true) (hd : decode cc pc = .ok (.istore_n 3, 1)) (k : jx_S X emb (pc + 1) (a0 :: a1 :: a2 :: some (.int x) :: t) st σ cm) : jx_S X emb pc (a0 :: a1 :: a2 :: b :: t) (.int x :: st) σ cm := by
  obtain ⟨p, l, e, s, m, args, below, meth, c, s0, G, d, mc, ms⟩ := X
  exact jxd_loc (fun ls H locs cells slots Q h w => lv_istore_n hX.1 hX.2.1 hd rfl h.2 (by have := h.1; simp at this; omega) rfl (fun ls' h' => w ls' (jd_st1 (i := 3) h.1 h' (by have := h.1; simp at this; omega) (jd_hc (i := 2) rfl hc)))) k
theorem jx_ast3 (hX : jd_C X own nm cc nL ret) {a0 a1 a2 : Option Value} {b : Option Value} {t : List (Option Value)} {o : Option Nat} (hc : jd_nl a2 = true) (hd : decode cc pc = .ok (.astore_n 3, 1)) (k : jx_S X emb (pc + 1) (a0 :: a1 :: a2 :: some (jd_v (jd_gG X) o) :: t) st σ cm) : jx_S X emb pc (a0 :: a1 :: a2 :: b :: t) (jd_v (jd_gG X) o :: st) σ cm := by
  obtain ⟨p, l, e, s, m, args, below, meth, c, s0, G, d, mc, ms⟩ := X
  cases o with
  | none => exact jxd_loc (fun ls H locs cells slots Q h w => lv_astore_nN hX.1 hX.2.1 hd rfl h.2 (by have := h.1; simp at this; omega) rfl (fun ls' h' => w ls' (jd_st1 (i := 3) h.1 h' (by have := h.1; simp at this; omega) (jd_hc (i := 2) rfl hc)))) k
  | some x => exact jxd_loc (fun ls H locs cells slots Q h w => lv_astore_n hX.1 hX.2.1 hd rfl h.2 (by have := h.1; simp at this; omega) rfl (fun ls' h' => w ls' (jd_st1 (i := 3) h.1 h' (by have := h.1; simp at this; omega) (jd_hc (i := 2) rfl hc)))) k
theorem jx_lst3 (hX : jd_C X own nm cc nL ret) {a0 a1 a2 : Option Value} {b b2 : Option Value} {t : List (Option Value)} {x : Int64} (hc : jd_nl a2 = true) (hd : decode cc pc = .ok (.lstore_n 3, 1)) (k : jx_S X emb (pc + 1) (a0 :: a1 :: a2 :: some (.long x) :: none :: t) st σ cm) : jx_S X emb pc (a0 :: a1 :: a2 :: b :: b2 :: t) (.long x :: st) σ cm := by
  obtain ⟨p, l, e, s, m, args, below, meth, c, s0, G, d, mc, ms⟩ := X
  exact jxd_loc (fun ls H locs cells slots Q h w => lv_lstore_n hX.1 hX.2.1 hd rfl h.2 (by have := h.1; simp at this; omega) rfl (fun ls' h' => w ls' (jd_st2 (i := 3) h.1 h' (by have := h.1; simp at this; omega) (jd_hc (i := 2) rfl hc)))) k
theorem jx_inc3 (hX : jd_C X own nm cc nL ret) {a0 a1 a2 : Option Value} {t : List (Option Value)} {x : Int32} {n : Int} (c : Int32) (hcc : Int32.ofInt n = c) (hc : jd_nl a2 = true) (hd : decode cc pc = .ok (.iinc 3 n, 3)) (k : jx_S X emb (pc + 3) (a0 :: a1 :: a2 :: some (.int (x + c)) :: t) st σ cm) : jx_S X emb pc (a0 :: a1 :: a2 :: some (.int x) :: t) st σ cm := by
  obtain ⟨p, l, e, s, m, args, below, meth, c, s0, G, d, mc, ms⟩ := X
  refine jxd_loc (fun ls H locs cells slots Q h w => ?_) k
  obtain ⟨k0, hk0⟩ := List.getElem?_of_mem (jd_al_mem (lv := a0 :: a1 :: a2 :: some (.int x) :: t) (j := 3) (w := .int x) |>.mpr rfl)
  exact lv_iinc hX.1 hX.2.1 hd h.2 hk0 (by rw [hcc]) (by have := h.1; simp at this; omega) rfl (fun ls' h' => w ls' (jd_st1 (i := 3) h.1 h' (by have := h.1; simp at this; omega) (jd_hc (i := 2) rfl hc)))
theorem jx_ild4 (hX : jd_C X own nm cc nL ret) {a0 a1 a2 a3 : Option Value} {t : List (Option Value)} {x : Int32} (hd : decode cc pc = .ok (.iload 4, 2)) (k : jx_S X emb (pc + 2) (a0 :: a1 :: a2 :: a3 :: some (.int x) :: t) (.int x :: st) σ cm) : jx_S X emb pc (a0 :: a1 :: a2 :: a3 :: some (.int x) :: t) st σ cm := by
  obtain ⟨p, l, e, s, m, args, below, meth, c, s0, G, d, mc, ms⟩ := X
  exact jxd_pure (fun ls H locs cells slots Q h w => lv_iload hX.1 hX.2.1 hd (jd_at h (i := 4) rfl) w) k
theorem jx_lld4 (hX : jd_C X own nm cc nL ret) {a0 a1 a2 a3 : Option Value} {t : List (Option Value)} {x : Int64} (hd : decode cc pc = .ok (.lload 4, 2)) (k : jx_S X emb (pc + 2) (a0 :: a1 :: a2 :: a3 :: some (.long x) :: t) (.long x :: st) σ cm) : jx_S X emb pc (a0 :: a1 :: a2 :: a3 :: some (.long x) :: t) st σ cm := by
  obtain ⟨p, l, e, s, m, args, below, meth, c, s0, G, d, mc, ms⟩ := X
  exact jxd_pure (fun ls H locs cells slots Q h w => lv_lload hX.1 hX.2.1 hd (jd_at h (i := 4) rfl) w) k
theorem jx_ald4 (hX : jd_C X own nm cc nL ret) {a0 a1 a2 a3 : Option Value} {t : List (Option Value)} {o : Option Nat} (hd : decode cc pc = .ok (.aload 4, 2)) (k : jx_S X emb (pc + 2) (a0 :: a1 :: a2 :: a3 :: some (jd_v (jd_gG X) o) :: t) (jd_v (jd_gG X) o :: st) σ cm) : jx_S X emb pc (a0 :: a1 :: a2 :: a3 :: some (jd_v (jd_gG X) o) :: t) st σ cm := by
  obtain ⟨p, l, e, s, m, args, below, meth, c, s0, G, d, mc, ms⟩ := X
  cases o with
  | none => exact jxd_pure (fun ls H locs cells slots Q h w => lv_aloadN hX.1 hX.2.1 hd (jd_at h (i := 4) rfl) w) k
  | some x => exact jxd_pure (fun ls H locs cells slots Q h w => lv_aload hX.1 hX.2.1 hd (jd_at h (i := 4) rfl) w) k
theorem jx_ist4 (hX : jd_C X own nm cc nL ret) {a0 a1 a2 a3 : Option Value} {b : Option Value} {t : List (Option Value)} {x : Int32} (hc : jd_nl a3 = true) (hd : decode cc pc = .ok (.istore 4, 2)) (k : jx_S X emb (pc + 2) (a0 :: a1 :: a2 :: a3 :: some (.int x) :: t) st σ cm) : jx_S X emb pc (a0 :: a1 :: a2 :: a3 :: b :: t) (.int x :: st) σ cm := by
  obtain ⟨p, l, e, s, m, args, below, meth, c, s0, G, d, mc, ms⟩ := X
  exact jxd_loc (fun ls H locs cells slots Q h w => lv_istore hX.1 hX.2.1 hd h.2 (by have := h.1; simp at this; omega) rfl (fun ls' h' => w ls' (jd_st1 (i := 4) h.1 h' (by have := h.1; simp at this; omega) (jd_hc (i := 3) rfl hc)))) k
theorem jx_ast4 (hX : jd_C X own nm cc nL ret) {a0 a1 a2 a3 : Option Value} {b : Option Value} {t : List (Option Value)} {o : Option Nat} (hc : jd_nl a3 = true) (hd : decode cc pc = .ok (.astore 4, 2)) (k : jx_S X emb (pc + 2) (a0 :: a1 :: a2 :: a3 :: some (jd_v (jd_gG X) o) :: t) st σ cm) : jx_S X emb pc (a0 :: a1 :: a2 :: a3 :: b :: t) (jd_v (jd_gG X) o :: st) σ cm := by
  obtain ⟨p, l, e, s, m, args, below, meth, c, s0, G, d, mc, ms⟩ := X
  cases o with
  | none => exact jxd_loc (fun ls H locs cells slots Q h w => lv_astoreN hX.1 hX.2.1 hd h.2 (by have := h.1; simp at this; omega) rfl (fun ls' h' => w ls' (jd_st1 (i := 4) h.1 h' (by have := h.1; simp at this; omega) (jd_hc (i := 3) rfl hc)))) k
  | some x => exact jxd_loc (fun ls H locs cells slots Q h w => lv_astore hX.1 hX.2.1 hd h.2 (by have := h.1; simp at this; omega) rfl (fun ls' h' => w ls' (jd_st1 (i := 4) h.1 h' (by have := h.1; simp at this; omega) (jd_hc (i := 3) rfl hc)))) k
theorem jx_lst4 (hX : jd_C X own nm cc nL ret) {a0 a1 a2 a3 : Option Value} {b b2 : Option Value} {t : List (Option Value)} {x : Int64} (hc : jd_nl a3 = true) (hd : decode cc pc = .ok (.lstore 4, 2)) (k : jx_S X emb (pc + 2) (a0 :: a1 :: a2 :: a3 :: some (.long x) :: none :: t) st σ cm) : jx_S X emb pc (a0 :: a1 :: a2 :: a3 :: b :: b2 :: t) (.long x :: st) σ cm := by
  obtain ⟨p, l, e, s, m, args, below, meth, c, s0, G, d, mc, ms⟩ := X
  exact jxd_loc (fun ls H locs cells slots Q h w => lv_lstore hX.1 hX.2.1 hd h.2 (by have := h.1; simp at this; omega) rfl (fun ls' h' => w ls' (jd_st2 (i := 4) h.1 h' (by have := h.1; simp at this; omega) (jd_hc (i := 3) rfl hc)))) k
theorem jx_inc4 (hX : jd_C X own nm cc nL ret) {a0 a1 a2 a3 : Option Value} {t : List (Option Value)} {x : Int32} {n : Int} (c : Int32) (hcc : Int32.ofInt n = c) (hc : jd_nl a3 = true) (hd : decode cc pc = .ok (.iinc 4 n, 3)) (k : jx_S X emb (pc + 3) (a0 :: a1 :: a2 :: a3 :: some (.int (x + c)) :: t) st σ cm) : jx_S X emb pc (a0 :: a1 :: a2 :: a3 :: some (.int x) :: t) st σ cm := by
  obtain ⟨p, l, e, s, m, args, below, meth, c, s0, G, d, mc, ms⟩ := X
  refine jxd_loc (fun ls H locs cells slots Q h w => ?_) k
  obtain ⟨k0, hk0⟩ := List.getElem?_of_mem (jd_al_mem (lv := a0 :: a1 :: a2 :: a3 :: some (.int x) :: t) (j := 4) (w := .int x) |>.mpr rfl)
  exact lv_iinc hX.1 hX.2.1 hd h.2 hk0 (by rw [hcc]) (by have := h.1; simp at this; omega) rfl (fun ls' h' => w ls' (jd_st1 (i := 4) h.1 h' (by have := h.1; simp at this; omega) (jd_hc (i := 3) rfl hc)))
theorem jx_ild5 (hX : jd_C X own nm cc nL ret) {a0 a1 a2 a3 a4 : Option Value} {t : List (Option Value)} {x : Int32} (hd : decode cc pc = .ok (.iload 5, 2)) (k : jx_S X emb (pc + 2) (a0 :: a1 :: a2 :: a3 :: a4 :: some (.int x) :: t) (.int x :: st) σ cm) : jx_S X emb pc (a0 :: a1 :: a2 :: a3 :: a4 :: some (.int x) :: t) st σ cm := by
  obtain ⟨p, l, e, s, m, args, below, meth, c, s0, G, d, mc, ms⟩ := X
  exact jxd_pure (fun ls H locs cells slots Q h w => lv_iload hX.1 hX.2.1 hd (jd_at h (i := 5) rfl) w) k
theorem jx_lld5 (hX : jd_C X own nm cc nL ret) {a0 a1 a2 a3 a4 : Option Value} {t : List (Option Value)} {x : Int64} (hd : decode cc pc = .ok (.lload 5, 2)) (k : jx_S X emb (pc + 2) (a0 :: a1 :: a2 :: a3 :: a4 :: some (.long x) :: t) (.long x :: st) σ cm) : jx_S X emb pc (a0 :: a1 :: a2 :: a3 :: a4 :: some (.long x) :: t) st σ cm := by
  obtain ⟨p, l, e, s, m, args, below, meth, c, s0, G, d, mc, ms⟩ := X
  exact jxd_pure (fun ls H locs cells slots Q h w => lv_lload hX.1 hX.2.1 hd (jd_at h (i := 5) rfl) w) k
theorem jx_ald5 (hX : jd_C X own nm cc nL ret) {a0 a1 a2 a3 a4 : Option Value} {t : List (Option Value)} {o : Option Nat} (hd : decode cc pc = .ok (.aload 5, 2)) (k : jx_S X emb (pc + 2) (a0 :: a1 :: a2 :: a3 :: a4 :: some (jd_v (jd_gG X) o) :: t) (jd_v (jd_gG X) o :: st) σ cm) : jx_S X emb pc (a0 :: a1 :: a2 :: a3 :: a4 :: some (jd_v (jd_gG X) o) :: t) st σ cm := by
  obtain ⟨p, l, e, s, m, args, below, meth, c, s0, G, d, mc, ms⟩ := X
  cases o with
  | none => exact jxd_pure (fun ls H locs cells slots Q h w => lv_aloadN hX.1 hX.2.1 hd (jd_at h (i := 5) rfl) w) k
  | some x => exact jxd_pure (fun ls H locs cells slots Q h w => lv_aload hX.1 hX.2.1 hd (jd_at h (i := 5) rfl) w) k
theorem jx_ist5 (hX : jd_C X own nm cc nL ret) {a0 a1 a2 a3 a4 : Option Value} {b : Option Value} {t : List (Option Value)} {x : Int32} (hc : jd_nl a4 = true) (hd : decode cc pc = .ok (.istore 5, 2)) (k : jx_S X emb (pc + 2) (a0 :: a1 :: a2 :: a3 :: a4 :: some (.int x) :: t) st σ cm) : jx_S X emb pc (a0 :: a1 :: a2 :: a3 :: a4 :: b :: t) (.int x :: st) σ cm := by
  obtain ⟨p, l, e, s, m, args, below, meth, c, s0, G, d, mc, ms⟩ := X
  exact jxd_loc (fun ls H locs cells slots Q h w => lv_istore hX.1 hX.2.1 hd h.2 (by have := h.1; simp at this; omega) rfl (fun ls' h' => w ls' (jd_st1 (i := 5) h.1 h' (by have := h.1; simp at this; omega) (jd_hc (i := 4) rfl hc)))) k
theorem jx_ast5 (hX : jd_C X own nm cc nL ret) {a0 a1 a2 a3 a4 : Option Value} {b : Option Value} {t : List (Option Value)} {o : Option Nat} (hc : jd_nl a4 = true) (hd : decode cc pc = .ok (.astore 5, 2)) (k : jx_S X emb (pc + 2) (a0 :: a1 :: a2 :: a3 :: a4 :: some (jd_v (jd_gG X) o) :: t) st σ cm) : jx_S X emb pc (a0 :: a1 :: a2 :: a3 :: a4 :: b :: t) (jd_v (jd_gG X) o :: st) σ cm := by
  obtain ⟨p, l, e, s, m, args, below, meth, c, s0, G, d, mc, ms⟩ := X
  cases o with
  | none => exact jxd_loc (fun ls H locs cells slots Q h w => lv_astoreN hX.1 hX.2.1 hd h.2 (by have := h.1; simp at this; omega) rfl (fun ls' h' => w ls' (jd_st1 (i := 5) h.1 h' (by have := h.1; simp at this; omega) (jd_hc (i := 4) rfl hc)))) k
  | some x => exact jxd_loc (fun ls H locs cells slots Q h w => lv_astore hX.1 hX.2.1 hd h.2 (by have := h.1; simp at this; omega) rfl (fun ls' h' => w ls' (jd_st1 (i := 5) h.1 h' (by have := h.1; simp at this; omega) (jd_hc (i := 4) rfl hc)))) k
theorem jx_lst5 (hX : jd_C X own nm cc nL ret) {a0 a1 a2 a3 a4 : Option Value} {b b2 : Option Value} {t : List (Option Value)} {x : Int64} (hc : jd_nl a4 = true) (hd : decode cc pc = .ok (.lstore 5, 2)) (k : jx_S X emb (pc + 2) (a0 :: a1 :: a2 :: a3 :: a4 :: some (.long x) :: none :: t) st σ cm) : jx_S X emb pc (a0 :: a1 :: a2 :: a3 :: a4 :: b :: b2 :: t) (.long x :: st) σ cm := by
  obtain ⟨p, l, e, s, m, args, below, meth, c, s0, G, d, mc, ms⟩ := X
  exact jxd_loc (fun ls H locs cells slots Q h w => lv_lstore hX.1 hX.2.1 hd h.2 (by have := h.1; simp at this; omega) rfl (fun ls' h' => w ls' (jd_st2 (i := 5) h.1 h' (by have := h.1; simp at this; omega) (jd_hc (i := 4) rfl hc)))) k
theorem jx_inc5 (hX : jd_C X own nm cc nL ret) {a0 a1 a2 a3 a4 : Option Value} {t : List (Option Value)} {x : Int32} {n : Int} (c : Int32) (hcc : Int32.ofInt n = c) (hc : jd_nl a4 = true) (hd : decode cc pc = .ok (.iinc 5 n, 3)) (k : jx_S X emb (pc + 3) (a0 :: a1 :: a2 :: a3 :: a4 :: some (.int (x + c)) :: t) st σ cm) : jx_S X emb pc (a0 :: a1 :: a2 :: a3 :: a4 :: some (.int x) :: t) st σ cm := by
  obtain ⟨p, l, e, s, m, args, below, meth, c, s0, G, d, mc, ms⟩ := X
  refine jxd_loc (fun ls H locs cells slots Q h w => ?_) k
  obtain ⟨k0, hk0⟩ := List.getElem?_of_mem (jd_al_mem (lv := a0 :: a1 :: a2 :: a3 :: a4 :: some (.int x) :: t) (j := 5) (w := .int x) |>.mpr rfl)
  exact lv_iinc hX.1 hX.2.1 hd h.2 hk0 (by rw [hcc]) (by have := h.1; simp at this; omega) rfl (fun ls' h' => w ls' (jd_st1 (i := 5) h.1 h' (by have := h.1; simp at this; omega) (jd_hc (i := 4) rfl hc)))
theorem jx_ild6 (hX : jd_C X own nm cc nL ret) {a0 a1 a2 a3 a4 a5 : Option Value} {t : List (Option Value)} {x : Int32} (hd : decode cc pc = .ok (.iload 6, 2)) (k : jx_S X emb (pc + 2) (a0 :: a1 :: a2 :: a3 :: a4 :: a5 :: some (.int x) :: t) (.int x :: st) σ cm) : jx_S X emb pc (a0 :: a1 :: a2 :: a3 :: a4 :: a5 :: some (.int x) :: t) st σ cm := by
  obtain ⟨p, l, e, s, m, args, below, meth, c, s0, G, d, mc, ms⟩ := X
  exact jxd_pure (fun ls H locs cells slots Q h w => lv_iload hX.1 hX.2.1 hd (jd_at h (i := 6) rfl) w) k
theorem jx_lld6 (hX : jd_C X own nm cc nL ret) {a0 a1 a2 a3 a4 a5 : Option Value} {t : List (Option Value)} {x : Int64} (hd : decode cc pc = .ok (.lload 6, 2)) (k : jx_S X emb (pc + 2) (a0 :: a1 :: a2 :: a3 :: a4 :: a5 :: some (.long x) :: t) (.long x :: st) σ cm) : jx_S X emb pc (a0 :: a1 :: a2 :: a3 :: a4 :: a5 :: some (.long x) :: t) st σ cm := by
  obtain ⟨p, l, e, s, m, args, below, meth, c, s0, G, d, mc, ms⟩ := X
  exact jxd_pure (fun ls H locs cells slots Q h w => lv_lload hX.1 hX.2.1 hd (jd_at h (i := 6) rfl) w) k
theorem jx_ald6 (hX : jd_C X own nm cc nL ret) {a0 a1 a2 a3 a4 a5 : Option Value} {t : List (Option Value)} {o : Option Nat} (hd : decode cc pc = .ok (.aload 6, 2)) (k : jx_S X emb (pc + 2) (a0 :: a1 :: a2 :: a3 :: a4 :: a5 :: some (jd_v (jd_gG X) o) :: t) (jd_v (jd_gG X) o :: st) σ cm) : jx_S X emb pc (a0 :: a1 :: a2 :: a3 :: a4 :: a5 :: some (jd_v (jd_gG X) o) :: t) st σ cm := by
  obtain ⟨p, l, e, s, m, args, below, meth, c, s0, G, d, mc, ms⟩ := X
  cases o with
  | none => exact jxd_pure (fun ls H locs cells slots Q h w => lv_aloadN hX.1 hX.2.1 hd (jd_at h (i := 6) rfl) w) k
  | some x => exact jxd_pure (fun ls H locs cells slots Q h w => lv_aload hX.1 hX.2.1 hd (jd_at h (i := 6) rfl) w) k
theorem jx_ist6 (hX : jd_C X own nm cc nL ret) {a0 a1 a2 a3 a4 a5 : Option Value} {b : Option Value} {t : List (Option Value)} {x : Int32} (hc : jd_nl a5 = true) (hd : decode cc pc = .ok (.istore 6, 2)) (k : jx_S X emb (pc + 2) (a0 :: a1 :: a2 :: a3 :: a4 :: a5 :: some (.int x) :: t) st σ cm) : jx_S X emb pc (a0 :: a1 :: a2 :: a3 :: a4 :: a5 :: b :: t) (.int x :: st) σ cm := by
  obtain ⟨p, l, e, s, m, args, below, meth, c, s0, G, d, mc, ms⟩ := X
  exact jxd_loc (fun ls H locs cells slots Q h w => lv_istore hX.1 hX.2.1 hd h.2 (by have := h.1; simp at this; omega) rfl (fun ls' h' => w ls' (jd_st1 (i := 6) h.1 h' (by have := h.1; simp at this; omega) (jd_hc (i := 5) rfl hc)))) k
theorem jx_ast6 (hX : jd_C X own nm cc nL ret) {a0 a1 a2 a3 a4 a5 : Option Value} {b : Option Value} {t : List (Option Value)} {o : Option Nat} (hc : jd_nl a5 = true) (hd : decode cc pc = .ok (.astore 6, 2)) (k : jx_S X emb (pc + 2) (a0 :: a1 :: a2 :: a3 :: a4 :: a5 :: some (jd_v (jd_gG X) o) :: t) st σ cm) : jx_S X emb pc (a0 :: a1 :: a2 :: a3 :: a4 :: a5 :: b :: t) (jd_v (jd_gG X) o :: st) σ cm := by
  obtain ⟨p, l, e, s, m, args, below, meth, c, s0, G, d, mc, ms⟩ := X
  cases o with
  | none => exact jxd_loc (fun ls H locs cells slots Q h w => lv_astoreN hX.1 hX.2.1 hd h.2 (by have := h.1; simp at this; omega) rfl (fun ls' h' => w ls' (jd_st1 (i := 6) h.1 h' (by have := h.1; simp at this; omega) (jd_hc (i := 5) rfl hc)))) k
  | some x => exact jxd_loc (fun ls H locs cells slots Q h w => lv_astore hX.1 hX.2.1 hd h.2 (by have := h.1; simp at this; omega) rfl (fun ls' h' => w ls' (jd_st1 (i := 6) h.1 h' (by have := h.1; simp at this; omega) (jd_hc (i := 5) rfl hc)))) k
theorem jx_lst6 (hX : jd_C X own nm cc nL ret) {a0 a1 a2 a3 a4 a5 : Option Value} {b b2 : Option Value} {t : List (Option Value)} {x : Int64} (hc : jd_nl a5 = true) (hd : decode cc pc = .ok (.lstore 6, 2)) (k : jx_S X emb (pc + 2) (a0 :: a1 :: a2 :: a3 :: a4 :: a5 :: some (.long x) :: none :: t) st σ cm) : jx_S X emb pc (a0 :: a1 :: a2 :: a3 :: a4 :: a5 :: b :: b2 :: t) (.long x :: st) σ cm := by
  obtain ⟨p, l, e, s, m, args, below, meth, c, s0, G, d, mc, ms⟩ := X
  exact jxd_loc (fun ls H locs cells slots Q h w => lv_lstore hX.1 hX.2.1 hd h.2 (by have := h.1; simp at this; omega) rfl (fun ls' h' => w ls' (jd_st2 (i := 6) h.1 h' (by have := h.1; simp at this; omega) (jd_hc (i := 5) rfl hc)))) k
theorem jx_inc6 (hX : jd_C X own nm cc nL ret) {a0 a1 a2 a3 a4 a5 : Option Value} {t : List (Option Value)} {x : Int32} {n : Int} (c : Int32) (hcc : Int32.ofInt n = c) (hc : jd_nl a5 = true) (hd : decode cc pc = .ok (.iinc 6 n, 3)) (k : jx_S X emb (pc + 3) (a0 :: a1 :: a2 :: a3 :: a4 :: a5 :: some (.int (x + c)) :: t) st σ cm) : jx_S X emb pc (a0 :: a1 :: a2 :: a3 :: a4 :: a5 :: some (.int x) :: t) st σ cm := by
  obtain ⟨p, l, e, s, m, args, below, meth, c, s0, G, d, mc, ms⟩ := X
  refine jxd_loc (fun ls H locs cells slots Q h w => ?_) k
  obtain ⟨k0, hk0⟩ := List.getElem?_of_mem (jd_al_mem (lv := a0 :: a1 :: a2 :: a3 :: a4 :: a5 :: some (.int x) :: t) (j := 6) (w := .int x) |>.mpr rfl)
  exact lv_iinc hX.1 hX.2.1 hd h.2 hk0 (by rw [hcc]) (by have := h.1; simp at this; omega) rfl (fun ls' h' => w ls' (jd_st1 (i := 6) h.1 h' (by have := h.1; simp at this; omega) (jd_hc (i := 5) rfl hc)))
theorem jx_ild7 (hX : jd_C X own nm cc nL ret) {a0 a1 a2 a3 a4 a5 a6 : Option Value} {t : List (Option Value)} {x : Int32} (hd : decode cc pc = .ok (.iload 7, 2)) (k : jx_S X emb (pc + 2) (a0 :: a1 :: a2 :: a3 :: a4 :: a5 :: a6 :: some (.int x) :: t) (.int x :: st) σ cm) : jx_S X emb pc (a0 :: a1 :: a2 :: a3 :: a4 :: a5 :: a6 :: some (.int x) :: t) st σ cm := by
  obtain ⟨p, l, e, s, m, args, below, meth, c, s0, G, d, mc, ms⟩ := X
  exact jxd_pure (fun ls H locs cells slots Q h w => lv_iload hX.1 hX.2.1 hd (jd_at h (i := 7) rfl) w) k
theorem jx_lld7 (hX : jd_C X own nm cc nL ret) {a0 a1 a2 a3 a4 a5 a6 : Option Value} {t : List (Option Value)} {x : Int64} (hd : decode cc pc = .ok (.lload 7, 2)) (k : jx_S X emb (pc + 2) (a0 :: a1 :: a2 :: a3 :: a4 :: a5 :: a6 :: some (.long x) :: t) (.long x :: st) σ cm) : jx_S X emb pc (a0 :: a1 :: a2 :: a3 :: a4 :: a5 :: a6 :: some (.long x) :: t) st σ cm := by
  obtain ⟨p, l, e, s, m, args, below, meth, c, s0, G, d, mc, ms⟩ := X
  exact jxd_pure (fun ls H locs cells slots Q h w => lv_lload hX.1 hX.2.1 hd (jd_at h (i := 7) rfl) w) k
theorem jx_ald7 (hX : jd_C X own nm cc nL ret) {a0 a1 a2 a3 a4 a5 a6 : Option Value} {t : List (Option Value)} {o : Option Nat} (hd : decode cc pc = .ok (.aload 7, 2)) (k : jx_S X emb (pc + 2) (a0 :: a1 :: a2 :: a3 :: a4 :: a5 :: a6 :: some (jd_v (jd_gG X) o) :: t) (jd_v (jd_gG X) o :: st) σ cm) : jx_S X emb pc (a0 :: a1 :: a2 :: a3 :: a4 :: a5 :: a6 :: some (jd_v (jd_gG X) o) :: t) st σ cm := by
  obtain ⟨p, l, e, s, m, args, below, meth, c, s0, G, d, mc, ms⟩ := X
  cases o with
  | none => exact jxd_pure (fun ls H locs cells slots Q h w => lv_aloadN hX.1 hX.2.1 hd (jd_at h (i := 7) rfl) w) k
  | some x => exact jxd_pure (fun ls H locs cells slots Q h w => lv_aload hX.1 hX.2.1 hd (jd_at h (i := 7) rfl) w) k
theorem jx_ist7 (hX : jd_C X own nm cc nL ret) {a0 a1 a2 a3 a4 a5 a6 : Option Value} {b : Option Value} {t : List (Option Value)} {x : Int32} (hc : jd_nl a6 = true) (hd : decode cc pc = .ok (.istore 7, 2)) (k : jx_S X emb (pc + 2) (a0 :: a1 :: a2 :: a3 :: a4 :: a5 :: a6 :: some (.int x) :: t) st σ cm) : jx_S X emb pc (a0 :: a1 :: a2 :: a3 :: a4 :: a5 :: a6 :: b :: t) (.int x :: st) σ cm := by
  obtain ⟨p, l, e, s, m, args, below, meth, c, s0, G, d, mc, ms⟩ := X
  exact jxd_loc (fun ls H locs cells slots Q h w => lv_istore hX.1 hX.2.1 hd h.2 (by have := h.1; simp at this; omega) rfl (fun ls' h' => w ls' (jd_st1 (i := 7) h.1 h' (by have := h.1; simp at this; omega) (jd_hc (i := 6) rfl hc)))) k
theorem jx_ast7 (hX : jd_C X own nm cc nL ret) {a0 a1 a2 a3 a4 a5 a6 : Option Value} {b : Option Value} {t : List (Option Value)} {o : Option Nat} (hc : jd_nl a6 = true) (hd : decode cc pc = .ok (.astore 7, 2)) (k : jx_S X emb (pc + 2) (a0 :: a1 :: a2 :: a3 :: a4 :: a5 :: a6 :: some (jd_v (jd_gG X) o) :: t) st σ cm) : jx_S X emb pc (a0 :: a1 :: a2 :: a3 :: a4 :: a5 :: a6 :: b :: t) (jd_v (jd_gG X) o :: st) σ cm := by
  obtain ⟨p, l, e, s, m, args, below, meth, c, s0, G, d, mc, ms⟩ := X
  cases o with
  | none => exact jxd_loc (fun ls H locs cells slots Q h w => lv_astoreN hX.1 hX.2.1 hd h.2 (by have := h.1; simp at this; omega) rfl (fun ls' h' => w ls' (jd_st1 (i := 7) h.1 h' (by have := h.1; simp at this; omega) (jd_hc (i := 6) rfl hc)))) k
  | some x => exact jxd_loc (fun ls H locs cells slots Q h w => lv_astore hX.1 hX.2.1 hd h.2 (by have := h.1; simp at this; omega) rfl (fun ls' h' => w ls' (jd_st1 (i := 7) h.1 h' (by have := h.1; simp at this; omega) (jd_hc (i := 6) rfl hc)))) k
theorem jx_lst7 (hX : jd_C X own nm cc nL ret) {a0 a1 a2 a3 a4 a5 a6 : Option Value} {b b2 : Option Value} {t : List (Option Value)} {x : Int64} (hc : jd_nl a6 = true) (hd : decode cc pc = .ok (.lstore 7, 2)) (k : jx_S X emb (pc + 2) (a0 :: a1 :: a2 :: a3 :: a4 :: a5 :: a6 :: some (.long x) :: none :: t) st σ cm) : jx_S X emb pc (a0 :: a1 :: a2 :: a3 :: a4 :: a5 :: a6 :: b :: b2 :: t) (.long x :: st) σ cm := by
  obtain ⟨p, l, e, s, m, args, below, meth, c, s0, G, d, mc, ms⟩ := X
  exact jxd_loc (fun ls H locs cells slots Q h w => lv_lstore hX.1 hX.2.1 hd h.2 (by have := h.1; simp at this; omega) rfl (fun ls' h' => w ls' (jd_st2 (i := 7) h.1 h' (by have := h.1; simp at this; omega) (jd_hc (i := 6) rfl hc)))) k
theorem jx_inc7 (hX : jd_C X own nm cc nL ret) {a0 a1 a2 a3 a4 a5 a6 : Option Value} {t : List (Option Value)} {x : Int32} {n : Int} (c : Int32) (hcc : Int32.ofInt n = c) (hc : jd_nl a6 = true) (hd : decode cc pc = .ok (.iinc 7 n, 3)) (k : jx_S X emb (pc + 3) (a0 :: a1 :: a2 :: a3 :: a4 :: a5 :: a6 :: some (.int (x + c)) :: t) st σ cm) : jx_S X emb pc (a0 :: a1 :: a2 :: a3 :: a4 :: a5 :: a6 :: some (.int x) :: t) st σ cm := by
  obtain ⟨p, l, e, s, m, args, below, meth, c, s0, G, d, mc, ms⟩ := X
  refine jxd_loc (fun ls H locs cells slots Q h w => ?_) k
  obtain ⟨k0, hk0⟩ := List.getElem?_of_mem (jd_al_mem (lv := a0 :: a1 :: a2 :: a3 :: a4 :: a5 :: a6 :: some (.int x) :: t) (j := 7) (w := .int x) |>.mpr rfl)
  exact lv_iinc hX.1 hX.2.1 hd h.2 hk0 (by rw [hcc]) (by have := h.1; simp at this; omega) rfl (fun ls' h' => w ls' (jd_st1 (i := 7) h.1 h' (by have := h.1; simp at this; omega) (jd_hc (i := 6) rfl hc)))
theorem jx_ild8 (hX : jd_C X own nm cc nL ret) {a0 a1 a2 a3 a4 a5 a6 a7 : Option Value} {t : List (Option Value)} {x : Int32} (hd : decode cc pc = .ok (.iload 8, 2)) (k : jx_S X emb (pc + 2) (a0 :: a1 :: a2 :: a3 :: a4 :: a5 :: a6 :: a7 :: some (.int x) :: t) (.int x :: st) σ cm) : jx_S X emb pc (a0 :: a1 :: a2 :: a3 :: a4 :: a5 :: a6 :: a7 :: some (.int x) :: t) st σ cm := by
  obtain ⟨p, l, e, s, m, args, below, meth, c, s0, G, d, mc, ms⟩ := X
  exact jxd_pure (fun ls H locs cells slots Q h w => lv_iload hX.1 hX.2.1 hd (jd_at h (i := 8) rfl) w) k
theorem jx_lld8 (hX : jd_C X own nm cc nL ret) {a0 a1 a2 a3 a4 a5 a6 a7 : Option Value} {t : List (Option Value)} {x : Int64} (hd : decode cc pc = .ok (.lload 8, 2)) (k : jx_S X emb (pc + 2) (a0 :: a1 :: a2 :: a3 :: a4 :: a5 :: a6 :: a7 :: some (.long x) :: t) (.long x :: st) σ cm) : jx_S X emb pc (a0 :: a1 :: a2 :: a3 :: a4 :: a5 :: a6 :: a7 :: some (.long x) :: t) st σ cm := by
  obtain ⟨p, l, e, s, m, args, below, meth, c, s0, G, d, mc, ms⟩ := X
  exact jxd_pure (fun ls H locs cells slots Q h w => lv_lload hX.1 hX.2.1 hd (jd_at h (i := 8) rfl) w) k
theorem jx_ald8 (hX : jd_C X own nm cc nL ret) {a0 a1 a2 a3 a4 a5 a6 a7 : Option Value} {t : List (Option Value)} {o : Option Nat} (hd : decode cc pc = .ok (.aload 8, 2)) (k : jx_S X emb (pc + 2) (a0 :: a1 :: a2 :: a3 :: a4 :: a5 :: a6 :: a7 :: some (jd_v (jd_gG X) o) :: t) (jd_v (jd_gG X) o :: st) σ cm) : jx_S X emb pc (a0 :: a1 :: a2 :: a3 :: a4 :: a5 :: a6 :: a7 :: some (jd_v (jd_gG X) o) :: t) st σ cm := by
  obtain ⟨p, l, e, s, m, args, below, meth, c, s0, G, d, mc, ms⟩ := X
  cases o with
  | none => exact jxd_pure (fun ls H locs cells slots Q h w => lv_aloadN hX.1 hX.2.1 hd (jd_at h (i := 8) rfl) w) k
  | some x => exact jxd_pure (fun ls H locs cells slots Q h w => lv_aload hX.1 hX.2.1 hd (jd_at h (i := 8) rfl) w) k
theorem jx_ist8 (hX : jd_C X own nm cc nL ret) {a0 a1 a2 a3 a4 a5 a6 a7 : Option Value} {b : Option Value} {t : List (Option Value)} {x : Int32} (hc : jd_nl a7 = true) (hd : decode cc pc = .ok (.istore 8, 2)) (k : jx_S X emb (pc + 2) (a0 :: a1 :: a2 :: a3 :: a4 :: a5 :: a6 :: a7 :: some (.int x) :: t) st σ cm) : jx_S X emb pc (a0 :: a1 :: a2 :: a3 :: a4 :: a5 :: a6 :: a7 :: b :: t) (.int x :: st) σ cm := by
  obtain ⟨p, l, e, s, m, args, below, meth, c, s0, G, d, mc, ms⟩ := X
  exact jxd_loc (fun ls H locs cells slots Q h w => lv_istore hX.1 hX.2.1 hd h.2 (by have := h.1; simp at this; omega) rfl (fun ls' h' => w ls' (jd_st1 (i := 8) h.1 h' (by have := h.1; simp at this; omega) (jd_hc (i := 7) rfl hc)))) k
theorem jx_ast8 (hX : jd_C X own nm cc nL ret) {a0 a1 a2 a3 a4 a5 a6 a7 : Option Value} {b : Option Value} {t : List (Option Value)} {o : Option Nat} (hc : jd_nl a7 = true) (hd : decode cc pc = .ok (.astore 8, 2)) (k : jx_S X emb (pc + 2) (a0 :: a1 :: a2 :: a3 :: a4 :: a5 :: a6 :: a7 :: some (jd_v (jd_gG X) o) :: t) st σ cm) : jx_S X emb pc (a0 :: a1 :: a2 :: a3 :: a4 :: a5 :: a6 :: a7 :: b :: t) (jd_v (jd_gG X) o :: st) σ cm := by
  obtain ⟨p, l, e, s, m, args, below, meth, c, s0, G, d, mc, ms⟩ := X
  cases o with
  | none => exact jxd_loc (fun ls H locs cells slots Q h w => lv_astoreN hX.1 hX.2.1 hd h.2 (by have := h.1; simp at this; omega) rfl (fun ls' h' => w ls' (jd_st1 (i := 8) h.1 h' (by have := h.1; simp at this; omega) (jd_hc (i := 7) rfl hc)))) k
  | some x => exact jxd_loc (fun ls H locs cells slots Q h w => lv_astore hX.1 hX.2.1 hd h.2 (by have := h.1; simp at this; omega) rfl (fun ls' h' => w ls' (jd_st1 (i := 8) h.1 h' (by have := h.1; simp at this; omega) (jd_hc (i := 7) rfl hc)))) k
theorem jx_lst8 (hX : jd_C X own nm cc nL ret) {a0 a1 a2 a3 a4 a5 a6 a7 : Option Value} {b b2 : Option Value} {t : List (Option Value)} {x : Int64} (hc : jd_nl a7 = true) (hd : decode cc pc = .ok (.lstore 8, 2)) (k : jx_S X emb (pc + 2) (a0 :: a1 :: a2 :: a3 :: a4 :: a5 :: a6 :: a7 :: some (.long x) :: none :: t) st σ cm) : jx_S X emb pc (a0 :: a1 :: a2 :: a3 :: a4 :: a5 :: a6 :: a7 :: b :: b2 :: t) (.long x :: st) σ cm := by
  obtain ⟨p, l, e, s, m, args, below, meth, c, s0, G, d, mc, ms⟩ := X
  exact jxd_loc (fun ls H locs cells slots Q h w => lv_lstore hX.1 hX.2.1 hd h.2 (by have := h.1; simp at this; omega) rfl (fun ls' h' => w ls' (jd_st2 (i := 8) h.1 h' (by have := h.1; simp at this; omega) (jd_hc (i := 7) rfl hc)))) k
theorem jx_inc8 (hX : jd_C X own nm cc nL ret) {a0 a1 a2 a3 a4 a5 a6 a7 : Option Value} {t : List (Option Value)} {x : Int32} {n : Int} (c : Int32) (hcc : Int32.ofInt n = c) (hc : jd_nl a7 = true) (hd : decode cc pc = .ok (.iinc 8 n, 3)) (k : jx_S X emb (pc + 3) (a0 :: a1 :: a2 :: a3 :: a4 :: a5 :: a6 :: a7 :: some (.int (x + c)) :: t) st σ cm) : jx_S X emb pc (a0 :: a1 :: a2 :: a3 :: a4 :: a5 :: a6 :: a7 :: some (.int x) :: t) st σ cm := by
  obtain ⟨p, l, e, s, m, args, below, meth, c, s0, G, d, mc, ms⟩ := X
  refine jxd_loc (fun ls H locs cells slots Q h w => ?_) k
  obtain ⟨k0, hk0⟩ := List.getElem?_of_mem (jd_al_mem (lv := a0 :: a1 :: a2 :: a3 :: a4 :: a5 :: a6 :: a7 :: some (.int x) :: t) (j := 8) (w := .int x) |>.mpr rfl)
  exact lv_iinc hX.1 hX.2.1 hd h.2 hk0 (by rw [hcc]) (by have := h.1; simp at this; omega) rfl (fun ls' h' => w ls' (jd_st1 (i := 8) h.1 h' (by have := h.1; simp at this; omega) (jd_hc (i := 7) rfl hc)))
theorem jx_ild9 (hX : jd_C X own nm cc nL ret) {a0 a1 a2 a3 a4 a5 a6 a7 a8 : Option Value} {t : List (Option Value)} {x : Int32} (hd : decode cc pc = .ok (.iload 9, 2)) (k : jx_S X emb (pc + 2) (a0 :: a1 :: a2 :: a3 :: a4 :: a5 :: a6 :: a7 :: a8 :: some (.int x) :: t) (.int x :: st) σ cm) : jx_S X emb pc (a0 :: a1 :: a2 :: a3 :: a4 :: a5 :: a6 :: a7 :: a8 :: some (.int x) :: t) st σ cm := by
  obtain ⟨p, l, e, s, m, args, below, meth, c, s0, G, d, mc, ms⟩ := X
  exact jxd_pure (fun ls H locs cells slots Q h w => lv_iload hX.1 hX.2.1 hd (jd_at h (i := 9) rfl) w) k
theorem jx_lld9 (hX : jd_C X own nm cc nL ret) {a0 a1 a2 a3 a4 a5 a6 a7 a8 : Option Value} {t : List (Option Value)} {x : Int64} (hd : decode cc pc = .ok (.lload 9, 2)) (k : jx_S X emb (pc + 2) (a0 :: a1 :: a2 :: a3 :: a4 :: a5 :: a6 :: a7 :: a8 :: some (.long x) :: t) (.long x :: st) σ cm) : jx_S X emb pc (a0 :: a1 :: a2 :: a3 :: a4 :: a5 :: a6 :: a7 :: a8 :: some (.long x) :: t) st σ cm := by
  obtain ⟨p, l, e, s, m, args, below, meth, c, s0, G, d, mc, ms⟩ := X
  exact jxd_pure (fun ls H locs cells slots Q h w => lv_lload hX.1 hX.2.1 hd (jd_at h (i := 9) rfl) w) k
theorem jx_ald9 (hX : jd_C X own nm cc nL ret) {a0 a1 a2 a3 a4 a5 a6 a7 a8 : Option Value} {t : List (Option Value)} {o : Option Nat} (hd : decode cc pc = .ok (.aload 9, 2)) (k : jx_S X emb (pc + 2) (a0 :: a1 :: a2 :: a3 :: a4 :: a5 :: a6 :: a7 :: a8 :: some (jd_v (jd_gG X) o) :: t) (jd_v (jd_gG X) o :: st) σ cm) : jx_S X emb pc (a0 :: a1 :: a2 :: a3 :: a4 :: a5 :: a6 :: a7 :: a8 :: some (jd_v (jd_gG X) o) :: t) st σ cm := by
  obtain ⟨p, l, e, s, m, args, below, meth, c, s0, G, d, mc, ms⟩ := X
  cases o with
  | none => exact jxd_pure (fun ls H locs cells slots Q h w => lv_aloadN hX.1 hX.2.1 hd (jd_at h (i := 9) rfl) w) k
  | some x => exact jxd_pure (fun ls H locs cells slots Q h w => lv_aload hX.1 hX.2.1 hd (jd_at h (i := 9) rfl) w) k
theorem jx_ist9 (hX : jd_C X own nm cc nL ret) {a0 a1 a2 a3 a4 a5 a6 a7 a8 : Option Value} {b : Option Value} {t : List (Option Value)} {x : Int32} (hc : jd_nl a8 = true) (hd : decode cc pc = .ok (.istore 9, 2)) (k : jx_S X emb (pc + 2) (a0 :: a1 :: a2 :: a3 :: a4 :: a5 :: a6 :: a7 :: a8 :: some (.int x) :: t) st σ cm) : jx_S X emb pc (a0 :: a1 :: a2 :: a3 :: a4 :: a5 :: a6 :: a7 :: a8 :: b :: t) (.int x :: st) σ cm := by
  obtain ⟨p, l, e, s, m, args, below, meth, c, s0, G, d, mc, ms⟩ := X
  exact jxd_loc (fun ls H locs cells slots Q h w => lv_istore hX.1 hX.2.1 hd h.2 (by have := h.1; simp at this; omega) rfl (fun ls' h' => w ls' (jd_st1 (i := 9) h.1 h' (by have := h.1; simp at this; omega) (jd_hc (i := 8) rfl hc)))) k
theorem jx_ast9 (hX : jd_C X own nm cc nL ret) {a0 a1 a2 a3 a4 a5 a6 a7 a8 : Option Value} {b : Option Value} {t : List (Option Value)} {o : Option Nat} (hc : jd_nl a8 = true) (hd : decode cc pc = .ok (.astore 9, 2)) (k : jx_S X emb (pc + 2) (a0 :: a1 :: a2 :: a3 :: a4 :: a5 :: a6 :: a7 :: a8 :: some (jd_v (jd_gG X) o) :: t) st σ cm) : jx_S X emb pc (a0 :: a1 :: a2 :: a3 :: a4 :: a5 :: a6 :: a7 :: a8 :: b :: t) (jd_v (jd_gG X) o :: st) σ cm := by
  obtain ⟨p, l, e, s, m, args, below, meth, c, s0, G, d, mc, ms⟩ := X
  cases o with
  | none => exact jxd_loc (fun ls H locs cells slots Q h w => lv_astoreN hX.1 hX.2.1 hd h.2 (by have := h.1; simp at this; omega) rfl (fun ls' h' => w ls' (jd_st1 (i := 9) h.1 h' (by have := h.1; simp at this; omega) (jd_hc (i := 8) rfl hc)))) k
  | some x => exact jxd_loc (fun ls H locs cells slots Q h w => lv_astore hX.1 hX.2.1 hd h.2 (by have := h.1; simp at this; omega) rfl (fun ls' h' => w ls' (jd_st1 (i := 9) h.1 h' (by have := h.1; simp at this; omega) (jd_hc (i := 8) rfl hc)))) k
theorem jx_lst9 (hX : jd_C X own nm cc nL ret) {a0 a1 a2 a3 a4 a5 a6 a7 a8 : Option Value} {b b2 : Option Value} {t : List (Option Value)} {x : Int64} (hc : jd_nl a8 = true) (hd : decode cc pc = .ok (.lstore 9, 2)) (k : jx_S X emb (pc + 2) (a0 :: a1 :: a2 :: a3 :: a4 :: a5 :: a6 :: a7 :: a8 :: some (.long x) :: none :: t) st σ cm) : jx_S X emb pc (a0 :: a1 :: a2 :: a3 :: a4 :: a5 :: a6 :: a7 :: a8 :: b :: b2 :: t) (.long x :: st) σ cm := by
  obtain ⟨p, l, e, s, m, args, below, meth, c, s0, G, d, mc, ms⟩ := X
  exact jxd_loc (fun ls H locs cells slots Q h w => lv_lstore hX.1 hX.2.1 hd h.2 (by have := h.1; simp at this; omega) rfl (fun ls' h' => w ls' (jd_st2 (i := 9) h.1 h' (by have := h.1; simp at this; omega) (jd_hc (i := 8) rfl hc)))) k
theorem jx_inc9 (hX : jd_C X own nm cc nL ret) {a0 a1 a2 a3 a4 a5 a6 a7 a8 : Option Value} {t : List (Option Value)} {x : Int32} {n : Int} (c : Int32) (hcc : Int32.ofInt n = c) (hc : jd_nl a8 = true) (hd : decode cc pc = .ok (.iinc 9 n, 3)) (k : jx_S X emb (pc + 3) (a0 :: a1 :: a2 :: a3 :: a4 :: a5 :: a6 :: a7 :: a8 :: some (.int (x + c)) :: t) st σ cm) : jx_S X emb pc (a0 :: a1 :: a2 :: a3 :: a4 :: a5 :: a6 :: a7 :: a8 :: some (.int x) :: t) st σ cm := by
  obtain ⟨p, l, e, s, m, args, below, meth, c, s0, G, d, mc, ms⟩ := X
  refine jxd_loc (fun ls H locs cells slots Q h w => ?_) k
  obtain ⟨k0, hk0⟩ := List.getElem?_of_mem (jd_al_mem (lv := a0 :: a1 :: a2 :: a3 :: a4 :: a5 :: a6 :: a7 :: a8 :: some (.int x) :: t) (j := 9) (w := .int x) |>.mpr rfl)
  exact lv_iinc hX.1 hX.2.1 hd h.2 hk0 (by rw [hcc]) (by have := h.1; simp at this; omega) rfl (fun ls' h' => w ls' (jd_st1 (i := 9) h.1 h' (by have := h.1; simp at this; omega) (jd_hc (i := 8) rfl hc)))
theorem jx_ild10 (hX : jd_C X own nm cc nL ret) {a0 a1 a2 a3 a4 a5 a6 a7 a8 a9 : Option Value} {t : List (Option Value)} {x : Int32} (hd : decode cc pc = .ok (.iload 10, 2)) (k : jx_S X emb (pc + 2) (a0 :: a1 :: a2 :: a3 :: a4 :: a5 :: a6 :: a7 :: a8 :: a9 :: some (.int x) :: t) (.int x :: st) σ cm) : jx_S X emb pc (a0 :: a1 :: a2 :: a3 :: a4 :: a5 :: a6 :: a7 :: a8 :: a9 :: some (.int x) :: t) st σ cm := by
  obtain ⟨p, l, e, s, m, args, below, meth, c, s0, G, d, mc, ms⟩ := X
  exact jxd_pure (fun ls H locs cells slots Q h w => lv_iload hX.1 hX.2.1 hd (jd_at h (i := 10) rfl) w) k
theorem jx_lld10 (hX : jd_C X own nm cc nL ret) {a0 a1 a2 a3 a4 a5 a6 a7 a8 a9 : Option Value} {t : List (Option Value)} {x : Int64} (hd : decode cc pc = .ok (.lload 10, 2)) (k : jx_S X emb (pc + 2) (a0 :: a1 :: a2 :: a3 :: a4 :: a5 :: a6 :: a7 :: a8 :: a9 :: some (.long x) :: t) (.long x :: st) σ cm) : jx_S X emb pc (a0 :: a1 :: a2 :: a3 :: a4 :: a5 :: a6 :: a7 :: a8 :: a9 :: some (.long x) :: t) st σ cm := by
  obtain ⟨p, l, e, s, m, args, below, meth, c, s0, G, d, mc, ms⟩ := X
  exact jxd_pure (fun ls H locs cells slots Q h w => lv_lload hX.1 hX.2.1 hd (jd_at h (i := 10) rfl) w) k
theorem jx_ald10 (hX : jd_C X own nm cc nL ret) {a0 a1 a2 a3 a4 a5 a6 a7 a8 a9 : Option Value} {t : List (Option Value)} {o : Option Nat} (hd : decode cc pc = .ok (.aload 10, 2)) (k : jx_S X emb (pc + 2) (a0 :: a1 :: a2 :: a3 :: a4 :: a5 :: a6 :: a7 :: a8 :: a9 :: some (jd_v (jd_gG X) o) :: t) (jd_v (jd_gG X) o :: st) σ cm) : jx_S X emb pc (a0 :: a1 :: a2 :: a3 :: a4 :: a5 :: a6 :: a7 :: a8 :: a9 :: some (jd_v (jd_gG X) o) :: t) st σ cm := by
  obtain ⟨p, l, e, s, m, args, below, meth, c, s0, G, d, mc, ms⟩ := X
  cases o with
  | none => exact jxd_pure (fun ls H locs cells slots Q h w => lv_aloadN hX.1 hX.2.1 hd (jd_at h (i := 10) rfl) w) k
  | some x => exact jxd_pure (fun ls H locs cells slots Q h w => lv_aload hX.1 hX.2.1 hd (jd_at h (i := 10) rfl) w) k
theorem jx_ist10 (hX : jd_C X own nm cc nL ret) {a0 a1 a2 a3 a4 a5 a6 a7 a8 a9 : Option Value} {b : Option Value} {t : List (Option Value)} {x : Int32} (hc : jd_nl a9 = true) (hd : decode cc pc = .ok (.istore 10, 2)) (k : jx_S X emb (pc + 2) (a0 :: a1 :: a2 :: a3 :: a4 :: a5 :: a6 :: a7 :: a8 :: a9 :: some (.int x) :: t) st σ cm) : jx_S X emb pc (a0 :: a1 :: a2 :: a3 :: a4 :: a5 :: a6 :: a7 :: a8 :: a9 :: b :: t) (.int x :: st) σ cm := by
  obtain ⟨p, l, e, s, m, args, below, meth, c, s0, G, d, mc, ms⟩ := X
  exact jxd_loc (fun ls H locs cells slots Q h w => lv_istore hX.1 hX.2.1 hd h.2 (by have := h.1; simp at this; omega) rfl (fun ls' h' => w ls' (jd_st1 (i := 10) h.1 h' (by have := h.1; simp at this; omega) (jd_hc (i := 9) rfl hc)))) k
theorem jx_ast10 (hX : jd_C X own nm cc nL ret) {a0 a1 a2 a3 a4 a5 a6 a7 a8 a9 : Option Value} {b : Option Value} {t : List (Option Value)} {o : Option Nat} (hc : jd_nl a9 = true) (hd : decode cc pc = .ok (.astore 10, 2)) (k : jx_S X emb (pc + 2) (a0 :: a1 :: a2 :: a3 :: a4 :: a5 :: a6 :: a7 :: a8 :: a9 :: some (jd_v (jd_gG X) o) :: t) st σ cm) : jx_S X emb pc (a0 :: a1 :: a2 :: a3 :: a4 :: a5 :: a6 :: a7 :: a8 :: a9 :: b :: t) (jd_v (jd_gG X) o :: st) σ cm := by
  obtain ⟨p, l, e, s, m, args, below, meth, c, s0, G, d, mc, ms⟩ := X
  cases o with
  | none => exact jxd_loc (fun ls H locs cells slots Q h w => lv_astoreN hX.1 hX.2.1 hd h.2 (by have := h.1; simp at this; omega) rfl (fun ls' h' => w ls' (jd_st1 (i := 10) h.1 h' (by have := h.1; simp at this; omega) (jd_hc (i := 9) rfl hc)))) k
  | some x => exact jxd_loc (fun ls H locs cells slots Q h w => lv_astore hX.1 hX.2.1 hd h.2 (by have := h.1; simp at this; omega) rfl (fun ls' h' => w ls' (jd_st1 (i := 10) h.1 h' (by have := h.1; simp at this; omega) (jd_hc (i := 9) rfl hc)))) k
theorem jx_lst10 (hX : jd_C X own nm cc nL ret) {a0 a1 a2 a3 a4 a5 a6 a7 a8 a9 : Option Value} {b b2 : Option Value} {t : List (Option Value)} {x : Int64} (hc : jd_nl a9 = true) (hd : decode cc pc = .ok (.lstore 10, 2)) (k : jx_S X emb (pc + 2) (a0 :: a1 :: a2 :: a3 :: a4 :: a5 :: a6 :: a7 :: a8 :: a9 :: some (.long x) :: none :: t) st σ cm) : jx_S X emb pc (a0 :: a1 :: a2 :: a3 :: a4 :: a5 :: a6 :: a7 :: a8 :: a9 :: b :: b2 :: t) (.long x :: st) σ cm := by
  obtain ⟨p, l, e, s, m, args, below, meth, c, s0, G, d, mc, ms⟩ := X
  exact jxd_loc (fun ls H locs cells slots Q h w => lv_lstore hX.1 hX.2.1 hd h.2 (by have := h.1; simp at this; omega) rfl (fun ls' h' => w ls' (jd_st2 (i := 10) h.1 h' (by have := h.1; simp at this; omega) (jd_hc (i := 9) rfl hc)))) k
theorem jx_inc10 (hX : jd_C X own nm cc nL ret) {a0 a1 a2 a3 a4 a5 a6 a7 a8 a9 : Option Value} {t : List (Option Value)} {x : Int32} {n : Int} (c : Int32) (hcc : Int32.ofInt n = c) (hc : jd_nl a9 = true) (hd : decode cc pc = .ok (.iinc 10 n, 3)) (k : jx_S X emb (pc + 3) (a0 :: a1 :: a2 :: a3 :: a4 :: a5 :: a6 :: a7 :: a8 :: a9 :: some (.int (x + c)) :: t) st σ cm) : jx_S X emb pc (a0 :: a1 :: a2 :: a3 :: a4 :: a5 :: a6 :: a7 :: a8 :: a9 :: some (.int x) :: t) st σ cm := by
  obtain ⟨p, l, e, s, m, args, below, meth, c, s0, G, d, mc, ms⟩ := X
  refine jxd_loc (fun ls H locs cells slots Q h w => ?_) k
  obtain ⟨k0, hk0⟩ := List.getElem?_of_mem (jd_al_mem (lv := a0 :: a1 :: a2 :: a3 :: a4 :: a5 :: a6 :: a7 :: a8 :: a9 :: some (.int x) :: t) (j := 10) (w := .int x) |>.mpr rfl)
  exact lv_iinc hX.1 hX.2.1 hd h.2 hk0 (by rw [hcc]) (by have := h.1; simp at this; omega) rfl (fun ls' h' => w ls' (jd_st1 (i := 10) h.1 h' (by have := h.1; simp at this; omega) (jd_hc (i := 9) rfl hc)))
theorem jx_ild11 (hX : jd_C X own nm cc nL ret) {a0 a1 a2 a3 a4 a5 a6 a7 a8 a9 a10 : Option Value} {t : List (Option Value)} {x : Int32} (hd : decode cc pc = .ok (.iload 11, 2)) (k : jx_S X emb (pc + 2) (a0 :: a1 :: a2 :: a3 :: a4 :: a5 :: a6 :: a7 :: a8 :: a9 :: a10 :: some (.int x) :: t) (.int x :: st) σ cm) : jx_S X emb pc (a0 :: a1 :: a2 :: a3 :: a4 :: a5 :: a6 :: a7 :: a8 :: a9 :: a10 :: some (.int x) :: t) st σ cm := by
  obtain ⟨p, l, e, s, m, args, below, meth, c, s0, G, d, mc, ms⟩ := X
  exact jxd_pure (fun ls H locs cells slots Q h w => lv_iload hX.1 hX.2.1 hd (jd_at h (i := 11) rfl) w) k
theorem jx_lld11 (hX : jd_C X own nm cc nL ret) {a0 a1 a2 a3 a4 a5 a6 a7 a8 a9 a10 : Option Value} {t : List (Option Value)} {x : Int64} (hd : decode cc pc = .ok (.lload 11, 2)) (k : jx_S X emb (pc + 2) (a0 :: a1 :: a2 :: a3 :: a4 :: a5 :: a6 :: a7 :: a8 :: a9 :: a10 :: some (.long x) :: t) (.long x :: st) σ cm) : jx_S X emb pc (a0 :: a1 :: a2 :: a3 :: a4 :: a5 :: a6 :: a7 :: a8 :: a9 :: a10 :: some (.long x) :: t) st σ cm := by
  obtain ⟨p, l, e, s, m, args, below, meth, c, s0, G, d, mc, ms⟩ := X
  exact jxd_pure (fun ls H locs cells slots Q h w => lv_lload hX.1 hX.2.1 hd (jd_at h (i := 11) rfl) w) k
theorem jx_ald11 (hX : jd_C X own nm cc nL ret) {a0 a1 a2 a3 a4 a5 a6 a7 a8 a9 a10 : Option Value} {t : List (Option Value)} {o : Option Nat} (hd : decode cc pc = .ok (.aload 11, 2)) (k : jx_S X emb (pc + 2) (a0 :: a1 :: a2 :: a3 :: a4 :: a5 :: a6 :: a7 :: a8 :: a9 :: a10 :: some (jd_v (jd_gG X) o) :: t) (jd_v (jd_gG X) o :: st) σ cm) : jx_S X emb pc (a0 :: a1 :: a2 :: a3 :: a4 :: a5 :: a6 :: a7 :: a8 :: a9 :: a10 :: some (jd_v (jd_gG X) o) :: t) st σ cm := by
  obtain ⟨p, l, e, s, m, args, below, meth, c, s0, G, d, mc, ms⟩ := X
  cases o with
  | none => exact jxd_pure (fun ls H locs cells slots Q h w => lv_aloadN hX.1 hX.2.1 hd (jd_at h (i := 11) rfl) w) k
  | some x => exact jxd_pure (fun ls H locs cells slots Q h w => lv_aload hX.1 hX.2.1 hd (jd_at h (i := 11) rfl) w) k
theorem jx_ist11 (hX : jd_C X own nm cc nL ret) {a0 a1 a2 a3 a4 a5 a6 a7 a8 a9 a10 : Option Value} {b : Option Value} {t : List (Option Value)} {x : Int32} (hc : jd_nl a10 = true) (hd : decode cc pc = .ok (.istore 11, 2)) (k : jx_S X emb (pc + 2) (a0 :: a1 :: a2 :: a3 :: a4 :: a5 :: a6 :: a7 :: a8 :: a9 :: a10 :: some (.int x) :: t) st σ cm) : jx_S X emb pc (a0 :: a1 :: a2 :: a3 :: a4 :: a5 :: a6 :: a7 :: a8 :: a9 :: a10 :: b :: t) (.int x :: st) σ cm := by
  obtain ⟨p, l, e, s, m, args, below, meth, c, s0, G, d, mc, ms⟩ := X
  exact jxd_loc (fun ls H locs cells slots Q h w => lv_istore hX.1 hX.2.1 hd h.2 (by have := h.1; simp at this; omega) rfl (fun ls' h' => w ls' (jd_st1 (i := 11) h.1 h' (by have := h.1; simp at this; omega) (jd_hc (i := 10) rfl hc)))) k
theorem jx_ast11 (hX : jd_C X own nm cc nL ret) {a0 a1 a2 a3 a4 a5 a6 a7 a8 a9 a10 : Option Value} {b : Option Value} {t : List (Option Value)} {o : Option Nat} (hc : jd_nl a10 = true) (hd : decode cc pc = .ok (.astore 11, 2)) (k : jx_S X emb (pc + 2) (a0 :: a1 :: a2 :: a3 :: a4 :: a5 :: a6 :: a7 :: a8 :: a9 :: a10 :: some (jd_v (jd_gG X) o) :: t) st σ cm) : jx_S X emb pc (a0 :: a1 :: a2 :: a3 :: a4 :: a5 :: a6 :: a7 :: a8 :: a9 :: a10 :: b :: t) (jd_v (jd_gG X) o :: st) σ cm := by
  obtain ⟨p, l, e, s, m, args, below, meth, c, s0, G, d, mc, ms⟩ := X
  cases o with
  | none => exact jxd_loc (fun ls H locs cells slots Q h w => lv_astoreN hX.1 hX.2.1 hd h.2 (by have := h.1; simp at this; omega) rfl (fun ls' h' => w ls' (jd_st1 (i := 11) h.1 h' (by have := h.1; simp at this; omega) (jd_hc (i := 10) rfl hc)))) k
  | some x => exact jxd_loc (fun ls H locs cells slots Q h w => lv_astore hX.1 hX.2.1 hd h.2 (by have := h.1; simp at this; omega) rfl (fun ls' h' => w ls' (jd_st1 (i := 11) h.1 h' (by have := h.1; simp at this; omega) (jd_hc (i := 10) rfl hc)))) k
theorem jx_lst11 (hX : jd_C X own nm cc nL ret) {a0 a1 a2 a3 a4 a5 a6 a7 a8 a9 a10 : Option Value} {b b2 : Option Value} {t : List (Option Value)} {x : Int64} (hc : jd_nl a10 = true) (hd : decode cc pc = .ok (.lstore 11, 2)) (k : jx_S X emb (pc + 2) (a0 :: a1 :: a2 :: a3 :: a4 :: a5 :: a6 :: a7 :: a8 :: a9 :: a10 :: some (.long x) :: none :: t) st σ cm) : jx_S X emb pc (a0 :: a1 :: a2 :: a3 :: a4 :: a5 :: a6 :: a7 :: a8 :: a9 :: a10 :: b :: b2 :: t) (.long x :: st) σ cm := by
  obtain ⟨p, l, e, s, m, args, below, meth, c, s0, G, d, mc, ms⟩ := X
  exact jxd_loc (fun ls H locs cells slots Q h w => lv_lstore hX.1 hX.2.1 hd h.2 (by have := h.1; simp at this; omega) rfl (fun ls' h' => w ls' (jd_st2 (i := 11) h.1 h' (by have := h.1; simp at this; omega) (jd_hc (i := 10) rfl hc)))) k
theorem jx_inc11 (hX : jd_C X own nm cc nL ret) {a0 a1 a2 a3 a4 a5 a6 a7 a8 a9 a10 : Option Value} {t : List (Option Value)} {x : Int32} {n : Int} (c : Int32) (hcc : Int32.ofInt n = c) (hc : jd_nl a10 = true) (hd : decode cc pc = .ok (.iinc 11 n, 3)) (k : jx_S X emb (pc + 3) (a0 :: a1 :: a2 :: a3 :: a4 :: a5 :: a6 :: a7 :: a8 :: a9 :: a10 :: some (.int (x + c)) :: t) st σ cm) : jx_S X emb pc (a0 :: a1 :: a2 :: a3 :: a4 :: a5 :: a6 :: a7 :: a8 :: a9 :: a10 :: some (.int x) :: t) st σ cm := by
  obtain ⟨p, l, e, s, m, args, below, meth, c, s0, G, d, mc, ms⟩ := X
  refine jxd_loc (fun ls H locs cells slots Q h w => ?_) k
  obtain ⟨k0, hk0⟩ := List.getElem?_of_mem (jd_al_mem (lv := a0 :: a1 :: a2 :: a3 :: a4 :: a5 :: a6 :: a7 :: a8 :: a9 :: a10 :: some (.int x) :: t) (j := 11) (w := .int x) |>.mpr rfl)
  exact lv_iinc hX.1 hX.2.1 hd h.2 hk0 (by rw [hcc]) (by have := h.1; simp at this; omega) rfl (fun ls' h' => w ls' (jd_st1 (i := 11) h.1 h' (by have := h.1; simp at this; omega) (jd_hc (i := 10) rfl hc)))
theorem jx_ild12 (hX : jd_C X own nm cc nL ret) {a0 a1 a2 a3 a4 a5 a6 a7 a8 a9 a10 a11 : Option Value} {t : List (Option Value)} {x : Int32} (hd : decode cc pc = .ok (.iload 12, 2)) (k : jx_S X emb (pc + 2) (a0 :: a1 :: a2 :: a3 :: a4 :: a5 :: a6 :: a7 :: a8 :: a9 :: a10 :: a11 :: some (.int x) :: t) (.int x :: st) σ cm) : jx_S X emb pc (a0 :: a1 :: a2 :: a3 :: a4 :: a5 :: a6 :: a7 :: a8 :: a9 :: a10 :: a11 :: some (.int x) :: t) st σ cm := by
  obtain ⟨p, l, e, s, m, args, below, meth, c, s0, G, d, mc, ms⟩ := X
  exact jxd_pure (fun ls H locs cells slots Q h w => lv_iload hX.1 hX.2.1 hd (jd_at h (i := 12) rfl) w) k
theorem jx_lld12 (hX : jd_C X own nm cc nL ret) {a0 a1 a2 a3 a4 a5 a6 a7 a8 a9 a10 a11 : Option Value} {t : List (Option Value)} {x : Int64} (hd : decode cc pc = .ok (.lload 12, 2)) (k : jx_S X emb (pc + 2) (a0 :: a1 :: a2 :: a3 :: a4 :: a5 :: a6 :: a7 :: a8 :: a9 :: a10 :: a11 :: some (.long x) :: t) (.long x :: st) σ cm) : jx_S X emb pc (a0 :: a1 :: a2 :: a3 :: a4 :: a5 :: a6 :: a7 :: a8 :: a9 :: a10 :: a11 :: some (.long x) :: t) st σ cm := by
  obtain ⟨p, l, e, s, m, args, below, meth, c, s0, G, d, mc, ms⟩ := X
  exact jxd_pure (fun ls H locs cells slots Q h w => lv_lload hX.1 hX.2.1 hd (jd_at h (i := 12) rfl) w) k
theorem jx_ald12 (hX : jd_C X own nm cc nL ret) {a0 a1 a2 a3 a4 a5 a6 a7 a8 a9 a10 a11 : Option Value} {t : List (Option Value)} {o : Option Nat} (hd : decode cc pc = .ok (.aload 12, 2)) (k : jx_S X emb (pc + 2) (a0 :: a1 :: a2 :: a3 :: a4 :: a5 :: a6 :: a7 :: a8 :: a9 :: a10 :: a11 :: some (jd_v (jd_gG X) o) :: t) (jd_v (jd_gG X) o :: st) σ cm) : jx_S X emb pc (a0 :: a1 :: a2 :: a3 :: a4 :: a5 :: a6 :: a7 :: a8 :: a9 :: a10 :: a11 :: some (jd_v (jd_gG X) o) :: t) st σ cm := by
  obtain ⟨p, l, e, s, m, args, below, meth, c, s0, G, d, mc, ms⟩ := X
  cases o with
  | none => exact jxd_pure (fun ls H locs cells slots Q h w => lv_aloadN hX.1 hX.2.1 hd (jd_at h (i := 12) rfl) w) k
  | some x => exact jxd_pure (fun ls H locs cells slots Q h w => lv_aload hX.1 hX.2.1 hd (jd_at h (i := 12) rfl) w) k
theorem jx_ist12 (hX : jd_C X own nm cc nL ret) {a0 a1 a2 a3 a4 a5 a6 a7 a8 a9 a10 a11 : Option Value} {b : Option Value} {t : List (Option Value)} {x : Int32} (hc : jd_nl a11 = true) (hd : decode cc pc = .ok (.istore 12, 2)) (k : jx_S X emb (pc + 2) (a0 :: a1 :: a2 :: a3 :: a4 :: a5 :: a6 :: a7 :: a8 :: a9 :: a10 :: a11 :: some (.int x) :: t) st σ cm) : jx_S X emb pc (a0 :: a1 :: a2 :: a3 :: a4 :: a5 :: a6 :: a7 :: a8 :: a9 :: a10 :: a11 :: b :: t) (.int x :: st) σ cm := by
  obtain ⟨p, l, e, s, m, args, below, meth, c, s0, G, d, mc, ms⟩ := X
  exact jxd_loc (fun ls H locs cells slots Q h w => lv_istore hX.1 hX.2.1 hd h.2 (by have := h.1; simp at this; omega) rfl (fun ls' h' => w ls' (jd_st1 (i := 12) h.1 h' (by have := h.1; simp at this; omega) (jd_hc (i := 11) rfl hc)))) k
theorem jx_ast12 (hX : jd_C X own nm cc nL ret) {a0 a1 a2 a3 a4 a5 a6 a7 a8 a9 a10 a11 : Option Value} {b : Option Value} {t : List (Option Value)} {o : Option Nat} (hc : jd_nl a11 = true) (hd : decode cc pc = .ok (.astore 12, 2)) (k : jx_S X emb (pc + 2) (a0 :: a1 :: a2 :: a3 :: a4 :: a5 :: a6 :: a7 :: a8 :: a9 :: a10 :: a11 :: some (jd_v (jd_gG X) o) :: t) st σ cm) : jx_S X emb pc (a0 :: a1 :: a2 :: a3 :: a4 :: a5 :: a6 :: a7 :: a8 :: a9 :: a10 :: a11 :: b :: t) (jd_v (jd_gG X) o :: st) σ cm := by
  obtain ⟨p, l, e, s, m, args, below, meth, c, s0, G, d, mc, ms⟩ := X
  cases o with
  | none => exact jxd_loc (fun ls H locs cells slots Q h w => lv_astoreN hX.1 hX.2.1 hd h.2 (by have := h.1; simp at this; omega) rfl (fun ls' h' => w ls' (jd_st1 (i := 12) h.1 h' (by have := h.1; simp at this; omega) (jd_hc (i := 11) rfl hc)))) k
  | some x => exact jxd_loc (fun ls H locs cells slots Q h w => lv_astore hX.1 hX.2.1 hd h.2 (by have := h.1; simp at this; omega) rfl (fun ls' h' => w ls' (jd_st1 (i := 12) h.1 h' (by have := h.1; simp at this; omega) (jd_hc (i := 11) rfl hc)))) k
theorem jx_lst12 (hX : jd_C X own nm cc nL ret) {a0 a1 a2 a3 a4 a5 a6 a7 a8 a9 a10 a11 : Option Value} {b b2 : Option Value} {t : List (Option Value)} {x : Int64} (hc : jd_nl a11 = true) (hd : decode cc pc = .ok (.lstore 12, 2)) (k : jx_S X emb (pc + 2) (a0 :: a1 :: a2 :: a3 :: a4 :: a5 :: a6 :: a7 :: a8 :: a9 :: a10 :: a11 :: some (.long x) :: none :: t) st σ cm) : jx_S X emb pc (a0 :: a1 :: a2 :: a3 :: a4 :: a5 :: a6 :: a7 :: a8 :: a9 :: a10 :: a11 :: b :: b2 :: t) (.long x :: st) σ cm := by
  obtain ⟨p, l, e, s, m, args, below, meth, c, s0, G, d, mc, ms⟩ := X
  exact jxd_loc (fun ls H locs cells slots Q h w => lv_lstore hX.1 hX.2.1 hd h.2 (by have := h.1; simp at this; omega) rfl (fun ls' h' => w ls' (jd_st2 (i := 12) h.1 h' (by have := h.1; simp at this; omega) (jd_hc (i := 11) rfl hc)))) k
theorem jx_inc12 (hX : jd_C X own nm cc nL ret) {a0 a1 a2 a3 a4 a5 a6 a7 a8 a9 a10 a11 : Option Value} {t : List (Option Value)} {x : Int32} {n : Int} (c : Int32) (hcc : Int32.ofInt n = c) (hc : jd_nl a11 = true) (hd : decode cc pc = .ok (.iinc 12 n, 3)) (k : jx_S X emb (pc + 3) (a0 :: a1 :: a2 :: a3 :: a4 :: a5 :: a6 :: a7 :: a8 :: a9 :: a10 :: a11 :: some (.int (x + c)) :: t) st σ cm) : jx_S X emb pc (a0 :: a1 :: a2 :: a3 :: a4 :: a5 :: a6 :: a7 :: a8 :: a9 :: a10 :: a11 :: some (.int x) :: t) st σ cm := by
  obtain ⟨p, l, e, s, m, args, below, meth, c, s0, G, d, mc, ms⟩ := X
  refine jxd_loc (fun ls H locs cells slots Q h w => ?_) k
  obtain ⟨k0, hk0⟩ := List.getElem?_of_mem (jd_al_mem (lv := a0 :: a1 :: a2 :: a3 :: a4 :: a5 :: a6 :: a7 :: a8 :: a9 :: a10 :: a11 :: some (.int x) :: t) (j := 12) (w := .int x) |>.mpr rfl)
  exact lv_iinc hX.1 hX.2.1 hd h.2 hk0 (by rw [hcc]) (by have := h.1; simp at this; omega) rfl (fun ls' h' => w ls' (jd_st1 (i := 12) h.1 h' (by have := h.1; simp at this; omega) (jd_hc (i := 11) rfl hc)))
end xJD3
section xJD4
variable {R τ : Type} {X : jd_X} {emb : jd_X → R → jd_Hp → State → Prop} {own nm : String} {cc : ByteArray} {nL : Nat} {ret : Option FieldType} {pc : Nat} {lv : List (Option Value)} {st : List Value} {σ : jd_Hp} {cm : Option (R × jd_Hp)} {K : τ → jd_Hp → Option (R × jd_Hp)}
/-- a reference is looked at -/
theorem jx_ck {x : Nat × Nat} {o : Option Nat} {A : Nat → Option (τ × jd_Hp)} (k : ∀ a, o = some a → σ.1[a]? = some x → jx_S X emb pc lv st σ (jd_b (A a) K)) : jx_S X emb pc lv st σ (jd_b (jd_o σ x o A) K) := by
  obtain ⟨p, l, e, s, m, args, below, meth, c, s0, G, d, mc, ms⟩ := X
  intro v σ' hv
  cases o with
  | none => simp [jd_o, jd_b] at hv
  | some a =>
    by_cases hc : σ.1[a]? = some x
    · exact k a rfl hc v σ' (by simpa [jd_o, hc] using hv)
    · simp [jd_o, hc, jd_b] at hv
/-- a place of an array is looked at -/
theorem jx_ca {kd : Nat} {o : Option Nat} {i : Int32} {A : Nat → Nat → Option (τ × jd_Hp)} (k : ∀ a n, o = some a → σ.1[a]? = some (kd, n) → vp_in i n → jx_S X emb pc lv st σ (jd_b (A a i.toNatClampNeg) K)) : jx_S X emb pc lv st σ (jd_b (jd_ia σ kd o i A) K) := by
  obtain ⟨p, l, e, s, m, args, below, meth, c, s0, G, d, mc, ms⟩ := X
  intro v σ' hv
  cases o with
  | none => simp [jd_ia, jd_b] at hv
  | some a =>
    cases hx : σ.1[a]? with
    | none => simp [jd_ia, hx, jd_b] at hv
    | some y =>
      obtain ⟨k0, n⟩ := y
      by_cases hc : k0 = kd ∧ ¬ i < 0 ∧ i.toNatClampNeg < n
      · obtain ⟨rfl, h1, h2⟩ := hc
        refine k a n rfl hx ?_ v σ' (by simpa [jd_ia, hx, h1, h2] using hv)
        rintro (q | q)
        · exact h1 q
        · omega
      · simp only [jd_ia, hx, if_neg hc, jd_b] at hv
        cases hv
theorem jx_cl {kd : Nat} {o : Option Nat} {A : Nat → Option (τ × jd_Hp)} (k : ∀ a n, o = some a → σ.1[a]? = some (kd, n) → jx_S X emb pc lv st σ (jd_b (A n) K)) : jx_S X emb pc lv st σ (jd_b (jd_ln σ kd o A) K) := by
  obtain ⟨p, l, e, s, m, args, below, meth, c, s0, G, d, mc, ms⟩ := X
  intro v σ' hv
  cases o with
  | none => simp [jd_ln, jd_b] at hv
  | some a =>
    cases hx : σ.1[a]? with
    | none => simp [jd_ln, hx, jd_b] at hv
    | some y =>
      obtain ⟨k0, n⟩ := y
      by_cases hc : k0 = kd
      · subst hc
        exact k a n rfl hx v σ' (by simpa [jd_ln, hx] using hv)
      · simp [jd_ln, hx, hc, jd_b] at hv
theorem jxd_get (hX : jd_C X own nm cc nL ret) {idx ci kf N a : Nat} {fin : Bool} {v : Value} (hf : jd_fl own idx ci kf N fin ∨ jd_fn own idx ci kf N fin) (hv : jd_fv (jd_gG X) σ a (jd_ty ci kf) kf = v) (hd : decode cc pc = .ok (.getfield idx, 3)) (ha : σ.1[a]? = some (ci, N)) (k : jx_S X emb (pc + 3) lv (v :: st) σ cm) : jx_S X emb pc lv (jd_v (jd_gG X) (some a) :: st) σ cm := by
  obtain ⟨p, l, e, s, m, args, below, meth, c, s0, G, d, mc, ms⟩ := X
  have hts : ∀ w ∈ jd_TB, w.before args s = true := jd_words hX
  obtain ⟨hx, hb, -, hown, -, -, -, hW, -, -, hF⟩ := hX
  refine jxd_rd (fun ls H locs cells slots Q _ hH w => ?_) k
  have hK : va_K G.2.1 jd_cl (jd_tys G) s := hF.2.1.moved hW.alike
  rcases hf with ⟨C, T, hc, hk, h14, -, -, hw⟩ | ⟨C, T, host, hc, hk, h14, -, -, hw⟩
  · exact va_get (ref := (T kf).1) (C := C) (T := T) (N := N) (ci := ci) (Ts := jd_TB) hx hb hts (jd_lay hc).1 hown hK (jd_P1 (hH.2.2.2 a _ _ ha (jd_e_ob h14))) 0 rfl hc kf hk (hts _ hw) (fun _ h => h) (by rw [jd_fs_get hk]; exact congrArg some hv) hd w
  · obtain ⟨A0, h0, -⟩ := hF.1
    exact va_getN (ref := (T kf).1) (C := C) (T := T) (N := N) (ci := ci) (Ts := jd_TB) hx hb hts (jd_lay hc).1 hown hK (jd_P1 (hH.2.2.2 a _ _ ha (jd_e_ob h14))) 0 rfl hc kf hk (va_Nw.use rfl (va_Nw.warmF hW (va_Nw.of rfl (h0 _ hw)))) (fun _ h => h) (by rw [jd_fs_get hk]; exact congrArg some hv) hd w
theorem jx_geti (hX : jd_C X own nm cc nL ret) {idx ci kf N a : Nat} {fin : Bool} (hf : jd_fl own idx ci kf N fin) (hy : jd_isi (jd_ty ci kf) = true) (hd : decode cc pc = .ok (.getfield idx, 3)) (ha : σ.1[a]? = some (ci, N)) (k : jx_S X emb (pc + 3) lv (.int (σ.2.1 a kf) :: st) σ cm) : jx_S X emb pc lv (jd_v (jd_gG X) (some a) :: st) σ cm := jxd_get hX (Or.inl hf) (jd_fv_i hy) hd ha k
theorem jx_getl (hX : jd_C X own nm cc nL ret) {idx ci kf N a : Nat} {fin : Bool} (hf : jd_fl own idx ci kf N fin) (hy : jd_ty ci kf = .long) (hd : decode cc pc = .ok (.getfield idx, 3)) (ha : σ.1[a]? = some (ci, N)) (k : jx_S X emb (pc + 3) lv (.long (σ.2.2.1 a kf) :: st) σ cm) : jx_S X emb pc lv (jd_v (jd_gG X) (some a) :: st) σ cm := jxd_get hX (Or.inl hf) (by rw [hy]; rfl) hd ha k
theorem jx_getr (hX : jd_C X own nm cc nL ret) {idx ci kf N a : Nat} {fin : Bool} (hf : jd_fl own idx ci kf N fin) (hy : jd_isr (jd_ty ci kf) = true) (hd : decode cc pc = .ok (.getfield idx, 3)) (ha : σ.1[a]? = some (ci, N)) (k : jx_S X emb (pc + 3) lv (jd_v (jd_gG X) (σ.2.2.2 a kf) :: st) σ cm) : jx_S X emb pc lv (jd_v (jd_gG X) (some a) :: st) σ cm := jxd_get hX (Or.inl hf) (jd_fv_r hy) hd ha k
theorem jx_getiN (hX : jd_C X own nm cc nL ret) {idx ci kf N a : Nat} {fin : Bool} (hf : jd_fn own idx ci kf N fin) (hy : jd_isi (jd_ty ci kf) = true) (hd : decode cc pc = .ok (.getfield idx, 3)) (ha : σ.1[a]? = some (ci, N)) (k : jx_S X emb (pc + 3) lv (.int (σ.2.1 a kf) :: st) σ cm) : jx_S X emb pc lv (jd_v (jd_gG X) (some a) :: st) σ cm := jxd_get hX (Or.inr hf) (jd_fv_i hy) hd ha k
theorem jx_getlN (hX : jd_C X own nm cc nL ret) {idx ci kf N a : Nat} {fin : Bool} (hf : jd_fn own idx ci kf N fin) (hy : jd_ty ci kf = .long) (hd : decode cc pc = .ok (.getfield idx, 3)) (ha : σ.1[a]? = some (ci, N)) (k : jx_S X emb (pc + 3) lv (.long (σ.2.2.1 a kf) :: st) σ cm) : jx_S X emb pc lv (jd_v (jd_gG X) (some a) :: st) σ cm := jxd_get hX (Or.inr hf) (by rw [hy]; rfl) hd ha k
theorem jx_getrN (hX : jd_C X own nm cc nL ret) {idx ci kf N a : Nat} {fin : Bool} (hf : jd_fn own idx ci kf N fin) (hy : jd_isr (jd_ty ci kf) = true) (hd : decode cc pc = .ok (.getfield idx, 3)) (ha : σ.1[a]? = some (ci, N)) (k : jx_S X emb (pc + 3) lv (jd_v (jd_gG X) (σ.2.2.2 a kf) :: st) σ cm) : jx_S X emb pc lv (jd_v (jd_gG X) (some a) :: st) σ cm := jxd_get hX (Or.inr hf) (jd_fv_r hy) hd ha k
theorem jxd_put (hX : jd_C X own nm cc nL ret) {idx ci kf N a : Nat} {fin : Bool} {v : Value} {σ1 : jd_Hp} (hf : (jd_fl own idx ci kf N fin ∧ (fin = false ∨ (nm = "<init>" ∧ ∃ C T, jd_cl[ci]? = some (C, T, N) ∧ C = own))) ∨ (jd_fn own idx ci kf N fin ∧ fin = false)) (hs : σ1.1 = σ.1) (hv : jd_fv (jd_gG X) σ1 a (jd_ty ci kf) kf = v) (hv2 : ∀ j, j ≠ kf → jd_fv (jd_gG X) σ1 a (jd_ty ci j) j = jd_fv (jd_gG X) σ a (jd_ty ci j) j) (hrest : ∀ (b : Nat) (y : Nat × Nat), b ≠ a → jd_e (jd_gG X) σ1 b y = jd_e (jd_gG X) σ b y) (hn : narrow (jd_ty ci kf) v = v) (hfit : fits (jd_ty ci kf) v = true) (hd : decode cc pc = .ok (.putfield idx, 3)) (ha : σ.1[a]? = some (ci, N)) (k : jx_S X emb (pc + 3) lv st σ1 cm) : jx_S X emb pc lv (v :: jd_v (jd_gG X) (some a) :: st) σ cm := by
  obtain ⟨p, l, e, s, m, args, below, meth, c, s0, G, d, mc, ms⟩ := X
  have hts : ∀ w ∈ jd_TB, w.before args s = true := jd_words hX
  obtain ⟨hx, hb, -, hown, -, -, hnm, hW, -, -, hF⟩ := hX
  refine jxd_wr hs (fun ls H locs cells slots Q _ hH w => ?_) k
  have hK : va_K G.2.1 jd_cl (jd_tys G) s := hF.2.1.moved hW.alike
  have h14 : ci < 14 := by
    rcases hf with ⟨⟨C, T, hc, hk, h14, -⟩, -⟩ | ⟨⟨C, T, host, hc, hk, h14, -⟩, -⟩ <;> exact h14
  have hge : G.1 ≤ G.2.2.1 a := jd_ge hF hH ha (show ci < 30 by omega)
  have hat := hH.2.2.2 a _ _ ha (jd_e_ob (G := G) (σ := σ) (a := a) (N := N) h14)
  have fin : ∀ (C : String) (T : u_T), jd_cl[ci]? = some (C, T, N) → kf < N → ∀ (H' : Heap) (cell : Cell) (f : Field), t_OB (G.2.2.1 a) (G.2.1.1 ci) N (G.2.1.2 ci) H' (updV (vp_V (jd_fs G σ a ci N)) kf v) → H'.size = H.size → (∀ q, q ≠ G.2.2.1 a → H'[q]? = H[q]?) → jd_H G σ1 H' := by
    intro C T hc hk H' cell f e1 e2 e3
    refine hH.one hF hs ha (jd_e_ob h14) (jd_e_ob h14) ⟨(C, T, N), hc, e1.to (fun j _ => ?_)⟩ e2 e3 hrest
    rw [vp_updV_set (by simp [jd_fs, hk]), jd_fs_set (G := G) (σ := σ) (σ1 := σ1) hv hv2]
  rcases hf with ⟨⟨C, T, hc, hk, -, hfin, hC, hw⟩, hor⟩ | ⟨⟨C, T, host, hc, hk, -, hfin, hC, hw⟩, hor⟩
  · obtain ⟨lay1, lay2, lay3⟩ := jd_lay hc
    have hap := va_apart (own := own) hts lay1 (jd_ty ci) lay2 lay3 hK hc
    obtain ⟨r, r1, cell, q1, q2, q3, q4⟩ := hat
    have hr : r = (C, T, N) := Option.some.inj (r1.symm.trans hc)
    subst hr
    obtain ⟨hS, hfc, kC, hkC, hkind⟩ := hK.1 ci _ hc
    obtain ⟨cf, kf', fi, f, hi, hsl⟩ := hS kf hk
    have hst := (u_facts hfc hkC (u_lays hts lay1 hk) hi).1
    have hlay := hts _ (lay1 _ (u_in_lay hk))
    unfold u_lay at hlay
    by_cases hb2 : (T kf).2.2.2 = true
    · rw [if_pos hb2] at hlay
      rcases hor with h0 | ⟨h0, C', T', hc', hC'⟩
      · rw [hfin] at hb2; rw [h0] at hb2; cases hb2
      · have : (C', T', N) = (C, T, N) := Option.some.inj (hc'.symm.trans hc)
        cases this
        have hcf : m.cls = cf := by
          obtain ⟨_, _, c', _, _, _, -, -, hf', -, -, -, hown2, -⟩ := Cond.laysFinal_spec hlay
          have e1 : c' = cf := by have := hi.symm.trans hf'; simp at this; exact this.1.symm
          rw [hC, hC'] at hown2
          rw [← e1]; exact Option.some.inj (hown.symm.trans hown2)
        have h6 := u_fits hfc hkC hkind (Or.inr hlay) hi (lay2 kf hk) hn hfit
        refine W.putFinK hx hb hown (hts _ hw) hi hst hcf (hnm.trans h0) (by rw [q2]; exact h6) q1 q3 (by rw [hsl]; exact k2_hasslot (q4 kf hk)) rfl rfl hd fun H' e1 e2 e3 => ?_
        rw [hsl] at e1
        exact w H' ⟨G.2.2.1 a, f.slot⟩ (fin C T hc hk H' cell f ⟨_, e1, q2, q3, t_set q4 hap hk v⟩ e2 e3) e2 e3 hge
    · rw [if_neg hb2] at hlay
      have h6 := u_store hfc hkC hkind hlay hi (lay2 kf hk) hn hfit
      refine W.putK hx hb (f := f) ⟨hown, hts _ hw, ⟨_, _, _, hi⟩, hst⟩ (by rw [q2]; exact h6) q1 q3 (by rw [hsl]; exact k2_hasslot (q4 kf hk)) rfl rfl hd fun H' e1 e2 e3 => ?_
      rw [hsl] at e1
      exact w H' ⟨G.2.2.1 a, f.slot⟩ (fin C T hc hk H' cell f ⟨_, e1, q2, q3, t_set q4 hap hk v⟩ e2 e3) e2 e3 hge
  · obtain ⟨lay1, lay2, lay3⟩ := jd_lay hc
    have hap := va_apart (own := own) hts lay1 (jd_ty ci) lay2 lay3 hK hc
    obtain ⟨r, r1, cell, q1, q2, q3, q4⟩ := hat
    have hr : r = (C, T, N) := Option.some.inj (r1.symm.trans hc)
    subst hr
    obtain ⟨hS, hfc, kC, hkC, hkind⟩ := hK.1 ci _ hc
    obtain ⟨cf, kf', fi, f, hi, hsl⟩ := hS kf hk
    have hst := (u_facts hfc hkC (u_lays hts lay1 hk) hi).1
    have hlay := hts _ (lay1 _ (u_in_lay hk))
    unfold u_lay at hlay
    rw [if_neg (by rw [hfin, hor]; decide)] at hlay
    have h6 := u_store hfc hkC hkind hlay hi (lay2 kf hk) hn hfit
    obtain ⟨A0, h0, -⟩ := hF.1
    refine va_WputK hx hb (f := f) hown (va_Nw.use rfl (va_Nw.warmF hW (va_Nw.of rfl (h0 _ hw)))) hi hst (by rw [q2]; exact h6) q1 q3 (by rw [hsl]; exact k2_hasslot (q4 kf hk)) rfl rfl hd fun H' e1 e2 e3 => ?_
    rw [hsl] at e1
    exact w H' ⟨G.2.2.1 a, f.slot⟩ (fin C T hc hk H' cell f ⟨_, e1, q2, q3, t_set q4 hap hk v⟩ e2 e3) e2 e3 hge

theorem jxd_pi_fv {G : jd_G} {a kf ci : Nat} {v : Int32} (hy : jd_isi (jd_ty ci kf) = true) : jd_fv G (jd_pi σ a kf v) a (jd_ty ci kf) kf = .int v := by
  rw [jd_fv_i hy]
  simp [jd_pi, jd_u]
theorem jxd_pi_fv2 {G : jd_G} {a kf ci : Nat} {v : Int32} (j : Nat) (h : j ≠ kf) : jd_fv G (jd_pi σ a kf v) a (jd_ty ci j) j = jd_fv G σ a (jd_ty ci j) j := by
  have : (jd_pi σ a kf v).2.1 a j = σ.2.1 a j := by simp [jd_pi, jd_u, h]
  simp only [jd_fv, this]
  rfl
theorem jxd_pl_fv {G : jd_G} {a kf ci : Nat} {v : Int64} (hy : jd_ty ci kf = .long) : jd_fv G (jd_pl σ a kf v) a (jd_ty ci kf) kf = .long v := by
  rw [hy]
  simp [jd_fv, jd_pl, jd_u]
theorem jxd_pl_fv2 {G : jd_G} {a kf ci : Nat} {v : Int64} (j : Nat) (h : j ≠ kf) : jd_fv G (jd_pl σ a kf v) a (jd_ty ci j) j = jd_fv G σ a (jd_ty ci j) j := by
  have : (jd_pl σ a kf v).2.2.1 a j = σ.2.2.1 a j := by simp [jd_pl, jd_u, h]
  simp only [jd_fv, this]
  rfl
theorem jxd_pr_fv {G : jd_G} {a kf ci : Nat} {v : Option Nat} (hy : jd_isr (jd_ty ci kf) = true) : jd_fv G (jd_pr σ a kf v) a (jd_ty ci kf) kf = jd_v G v := by
  rw [jd_fv_r hy]
  simp [jd_pr, jd_u]
theorem jxd_pr_fv2 {G : jd_G} {a kf ci : Nat} {v : Option Nat} (j : Nat) (h : j ≠ kf) : jd_fv G (jd_pr σ a kf v) a (jd_ty ci j) j = jd_fv G σ a (jd_ty ci j) j := by
  have : (jd_pr σ a kf v).2.2.2 a j = σ.2.2.2 a j := by simp [jd_pr, jd_u, h]
  simp only [jd_fv, this]
  rfl
theorem jxd_fit_r {G : jd_G} {ty : FieldType} {o : Option Nat} (h : jd_isr ty = true) : narrow ty (jd_v G o) = jd_v G o ∧ fits ty (jd_v G o) = true := by
  cases ty <;> first | (cases o <;> exact ⟨rfl, rfl⟩) | (simp [jd_isr] at h)
theorem jx_puti (hX : jd_C X own nm cc nL ret) {idx ci kf N a : Nat} {v : Int32} (hf : jd_fl own idx ci kf N false) (hy : jd_ty ci kf = .int) (hd : decode cc pc = .ok (.putfield idx, 3)) (ha : σ.1[a]? = some (ci, N)) (k : jx_S X emb (pc + 3) lv st (jd_pi σ a kf v) cm) : jx_S X emb pc lv (.int v :: jd_v (jd_gG X) (some a) :: st) σ cm :=
  jxd_put (σ1 := jd_pi σ a kf v) hX (Or.inl ⟨hf, Or.inl rfl⟩) rfl (jxd_pi_fv (by rw [hy]; rfl)) jxd_pi_fv2 jd_e_pi (by rw [hy]; rfl) (by rw [hy]; rfl) hd ha k
theorem jx_putiN (hX : jd_C X own nm cc nL ret) {idx ci kf N a : Nat} {v : Int32} (hf : jd_fn own idx ci kf N false) (hy : jd_ty ci kf = .int) (hd : decode cc pc = .ok (.putfield idx, 3)) (ha : σ.1[a]? = some (ci, N)) (k : jx_S X emb (pc + 3) lv st (jd_pi σ a kf v) cm) : jx_S X emb pc lv (.int v :: jd_v (jd_gG X) (some a) :: st) σ cm :=
  jxd_put (σ1 := jd_pi σ a kf v) hX (Or.inr ⟨hf, rfl⟩) rfl (jxd_pi_fv (by rw [hy]; rfl)) jxd_pi_fv2 jd_e_pi (by rw [hy]; rfl) (by rw [hy]; rfl) hd ha k
theorem jx_putz (hX : jd_C X own nm cc nL ret) {idx ci kf N a : Nat} {v : Int32} (hf : jd_fl own idx ci kf N false) (hy : jd_ty ci kf = .boolean) (hv : v = 0 ∨ v = 1) (hd : decode cc pc = .ok (.putfield idx, 3)) (ha : σ.1[a]? = some (ci, N)) (k : jx_S X emb (pc + 3) lv st (jd_pi σ a kf v) cm) : jx_S X emb pc lv (.int v :: jd_v (jd_gG X) (some a) :: st) σ cm :=
  jxd_put (σ1 := jd_pi σ a kf v) hX (Or.inl ⟨hf, Or.inl rfl⟩) rfl (jxd_pi_fv (by rw [hy]; rfl)) jxd_pi_fv2 jd_e_pi (by rw [hy]; rcases hv with rfl | rfl <;> decide) (by rw [hy]; rcases hv with rfl | rfl <;> decide) hd ha k
theorem jx_putl (hX : jd_C X own nm cc nL ret) {idx ci kf N a : Nat} {v : Int64} (hf : jd_fl own idx ci kf N false) (hy : jd_ty ci kf = .long) (hd : decode cc pc = .ok (.putfield idx, 3)) (ha : σ.1[a]? = some (ci, N)) (k : jx_S X emb (pc + 3) lv st (jd_pl σ a kf v) cm) : jx_S X emb pc lv (.long v :: jd_v (jd_gG X) (some a) :: st) σ cm :=
  jxd_put (σ1 := jd_pl σ a kf v) hX (Or.inl ⟨hf, Or.inl rfl⟩) rfl (jxd_pl_fv hy) jxd_pl_fv2 jd_e_pl (by rw [hy]; rfl) (by rw [hy]; rfl) hd ha k
theorem jx_putr (hX : jd_C X own nm cc nL ret) {idx ci kf N a : Nat} {o : Option Nat} (hf : jd_fl own idx ci kf N false) (hy : jd_isr (jd_ty ci kf) = true) (hd : decode cc pc = .ok (.putfield idx, 3)) (ha : σ.1[a]? = some (ci, N)) (k : jx_S X emb (pc + 3) lv st (jd_pr σ a kf o) cm) : jx_S X emb pc lv (jd_v (jd_gG X) o :: jd_v (jd_gG X) (some a) :: st) σ cm :=
  jxd_put (σ1 := jd_pr σ a kf o) hX (Or.inl ⟨hf, Or.inl rfl⟩) rfl (jxd_pr_fv hy) jxd_pr_fv2 jd_e_pr (jxd_fit_r hy).1 (jxd_fit_r hy).2 hd ha k
theorem jx_putrF (hX : jd_C X own nm cc nL ret) {idx ci kf N a : Nat} {o : Option Nat} (hf : jd_fl own idx ci kf N true) (hin : nm = "<init>") (hown : ∃ C T, jd_cl[ci]? = some (C, T, N) ∧ C = own) (hy : jd_isr (jd_ty ci kf) = true) (hd : decode cc pc = .ok (.putfield idx, 3)) (ha : σ.1[a]? = some (ci, N)) (k : jx_S X emb (pc + 3) lv st (jd_pr σ a kf o) cm) : jx_S X emb pc lv (jd_v (jd_gG X) o :: jd_v (jd_gG X) (some a) :: st) σ cm :=
  jxd_put (σ1 := jd_pr σ a kf o) hX (Or.inl ⟨hf, Or.inr ⟨hin, hown⟩⟩) rfl (jxd_pr_fv hy) jxd_pr_fv2 jd_e_pr (jxd_fit_r hy).1 (jxd_fit_r hy).2 hd ha k

theorem jx_iald (hX : jd_C X own nm cc nL ret) {a n : Nat} {i : Int32} (hd : decode cc pc = .ok (.iaload, 1)) (ha : σ.1[a]? = some (20, n)) (hi : vp_in i n) (k : jx_S X emb (pc + 1) lv (.int (σ.2.1 a i.toNatClampNeg) :: st) σ cm) : jx_S X emb pc lv (.int i :: jd_v (jd_gG X) (some a) :: st) σ cm := by
  obtain ⟨p, l, e, s, m, args, below, meth, c, s0, G, d, mc, ms⟩ := X
  obtain ⟨hx, hb, -, hown, -, -, -, hW, -, -, hF⟩ := hX
  refine jxd_rd (fun ls H locs cells slots Q _ hH w => ?_) k
  exact va_iald (cl := jd_cl) (tys := jd_tys G) hx hb (hF.2.1.moved hW.alike) (jd_P1 (hH.2.2.2 a _ _ ha rfl)) 0 0 rfl rfl hi hd w
theorem jx_bald (hX : jd_C X own nm cc nL ret) {a n : Nat} {i : Int32} (hd : decode cc pc = .ok (.baload, 1)) (ha : σ.1[a]? = some (21, n)) (hi : vp_in i n) (k : jx_S X emb (pc + 1) lv (.int (σ.2.1 a i.toNatClampNeg) :: st) σ cm) : jx_S X emb pc lv (.int i :: jd_v (jd_gG X) (some a) :: st) σ cm := by
  obtain ⟨p, l, e, s, m, args, below, meth, c, s0, G, d, mc, ms⟩ := X
  obtain ⟨hx, hb, -, hown, -, -, -, hW, -, -, hF⟩ := hX
  refine jxd_rd (fun ls H locs cells slots Q _ hH w => ?_) k
  exact va_bald (cl := jd_cl) (tys := jd_tys G) hx hb (hF.2.1.moved hW.alike) (jd_P1 (hH.2.2.2 a _ _ ha rfl)) 0 1 rfl rfl hi hd w
theorem jx_zald (hX : jd_C X own nm cc nL ret) {a n : Nat} {i : Int32} (hd : decode cc pc = .ok (.baload, 1)) (ha : σ.1[a]? = some (22, n)) (hi : vp_in i n) (k : jx_S X emb (pc + 1) lv (.int (σ.2.1 a i.toNatClampNeg) :: st) σ cm) : jx_S X emb pc lv (.int i :: jd_v (jd_gG X) (some a) :: st) σ cm := by
  obtain ⟨p, l, e, s, m, args, below, meth, c, s0, G, d, mc, ms⟩ := X
  obtain ⟨hx, hb, -, hown, -, -, -, hW, -, -, hF⟩ := hX
  refine jxd_rd (fun ls H locs cells slots Q _ hH w => ?_) k
  exact va_zald (cl := jd_cl) (tys := jd_tys G) hx hb (hF.2.1.moved hW.alike) (jd_P1 (hH.2.2.2 a _ _ ha rfl)) 0 2 rfl rfl hi hd w
theorem jx_lald (hX : jd_C X own nm cc nL ret) {a n : Nat} {i : Int32} (hd : decode cc pc = .ok (.laload, 1)) (ha : σ.1[a]? = some (23, n)) (hi : vp_in i n) (k : jx_S X emb (pc + 1) lv (.long (σ.2.2.1 a i.toNatClampNeg) :: st) σ cm) : jx_S X emb pc lv (.int i :: jd_v (jd_gG X) (some a) :: st) σ cm := by
  obtain ⟨p, l, e, s, m, args, below, meth, c, s0, G, d, mc, ms⟩ := X
  obtain ⟨hx, hb, -, hown, -, -, -, hW, -, -, hF⟩ := hX
  refine jxd_rd (fun ls H locs cells slots Q _ hH w => ?_) k
  exact va_lald (cl := jd_cl) (tys := jd_tys G) hx hb (hF.2.1.moved hW.alike) (jd_P1 (hH.2.2.2 a _ _ ha rfl)) 0 3 rfl rfl hi hd w
theorem jx_aald (hX : jd_C X own nm cc nL ret) {a n : Nat} {i : Int32} (hd : decode cc pc = .ok (.aaload, 1)) (ha : σ.1[a]? = some (24, n)) (hi : vp_in i n) (k : jx_S X emb (pc + 1) lv (jd_v (jd_gG X) (σ.2.2.2 a i.toNatClampNeg) :: st) σ cm) : jx_S X emb pc lv (.int i :: jd_v (jd_gG X) (some a) :: st) σ cm := by
  obtain ⟨p, l, e, s, m, args, below, meth, c, s0, G, d, mc, ms⟩ := X
  obtain ⟨hx, hb, -, hown, -, -, -, hW, -, -, hF⟩ := hX
  refine jxd_rd (fun ls H locs cells slots Q _ hH w => ?_) k
  exact va_aldq (cl := jd_cl) (tys := jd_tys G) hx hb (hF.2.1.moved hW.alike) (jd_P1 (hH.2.2.2 a _ _ ha rfl)) 0 4 rfl rfl hi hd w
theorem jx_alen20 (hX : jd_C X own nm cc nL ret) {a n : Nat} (hd : decode cc pc = .ok (.arraylength, 1)) (ha : σ.1[a]? = some (20, n)) (k : jx_S X emb (pc + 1) lv (.int (Int32.ofNat n) :: st) σ cm) : jx_S X emb pc lv (jd_v (jd_gG X) (some a) :: st) σ cm := by
  obtain ⟨p, l, e, s, m, args, below, meth, c, s0, G, d, mc, ms⟩ := X
  obtain ⟨hx, hb, -, hown, -, -, -, hW, -, -, hF⟩ := hX
  refine jxd_rd (fun ls H locs cells slots Q _ hH w => ?_) k
  exact va_alen (cl := jd_cl) (tys := jd_tys G) hx hb (hF.2.1.moved hW.alike) (jd_P1 (hH.2.2.2 a _ _ ha rfl)) 0 0 rfl rfl rfl hd w
theorem jx_alen21 (hX : jd_C X own nm cc nL ret) {a n : Nat} (hd : decode cc pc = .ok (.arraylength, 1)) (ha : σ.1[a]? = some (21, n)) (k : jx_S X emb (pc + 1) lv (.int (Int32.ofNat n) :: st) σ cm) : jx_S X emb pc lv (jd_v (jd_gG X) (some a) :: st) σ cm := by
  obtain ⟨p, l, e, s, m, args, below, meth, c, s0, G, d, mc, ms⟩ := X
  obtain ⟨hx, hb, -, hown, -, -, -, hW, -, -, hF⟩ := hX
  refine jxd_rd (fun ls H locs cells slots Q _ hH w => ?_) k
  exact va_alen (cl := jd_cl) (tys := jd_tys G) hx hb (hF.2.1.moved hW.alike) (jd_P1 (hH.2.2.2 a _ _ ha rfl)) 0 1 rfl rfl rfl hd w
theorem jx_alen22 (hX : jd_C X own nm cc nL ret) {a n : Nat} (hd : decode cc pc = .ok (.arraylength, 1)) (ha : σ.1[a]? = some (22, n)) (k : jx_S X emb (pc + 1) lv (.int (Int32.ofNat n) :: st) σ cm) : jx_S X emb pc lv (jd_v (jd_gG X) (some a) :: st) σ cm := by
  obtain ⟨p, l, e, s, m, args, below, meth, c, s0, G, d, mc, ms⟩ := X
  obtain ⟨hx, hb, -, hown, -, -, -, hW, -, -, hF⟩ := hX
  refine jxd_rd (fun ls H locs cells slots Q _ hH w => ?_) k
  exact va_alen (cl := jd_cl) (tys := jd_tys G) hx hb (hF.2.1.moved hW.alike) (jd_P1 (hH.2.2.2 a _ _ ha rfl)) 0 2 rfl rfl rfl hd w
theorem jx_alen23 (hX : jd_C X own nm cc nL ret) {a n : Nat} (hd : decode cc pc = .ok (.arraylength, 1)) (ha : σ.1[a]? = some (23, n)) (k : jx_S X emb (pc + 1) lv (.int (Int32.ofNat n) :: st) σ cm) : jx_S X emb pc lv (jd_v (jd_gG X) (some a) :: st) σ cm := by
  obtain ⟨p, l, e, s, m, args, below, meth, c, s0, G, d, mc, ms⟩ := X
  obtain ⟨hx, hb, -, hown, -, -, -, hW, -, -, hF⟩ := hX
  refine jxd_rd (fun ls H locs cells slots Q _ hH w => ?_) k
  exact va_alen (cl := jd_cl) (tys := jd_tys G) hx hb (hF.2.1.moved hW.alike) (jd_P1 (hH.2.2.2 a _ _ ha rfl)) 0 3 rfl rfl rfl hd w
theorem jx_alen24 (hX : jd_C X own nm cc nL ret) {a n : Nat} (hd : decode cc pc = .ok (.arraylength, 1)) (ha : σ.1[a]? = some (24, n)) (k : jx_S X emb (pc + 1) lv (.int (Int32.ofNat n) :: st) σ cm) : jx_S X emb pc lv (jd_v (jd_gG X) (some a) :: st) σ cm := by
  obtain ⟨p, l, e, s, m, args, below, meth, c, s0, G, d, mc, ms⟩ := X
  obtain ⟨hx, hb, -, hown, -, -, -, hW, -, -, hF⟩ := hX
  refine jxd_rd (fun ls H locs cells slots Q _ hH w => ?_) k
  exact va_alen (cl := jd_cl) (tys := jd_tys G) hx hb (hF.2.1.moved hW.alike) (jd_P1 (hH.2.2.2 a _ _ ha rfl)) 0 4 rfl rfl rfl hd w
theorem jx_iast (hX : jd_C X own nm cc nL ret) {a n : Nat} {i : Int32} {x : Int32} (hd : decode cc pc = .ok (.iastore, 1)) (ha : σ.1[a]? = some (20, n)) (hi : vp_in i n) (k : jx_S X emb (pc + 1) lv st (jd_pi σ a i.toNatClampNeg (x)) cm) : jx_S X emb pc lv (.int x :: .int i :: jd_v (jd_gG X) (some a) :: st) σ cm := by
  obtain ⟨p, l, e, s, m, args, below, meth, c, s0, G, d, mc, ms⟩ := X
  obtain ⟨hx, hb, -, hown, -, -, -, hW, -, -, hF⟩ := hX
  refine jxd_wr (σ1 := jd_pi σ a i.toNatClampNeg (x)) rfl (fun ls H locs cells slots Q _ hH w => ?_) k
  have hK : va_K G.2.1 jd_cl (jd_tys G) s := hF.2.1.moved hW.alike
  have hat : H[G.2.2.1 a]? = some (vp_cell _ _) := hH.2.2.2 a _ _ ha rfl
  refine W.iast hx hb hat ((hK.2 0 _ rfl).1 n (fun j => .int (σ.2.1 a j))) (fun q => by cases q) (by show ¬ (i < 0 ∨ (arrV _ _ _).slots.size ≤ _); rw [arrV_size]; exact hi) rfl rfl hd fun H1 e z oq => ?_
  refine w H1 ⟨G.2.2.1 a, i.toNatClampNeg⟩ (hH.one hF rfl ha rfl rfl ?_ z oq jd_e_pi) z oq (jd_ge hF hH ha (show 20 < 30 by decide))
  show H1[G.2.2.1 a]? = some (vp_cell _ _)
  rw [e]
  rw [vp_cell_i, vp_cell_i, arrV_store]
  congr 2
  funext q
  by_cases hq : q = i.toNatClampNeg
  · subst hq
    simp [updV, jd_pi, jd_u]
    try rfl
  · simp [updV, jd_pi, jd_u, hq]
theorem jx_bast (hX : jd_C X own nm cc nL ret) {a n : Nat} {i : Int32} {x : Int32} (hd : decode cc pc = .ok (.bastore, 1)) (ha : σ.1[a]? = some (21, n)) (hi : vp_in i n) (k : jx_S X emb (pc + 1) lv st (jd_pi σ a i.toNatClampNeg (vp_nar .byte x)) cm) : jx_S X emb pc lv (.int x :: .int i :: jd_v (jd_gG X) (some a) :: st) σ cm := by
  obtain ⟨p, l, e, s, m, args, below, meth, c, s0, G, d, mc, ms⟩ := X
  obtain ⟨hx, hb, -, hown, -, -, -, hW, -, -, hF⟩ := hX
  refine jxd_wr (σ1 := jd_pi σ a i.toNatClampNeg (vp_nar .byte x)) rfl (fun ls H locs cells slots Q _ hH w => ?_) k
  have hK : va_K G.2.1 jd_cl (jd_tys G) s := hF.2.1.moved hW.alike
  have hat : H[G.2.2.1 a]? = some (vp_cell _ _) := hH.2.2.2 a _ _ ha rfl
  refine W.bast hx hb hat ((hK.2 1 _ rfl).1 n (fun j => .int (σ.2.1 a j))) (fun q => by cases q) (by show ¬ (i < 0 ∨ (arrV _ _ _).slots.size ≤ _); rw [arrV_size]; exact hi) rfl rfl hd fun H1 e z oq => ?_
  refine w H1 ⟨G.2.2.1 a, i.toNatClampNeg⟩ (hH.one hF rfl ha rfl rfl ?_ z oq jd_e_pi) z oq (jd_ge hF hH ha (show 21 < 30 by decide))
  show H1[G.2.2.1 a]? = some (vp_cell _ _)
  rw [e]
  rw [vp_cell_i, vp_cell_i, arrV_store]
  congr 2
  funext q
  by_cases hq : q = i.toNatClampNeg
  · subst hq
    simp [updV, jd_pi, jd_u, vp_nar]
    try rfl
  · simp [updV, jd_pi, jd_u, hq]
theorem jx_zast (hX : jd_C X own nm cc nL ret) {a n : Nat} {i : Int32} {x : Int32} (hd : decode cc pc = .ok (.bastore, 1)) (ha : σ.1[a]? = some (22, n)) (hi : vp_in i n) (k : jx_S X emb (pc + 1) lv st (jd_pi σ a i.toNatClampNeg (vp_nar .boolean x)) cm) : jx_S X emb pc lv (.int x :: .int i :: jd_v (jd_gG X) (some a) :: st) σ cm := by
  obtain ⟨p, l, e, s, m, args, below, meth, c, s0, G, d, mc, ms⟩ := X
  obtain ⟨hx, hb, -, hown, -, -, -, hW, -, -, hF⟩ := hX
  refine jxd_wr (σ1 := jd_pi σ a i.toNatClampNeg (vp_nar .boolean x)) rfl (fun ls H locs cells slots Q _ hH w => ?_) k
  have hK : va_K G.2.1 jd_cl (jd_tys G) s := hF.2.1.moved hW.alike
  have hat : H[G.2.2.1 a]? = some (vp_cell _ _) := hH.2.2.2 a _ _ ha rfl
  refine W.zast hx hb hat ((hK.2 2 _ rfl).1 n (fun j => .int (σ.2.1 a j))) (fun q => by cases q) (by show ¬ (i < 0 ∨ (arrV _ _ _).slots.size ≤ _); rw [arrV_size]; exact hi) rfl rfl hd fun H1 e z oq => ?_
  refine w H1 ⟨G.2.2.1 a, i.toNatClampNeg⟩ (hH.one hF rfl ha rfl rfl ?_ z oq jd_e_pi) z oq (jd_ge hF hH ha (show 22 < 30 by decide))
  show H1[G.2.2.1 a]? = some (vp_cell _ _)
  rw [e]
  rw [vp_cell_i, vp_cell_i, arrV_store]
  congr 2
  funext q
  by_cases hq : q = i.toNatClampNeg
  · subst hq
    simp [updV, jd_pi, jd_u, vp_nar]
    try rfl
  · simp [updV, jd_pi, jd_u, hq]
theorem jx_last (hX : jd_C X own nm cc nL ret) {a n : Nat} {i : Int32} {x : Int64} (hd : decode cc pc = .ok (.lastore, 1)) (ha : σ.1[a]? = some (23, n)) (hi : vp_in i n) (k : jx_S X emb (pc + 1) lv st (jd_pl σ a i.toNatClampNeg (x)) cm) : jx_S X emb pc lv (.long x :: .int i :: jd_v (jd_gG X) (some a) :: st) σ cm := by
  obtain ⟨p, l, e, s, m, args, below, meth, c, s0, G, d, mc, ms⟩ := X
  obtain ⟨hx, hb, -, hown, -, -, -, hW, -, -, hF⟩ := hX
  refine jxd_wr (σ1 := jd_pl σ a i.toNatClampNeg (x)) rfl (fun ls H locs cells slots Q _ hH w => ?_) k
  have hK : va_K G.2.1 jd_cl (jd_tys G) s := hF.2.1.moved hW.alike
  have hat : H[G.2.2.1 a]? = some (vp_cell _ _) := hH.2.2.2 a _ _ ha rfl
  refine W.last hx hb hat ((hK.2 3 _ rfl).1 n (fun j => .long (σ.2.2.1 a j))) (fun q => by cases q) (by show ¬ (i < 0 ∨ (arrV _ _ _).slots.size ≤ _); rw [arrV_size]; exact hi) rfl rfl hd fun H1 e z oq => ?_
  refine w H1 ⟨G.2.2.1 a, i.toNatClampNeg⟩ (hH.one hF rfl ha rfl rfl ?_ z oq jd_e_pl) z oq (jd_ge hF hH ha (show 23 < 30 by decide))
  show H1[G.2.2.1 a]? = some (vp_cell _ _)
  rw [e]
  rw [vp_cell_l, vp_cell_l, arrV_store]
  congr 2
  funext q
  by_cases hq : q = i.toNatClampNeg
  · subst hq
    simp [updV, jd_pl, jd_u]
    try rfl
  · simp [updV, jd_pl, jd_u, hq]
end xJD4
section xJD6
variable {R R' τ : Type} {X : jd_X} {emb : jd_X → R → jd_Hp → State → Prop} {emb' : R' → Option Value} {own nm : String} {cc : ByteArray} {nL : Nat} {ret : Option FieldType} {pc : Nat} {lv : List (Option Value)} {st rest : List Value} {σ : jd_Hp} {cm : Option (R × jd_Hp)} {K : τ → jd_Hp → Option (R × jd_Hp)} {A : R' → jd_Hp → Option (τ × jd_Hp)} {c1 : Option (R' × jd_Hp)} {y : MethodName} {cc' : ByteArray} {nL' d' : Nat} {ret' : Option FieldType} {av : List Value}
/-- what a call needs and gives, whatever its kind -/
theorem jxd_call (hX : jd_C X own nm cc nL ret) (hcode : Cond.code y cc' nL' ret' ∈ jd_TB) (hM : jd_M (jd_gl X) (jd_gs X) (jd_gG X) y cc' nL' ret' d' emb' av σ c1) (hdd : d' + 1 ≤ jd_dp X) (hnl : nL' ≤ 45)
    (h : match X with
      | (p, l, e, s, m, args, below, meth, c, s0, G, d, mc, ms) => ∀ (mc1 ms1 : Nat) (Qc : Array Value → State → Outcome → State → Prop) (ls : Array Slot) (H : Heap) (locs : List Loc) (cells slots : Nat), Met l y [.code y cc' nL' ret'] (jd_rm d' mc1 ms1) (jd_Pc s0 G av σ) Qc mc1 ms1 (fun q => G.1 ≤ q) → jd_L ls c.maxLocals lv → jd_H G σ H → (∀ U : State, U.heap = H → s.WarmedH U.vm → jd_Pc s0 G av σ av.toArray U) → (∀ w ∈ [Cond.code y cc' nL' ret'], ∀ (a' : Array Value) (U : State), s.WarmedH U.vm → w.before a' U = true) → (∀ w ∈ jd_TB, w.before args s = true) → cells + mc1 ≤ mc → slots + ms1 ≤ ms → d' + 1 ≤ d → 8 + (nL' + 11) + 64 * d' ≤ 64 * d → va_Run p l e (jd_rm d mc ms) s m args below meth c H locs cells slots mc1 ms1 (F0 m pc ls st) rest (Qc av.toArray) (fun q => G.1 ≤ q))
    (k : ∀ r σ1, jd_p σ σ1 → jx_S X emb (pc + 3) lv ((emb' r).toList ++ rest) σ1 (jd_b (A r σ1) K)) : jx_S X emb pc lv st σ (jd_b (jd_b c1 A) K) := by
  have hts := jd_words hX
  revert hts
  obtain ⟨p, l, e, s, m, args, below, meth, c, s0, G, d, mc, ms⟩ := X
  intro hts
  have hts : ∀ w ∈ jd_TB, w.before args s = true := hts
  intro v σ' hv
  rw [jd_b_b] at hv
  cases hc1 : c1 with
  | none => rw [hc1] at hv; cases hv
  | some x =>
    obtain ⟨r, σ1⟩ := x
    rw [hc1] at hv
    have hv : jd_b (A r σ1) K = some (v, σ') := hv
    obtain ⟨hM1, hM2⟩ := hM r σ1 hc1
    obtain ⟨hx, hb, hml, hown, hret, hlk, hnm, hW, hge, hold, hF⟩ := hX
    have hdd : d' + 1 ≤ d := hdd
    have hcw : (Cond.code y cc' nL' ret').before args s = true := hts _ hcode
    obtain ⟨m', hm'⟩ := Cond.code_named hcw
    obtain ⟨meth', c', g1, g2, g3, g4, g5, g6, -, -⟩ := Cond.code_spec hm' hcw
    have hp : jd_p σ σ1 := hM1 (p, l, e, s, m', args, below, meth', c', s0, G, d', 0, 0) rfl ⟨hx, g3, g4, findClass_of_methodNamed hm', g5, g6, (name_of_methodNamed hm' g1).1, hW, hge, hold, hF⟩
    obtain ⟨h1, h2⟩ := k r σ1 hp v σ' hv
    refine ⟨hp.tr h1, fun ls H locs cells slots a b cS dd f => ?_⟩
    have l1 := hp.len
    have z1 := hp.z
    have l2 := h1.len
    have z2 := h1.z
    have hB : G.1 ≤ H.size := by
      have q1 : 32 ≤ σ.1.length := b.1
      have q2 : H.size + 32 = G.1 + σ.1.length := b.2.1
      omega
    have hrun := h _ _ _ ls H locs cells slots hM2 a b (fun U hU hWU => ⟨rfl, hW.trans hWU, by rw [hU]; exact hB, fun q hq => by
        rw [hU, cS.2.1 q (Nat.lt_of_lt_of_le hq hge) (fun z => absurd z (Nat.not_le.mpr hq))]
        exact hold q hq, by rw [hU]; exact b⟩) (fun w hw a' U hWU => by
        have : w = Cond.code y cc' nL' ret' := List.mem_singleton.mp hw
        subst this
        exact word_at hWU (good_of_word (List.mem_filter.mp hcode).2) hcw) hts (by omega) (by omega) hdd (by omega)
    intro T hT XT
    obtain ⟨v0, st₀, t, T', L, q0, X', hL, e1, e2, ⟨ho, hH1, hz, hk⟩, stp⟩ := hrun T hT XT
    cases ho
    rw [q0] at hz hk
    obtain ⟨t2, a1, b1⟩ := h2 ls T'.heap (locs ++ L) (cells + (σ1.1.length - σ.1.length)) (slots + (jd_z σ1 - jd_z σ)) a (by rw [e1]; exact hH1)
      ⟨Nat.le_trans cS.1 (by rw [e1]; exact hz), fun q g1 g2 => by
        rw [e1, hk q (Nat.lt_of_lt_of_le g1 cS.1) g2]
        exact cS.2.1 q g1 g2, fun q hq => by
        rcases List.mem_append.mp hq with h | h
        · exact cS.2.2 q h
        · exact hL q h⟩ (by omega) (by omega) T' rfl X'
    exact ⟨t2, stp t2 a1, b1⟩
/-- a virtual call -/
theorem jxd_cV (hX : jd_C X own nm cc nL ret) {idx a ci N : Nat} {As : List Value} (hf : jd_mv own idx ci N y cc' nL' ret' As.length) (hM : jd_M (jd_gl X) (jd_gs X) (jd_gG X) y cc' nL' ret' d' emb' (jd_v (jd_gG X) (some a) :: As) σ c1) (hdd : d' + 1 ≤ jd_dp X) (hr : (rest.map fun v => v.category).sum ≤ 8) (hd : decode cc pc = .ok (.invokevirtual idx, 3)) (ha : σ.1[a]? = some (ci, N)) (hst : st = As.reverse ++ jd_v (jd_gG X) (some a) :: rest)
    (k : ∀ r σ1, jd_p σ σ1 → jx_S X emb (pc + 3) lv ((emb' r).toList ++ rest) σ1 (jd_b (A r σ1) K)) : jx_S X emb pc lv st σ (jd_b (jd_b c1 A) K) := by
  obtain ⟨C, T, hc, h14, hyC, hlk, w1, w2, w3, w4, hds, hnl⟩ := hf
  refine jxd_call hX w4 hM hdd hnl ?_ k
  obtain ⟨p, l, e, s, m, args, below, meth, c, s0, G, d, mc, ms⟩ := X
  intro mc1 ms1 Qc ls H locs cells slots hMet hL hH hPc hws hts hc1 hs1 hd1 hd2
  obtain ⟨hx, hb, hml, hown, hret, hlk2, hnm, hW, hge, hold, hF⟩ := hX
  have hK : va_K G.2.1 jd_cl (jd_tys G) s := hF.2.1.moved hW.alike
  have hrecv := va_recv hK (jd_P1 (hH.2.2.2 a _ _ ha (jd_e_ob h14))) hc (q0 := 0) rfl
  have hlen : ∀ sig, parseMethodDescriptor y.desc = some sig → As.length = sig.parameters.length := fun sig h => by
    have h2 := hds.2.2
    rw [h] at h2
    exact (Option.some.inj h2).symm
  subst hyC
  have hpre : PreV s H y.cls (G.2.2.1 a) (jd_Pc s0 G (jd_v G (some a) :: As) σ) As := ⟨jd_blind, hrecv, hPc⟩
  have hW8 : 2 * (F0 m pc ls st).monitorRoom + (rest.map fun v => v.category).sum ≤ 8 := lv_room hr
  rcases hlk with hlk | ⟨host, hlk⟩
  · exact va_runV (g := F0 m pc ls st) (As := As) (n := As.length) (nL := nL) (Ts := jd_TB) ⟨hx, hb, hml, hown, hts⟩ hMet ⟨⟨rfl, rfl, hd1, hd2, hws, List.mem_singleton.mpr rfl, hts _ w4, hts _ w3, ⟨hds.1, hds.2.1⟩, hlen, hts _ hlk⟩, hts _ w1, hts _ w2⟩ hpre rfl rfl (hL.2.1.trans hml) hst hW8 hd ⟨hc1, hs1⟩
  · obtain ⟨A0, h0, -⟩ := hF.1
    exact va_runVN (g := F0 m pc ls st) (As := As) (n := As.length) (nL := nL) (Ts := jd_TB) (host := host) ⟨hx, hb, hml, hown, hts⟩ hMet ⟨⟨⟨rfl, rfl, hd1, hd2, hws, List.mem_singleton.mpr rfl⟩, hts _ w4, hts _ w3, ⟨hds.1, hds.2.1⟩, hlen, va_Nw.use rfl (va_Nw.warmM hW (va_Nw.of rfl (h0 _ hlk)))⟩, hts _ w1, hts _ w2⟩ hpre rfl rfl (hL.2.1.trans hml) hst hW8 hd ⟨hc1, hs1⟩
theorem jxd_cS (hX : jd_C X own nm cc nL ret) {idx : Nat} {As : List Value} (hf : jd_st own idx y cc' nL' ret' As.length) (hM : jd_M (jd_gl X) (jd_gs X) (jd_gG X) y cc' nL' ret' d' emb' As σ c1) (hdd : d' + 1 ≤ jd_dp X) (hr : (rest.map fun v => v.category).sum ≤ 8) (hd : decode cc pc = .ok (.invokestatic idx, 3)) (hst : st = As.reverse ++ rest)
    (k : ∀ r σ1, jd_p σ σ1 → jx_S X emb (pc + 3) lv ((emb' r).toList ++ rest) σ1 (jd_b (A r σ1) K)) : jx_S X emb pc lv st σ (jd_b (jd_b c1 A) K) := by
  obtain ⟨hlk, w1, w3, w4, hds, hnl⟩ := hf
  refine jxd_call hX w4 hM hdd hnl ?_ k
  obtain ⟨p, l, e, s, m, args, below, meth, c, s0, G, d, mc, ms⟩ := X
  intro mc1 ms1 Qc ls H locs cells slots hMet hL hH hPc hws hts hc1 hs1 hd1 hd2
  obtain ⟨hx, hb, hml, hown, hret, hlk2, hnm, hW, hge, hold, hF⟩ := hX
  have hlen : ∀ sig, parseMethodDescriptor y.desc = some sig → As.length = sig.parameters.length := fun sig h => by
    have h2 := hds.2.2
    rw [h] at h2
    exact (Option.some.inj h2).symm
  have hW8 : 2 * (F0 m pc ls st).monitorRoom + (rest.map fun v => v.category).sum ≤ 8 := lv_room hr
  rcases hlk with hlk | ⟨host, hlk⟩
  · exact va_runS (g := F0 m pc ls st) (As := As) (n := As.length) (nL := nL) (Ts := jd_TB) ⟨hx, hb, hml, hown, hts⟩ hMet ⟨⟨rfl, rfl, hd1, hd2, hws, List.mem_singleton.mpr rfl, hts _ w4, hts _ w3, ⟨hds.1, hds.2.1⟩, hlen, hts _ hlk⟩, hts _ w1⟩ ⟨jd_blind, hPc⟩ rfl rfl (hL.2.1.trans hml) hst hW8 hd ⟨hc1, hs1⟩
  · obtain ⟨A0, h0, -⟩ := hF.1
    exact va_runSN (g := F0 m pc ls st) (As := As) (n := As.length) (nL := nL) (Ts := jd_TB) (host := host) ⟨hx, hb, hml, hown, hts⟩ hMet ⟨⟨⟨rfl, rfl, hd1, hd2, hws, List.mem_singleton.mpr rfl⟩, hts _ w4, hts _ w3, ⟨hds.1, hds.2.1⟩, hlen, va_Nw.use rfl (va_Nw.warmM hW (va_Nw.of rfl (h0 _ hlk)))⟩, hts _ w1, trivial⟩ ⟨jd_blind, hPc⟩ rfl rfl (hL.2.1.trans hml) hst hW8 hd ⟨hc1, hs1⟩
theorem jxd_cI (hX : jd_C X own nm cc nL ret) {idx a : Nat} {As : List Value} (hf : jd_sp own idx y cc' nL' As.length) (hM : jd_M (jd_gl X) (jd_gs X) (jd_gG X) y cc' nL' none d' emb' (jd_v (jd_gG X) (some a) :: As) σ c1) (hdd : d' + 1 ≤ jd_dp X) (hr : (rest.map fun v => v.category).sum ≤ 8) (hd : decode cc pc = .ok (.invokespecial idx, 3)) (hst : st = As.reverse ++ jd_v (jd_gG X) (some a) :: rest)
    (k : ∀ r σ1, jd_p σ σ1 → jx_S X emb (pc + 3) lv ((emb' r).toList ++ rest) σ1 (jd_b (A r σ1) K)) : jx_S X emb pc lv st σ (jd_b (jd_b c1 A) K) := by
  obtain ⟨hlk, w1, w3, w4, hds, hnl, hin⟩ := hf
  refine jxd_call hX w4 hM hdd hnl ?_ k
  obtain ⟨p, l, e, s, m, args, below, meth, c, s0, G, d, mc, ms⟩ := X
  intro mc1 ms1 Qc ls H locs cells slots hMet hL hH hPc hws hts hc1 hs1 hd1 hd2
  obtain ⟨hx, hb, hml, hown, hret, hlk2, hnm, hW, hge, hold, hF⟩ := hX
  have hlen : ∀ sig, parseMethodDescriptor y.desc = some sig → As.length = sig.parameters.length := fun sig h => by
    have h2 := hds.2.2
    rw [h] at h2
    exact (Option.some.inj h2).symm
  have hW8 : 2 * (F0 m pc ls st).monitorRoom + (rest.map fun v => v.category).sum ≤ 8 := lv_room hr
  rcases hlk with hlk | ⟨host, hlk⟩
  · exact va_runI (g := F0 m pc ls st) (As := As) (b := G.2.2.1 a) (n := As.length) (nL := nL) (Ts := jd_TB) ⟨hx, hb, hml, hown, hts⟩ hMet ⟨⟨rfl, rfl, hd1, hd2, hws, List.mem_singleton.mpr rfl, hts _ w4, hts _ w3, ⟨hds.1, hds.2.1⟩, hlen, hts _ hlk⟩, hin, hts _ w1⟩ ⟨jd_blind, hPc⟩ rfl rfl (hL.2.1.trans hml) hst hW8 hd ⟨hc1, hs1⟩
  · obtain ⟨A0, h0, -⟩ := hF.1
    exact va_runIN (g := F0 m pc ls st) (As := As) (b := G.2.2.1 a) (n := As.length) (nL := nL) (Ts := jd_TB) (host := host) ⟨hx, hb, hml, hown, hts⟩ hMet ⟨⟨⟨rfl, rfl, hd1, hd2, hws, List.mem_singleton.mpr rfl⟩, hts _ w4, hts _ w3, ⟨hds.1, hds.2.1⟩, hlen, va_Nw.use rfl (va_Nw.warmM hW (va_Nw.of rfl (h0 _ hlk)))⟩, hin, hts _ w1⟩ ⟨jd_blind, hPc⟩ rfl rfl (hL.2.1.trans hml) hst hW8 hd ⟨hc1, hs1⟩
end xJD6
section xJD6b
variable {R τ : Type} {X : jd_X} {emb : jd_X → R → jd_Hp → State → Prop} {own nm : String} {cc : ByteArray} {nL : Nat} {ret : Option FieldType} {pc : Nat} {lv : List (Option Value)} {rest : List Value} {σ : jd_Hp} {K : τ → jd_Hp → Option (R × jd_Hp)} {y : MethodName} {cc' : ByteArray} {nL' d' : Nat} {ret' : Option FieldType}
theorem jx_cV0i (hX : jd_C X own nm cc nL ret) {idx a ci N : Nat} {A : Int32 → jd_Hp → Option (τ × jd_Hp)} {c1 : Option (Int32 × jd_Hp)} (hf : jd_mv own idx ci N y cc' nL' ret' 0) (hM : jd_M (jd_gl X) (jd_gs X) (jd_gG X) y cc' nL' ret' d' je_i (jd_v (jd_gG X) (some a) :: []) σ c1) (hdd : d' + 1 ≤ jd_dp X) (hr : (rest.map fun v => v.category).sum ≤ 8) (hd : decode cc pc = .ok (.invokevirtual idx, 3)) (ha : σ.1[a]? = some (ci, N)) (k : ∀ (r : Int32) σ1, jd_p σ σ1 → jx_S X emb (pc + 3) lv (.int r :: rest) σ1 (jd_b (A r σ1) K)) : jx_S X emb pc lv (jd_v (jd_gG X) (some a) :: rest) σ (jd_b (jd_b c1 A) K) := jxd_cV (As := []) hX hf hM hdd hr hd ha rfl k
theorem jx_cS0i (hX : jd_C X own nm cc nL ret) {idx : Nat} {A : Int32 → jd_Hp → Option (τ × jd_Hp)} {c1 : Option (Int32 × jd_Hp)} (hf : jd_st own idx y cc' nL' ret' 0) (hM : jd_M (jd_gl X) (jd_gs X) (jd_gG X) y cc' nL' ret' d' je_i [] σ c1) (hdd : d' + 1 ≤ jd_dp X) (hr : (rest.map fun v => v.category).sum ≤ 8) (hd : decode cc pc = .ok (.invokestatic idx, 3)) (k : ∀ (r : Int32) σ1, jd_p σ σ1 → jx_S X emb (pc + 3) lv (.int r :: rest) σ1 (jd_b (A r σ1) K)) : jx_S X emb pc lv (rest) σ (jd_b (jd_b c1 A) K) := jxd_cS (As := []) hX hf hM hdd hr hd rfl k
theorem jx_cV0l (hX : jd_C X own nm cc nL ret) {idx a ci N : Nat} {A : Int64 → jd_Hp → Option (τ × jd_Hp)} {c1 : Option (Int64 × jd_Hp)} (hf : jd_mv own idx ci N y cc' nL' ret' 0) (hM : jd_M (jd_gl X) (jd_gs X) (jd_gG X) y cc' nL' ret' d' je_l (jd_v (jd_gG X) (some a) :: []) σ c1) (hdd : d' + 1 ≤ jd_dp X) (hr : (rest.map fun v => v.category).sum ≤ 8) (hd : decode cc pc = .ok (.invokevirtual idx, 3)) (ha : σ.1[a]? = some (ci, N)) (k : ∀ (r : Int64) σ1, jd_p σ σ1 → jx_S X emb (pc + 3) lv (.long r :: rest) σ1 (jd_b (A r σ1) K)) : jx_S X emb pc lv (jd_v (jd_gG X) (some a) :: rest) σ (jd_b (jd_b c1 A) K) := jxd_cV (As := []) hX hf hM hdd hr hd ha rfl k
theorem jx_cS0l (hX : jd_C X own nm cc nL ret) {idx : Nat} {A : Int64 → jd_Hp → Option (τ × jd_Hp)} {c1 : Option (Int64 × jd_Hp)} (hf : jd_st own idx y cc' nL' ret' 0) (hM : jd_M (jd_gl X) (jd_gs X) (jd_gG X) y cc' nL' ret' d' je_l [] σ c1) (hdd : d' + 1 ≤ jd_dp X) (hr : (rest.map fun v => v.category).sum ≤ 8) (hd : decode cc pc = .ok (.invokestatic idx, 3)) (k : ∀ (r : Int64) σ1, jd_p σ σ1 → jx_S X emb (pc + 3) lv (.long r :: rest) σ1 (jd_b (A r σ1) K)) : jx_S X emb pc lv (rest) σ (jd_b (jd_b c1 A) K) := jxd_cS (As := []) hX hf hM hdd hr hd rfl k
theorem jx_cV0v (hX : jd_C X own nm cc nL ret) {idx a ci N : Nat} {A : Unit → jd_Hp → Option (τ × jd_Hp)} {c1 : Option (Unit × jd_Hp)} (hf : jd_mv own idx ci N y cc' nL' ret' 0) (hM : jd_M (jd_gl X) (jd_gs X) (jd_gG X) y cc' nL' ret' d' je_v (jd_v (jd_gG X) (some a) :: []) σ c1) (hdd : d' + 1 ≤ jd_dp X) (hr : (rest.map fun v => v.category).sum ≤ 8) (hd : decode cc pc = .ok (.invokevirtual idx, 3)) (ha : σ.1[a]? = some (ci, N)) (k : ∀ (r : Unit) σ1, jd_p σ σ1 → jx_S X emb (pc + 3) lv (rest) σ1 (jd_b (A r σ1) K)) : jx_S X emb pc lv (jd_v (jd_gG X) (some a) :: rest) σ (jd_b (jd_b c1 A) K) := jxd_cV (As := []) hX hf hM hdd hr hd ha rfl k
theorem jx_cS0v (hX : jd_C X own nm cc nL ret) {idx : Nat} {A : Unit → jd_Hp → Option (τ × jd_Hp)} {c1 : Option (Unit × jd_Hp)} (hf : jd_st own idx y cc' nL' ret' 0) (hM : jd_M (jd_gl X) (jd_gs X) (jd_gG X) y cc' nL' ret' d' je_v [] σ c1) (hdd : d' + 1 ≤ jd_dp X) (hr : (rest.map fun v => v.category).sum ≤ 8) (hd : decode cc pc = .ok (.invokestatic idx, 3)) (k : ∀ (r : Unit) σ1, jd_p σ σ1 → jx_S X emb (pc + 3) lv (rest) σ1 (jd_b (A r σ1) K)) : jx_S X emb pc lv (rest) σ (jd_b (jd_b c1 A) K) := jxd_cS (As := []) hX hf hM hdd hr hd rfl k
theorem jx_cI0 (hX : jd_C X own nm cc nL ret) {idx a : Nat} {A : Unit → jd_Hp → Option (τ × jd_Hp)} {c1 : Option (Unit × jd_Hp)} (hf : jd_sp own idx y cc' nL' 0) (hM : jd_M (jd_gl X) (jd_gs X) (jd_gG X) y cc' nL' none d' je_v (jd_v (jd_gG X) (some a) :: []) σ c1) (hdd : d' + 1 ≤ jd_dp X) (hr : (rest.map fun v => v.category).sum ≤ 8) (hd : decode cc pc = .ok (.invokespecial idx, 3)) (k : ∀ (r : Unit) σ1, jd_p σ σ1 → jx_S X emb (pc + 3) lv rest σ1 (jd_b (A r σ1) K)) : jx_S X emb pc lv (jd_v (jd_gG X) (some a) :: rest) σ (jd_b (jd_b c1 A) K) := jxd_cI (As := []) hX hf hM hdd hr hd rfl k
theorem jx_cV1i (hX : jd_C X own nm cc nL ret) {idx a ci N : Nat} {b1 : Value} {A : Int32 → jd_Hp → Option (τ × jd_Hp)} {c1 : Option (Int32 × jd_Hp)} (hf : jd_mv own idx ci N y cc' nL' ret' 1) (hM : jd_M (jd_gl X) (jd_gs X) (jd_gG X) y cc' nL' ret' d' je_i (jd_v (jd_gG X) (some a) :: [b1]) σ c1) (hdd : d' + 1 ≤ jd_dp X) (hr : (rest.map fun v => v.category).sum ≤ 8) (hd : decode cc pc = .ok (.invokevirtual idx, 3)) (ha : σ.1[a]? = some (ci, N)) (k : ∀ (r : Int32) σ1, jd_p σ σ1 → jx_S X emb (pc + 3) lv (.int r :: rest) σ1 (jd_b (A r σ1) K)) : jx_S X emb pc lv (b1 :: jd_v (jd_gG X) (some a) :: rest) σ (jd_b (jd_b c1 A) K) := jxd_cV (As := [b1]) hX hf hM hdd hr hd ha rfl k
theorem jx_cS1i (hX : jd_C X own nm cc nL ret) {idx : Nat} {b1 : Value} {A : Int32 → jd_Hp → Option (τ × jd_Hp)} {c1 : Option (Int32 × jd_Hp)} (hf : jd_st own idx y cc' nL' ret' 1) (hM : jd_M (jd_gl X) (jd_gs X) (jd_gG X) y cc' nL' ret' d' je_i [b1] σ c1) (hdd : d' + 1 ≤ jd_dp X) (hr : (rest.map fun v => v.category).sum ≤ 8) (hd : decode cc pc = .ok (.invokestatic idx, 3)) (k : ∀ (r : Int32) σ1, jd_p σ σ1 → jx_S X emb (pc + 3) lv (.int r :: rest) σ1 (jd_b (A r σ1) K)) : jx_S X emb pc lv (b1 :: rest) σ (jd_b (jd_b c1 A) K) := jxd_cS (As := [b1]) hX hf hM hdd hr hd rfl k
theorem jx_cV1l (hX : jd_C X own nm cc nL ret) {idx a ci N : Nat} {b1 : Value} {A : Int64 → jd_Hp → Option (τ × jd_Hp)} {c1 : Option (Int64 × jd_Hp)} (hf : jd_mv own idx ci N y cc' nL' ret' 1) (hM : jd_M (jd_gl X) (jd_gs X) (jd_gG X) y cc' nL' ret' d' je_l (jd_v (jd_gG X) (some a) :: [b1]) σ c1) (hdd : d' + 1 ≤ jd_dp X) (hr : (rest.map fun v => v.category).sum ≤ 8) (hd : decode cc pc = .ok (.invokevirtual idx, 3)) (ha : σ.1[a]? = some (ci, N)) (k : ∀ (r : Int64) σ1, jd_p σ σ1 → jx_S X emb (pc + 3) lv (.long r :: rest) σ1 (jd_b (A r σ1) K)) : jx_S X emb pc lv (b1 :: jd_v (jd_gG X) (some a) :: rest) σ (jd_b (jd_b c1 A) K) := jxd_cV (As := [b1]) hX hf hM hdd hr hd ha rfl k
theorem jx_cS1l (hX : jd_C X own nm cc nL ret) {idx : Nat} {b1 : Value} {A : Int64 → jd_Hp → Option (τ × jd_Hp)} {c1 : Option (Int64 × jd_Hp)} (hf : jd_st own idx y cc' nL' ret' 1) (hM : jd_M (jd_gl X) (jd_gs X) (jd_gG X) y cc' nL' ret' d' je_l [b1] σ c1) (hdd : d' + 1 ≤ jd_dp X) (hr : (rest.map fun v => v.category).sum ≤ 8) (hd : decode cc pc = .ok (.invokestatic idx, 3)) (k : ∀ (r : Int64) σ1, jd_p σ σ1 → jx_S X emb (pc + 3) lv (.long r :: rest) σ1 (jd_b (A r σ1) K)) : jx_S X emb pc lv (b1 :: rest) σ (jd_b (jd_b c1 A) K) := jxd_cS (As := [b1]) hX hf hM hdd hr hd rfl k
theorem jx_cV1v (hX : jd_C X own nm cc nL ret) {idx a ci N : Nat} {b1 : Value} {A : Unit → jd_Hp → Option (τ × jd_Hp)} {c1 : Option (Unit × jd_Hp)} (hf : jd_mv own idx ci N y cc' nL' ret' 1) (hM : jd_M (jd_gl X) (jd_gs X) (jd_gG X) y cc' nL' ret' d' je_v (jd_v (jd_gG X) (some a) :: [b1]) σ c1) (hdd : d' + 1 ≤ jd_dp X) (hr : (rest.map fun v => v.category).sum ≤ 8) (hd : decode cc pc = .ok (.invokevirtual idx, 3)) (ha : σ.1[a]? = some (ci, N)) (k : ∀ (r : Unit) σ1, jd_p σ σ1 → jx_S X emb (pc + 3) lv (rest) σ1 (jd_b (A r σ1) K)) : jx_S X emb pc lv (b1 :: jd_v (jd_gG X) (some a) :: rest) σ (jd_b (jd_b c1 A) K) := jxd_cV (As := [b1]) hX hf hM hdd hr hd ha rfl k
theorem jx_cS1v (hX : jd_C X own nm cc nL ret) {idx : Nat} {b1 : Value} {A : Unit → jd_Hp → Option (τ × jd_Hp)} {c1 : Option (Unit × jd_Hp)} (hf : jd_st own idx y cc' nL' ret' 1) (hM : jd_M (jd_gl X) (jd_gs X) (jd_gG X) y cc' nL' ret' d' je_v [b1] σ c1) (hdd : d' + 1 ≤ jd_dp X) (hr : (rest.map fun v => v.category).sum ≤ 8) (hd : decode cc pc = .ok (.invokestatic idx, 3)) (k : ∀ (r : Unit) σ1, jd_p σ σ1 → jx_S X emb (pc + 3) lv (rest) σ1 (jd_b (A r σ1) K)) : jx_S X emb pc lv (b1 :: rest) σ (jd_b (jd_b c1 A) K) := jxd_cS (As := [b1]) hX hf hM hdd hr hd rfl k
theorem jx_cI1 (hX : jd_C X own nm cc nL ret) {idx a : Nat} {b1 : Value} {A : Unit → jd_Hp → Option (τ × jd_Hp)} {c1 : Option (Unit × jd_Hp)} (hf : jd_sp own idx y cc' nL' 1) (hM : jd_M (jd_gl X) (jd_gs X) (jd_gG X) y cc' nL' none d' je_v (jd_v (jd_gG X) (some a) :: [b1]) σ c1) (hdd : d' + 1 ≤ jd_dp X) (hr : (rest.map fun v => v.category).sum ≤ 8) (hd : decode cc pc = .ok (.invokespecial idx, 3)) (k : ∀ (r : Unit) σ1, jd_p σ σ1 → jx_S X emb (pc + 3) lv rest σ1 (jd_b (A r σ1) K)) : jx_S X emb pc lv (b1 :: jd_v (jd_gG X) (some a) :: rest) σ (jd_b (jd_b c1 A) K) := jxd_cI (As := [b1]) hX hf hM hdd hr hd rfl k
theorem jx_cV2i (hX : jd_C X own nm cc nL ret) {idx a ci N : Nat} {b1 b2 : Value} {A : Int32 → jd_Hp → Option (τ × jd_Hp)} {c1 : Option (Int32 × jd_Hp)} (hf : jd_mv own idx ci N y cc' nL' ret' 2) (hM : jd_M (jd_gl X) (jd_gs X) (jd_gG X) y cc' nL' ret' d' je_i (jd_v (jd_gG X) (some a) :: [b1, b2]) σ c1) (hdd : d' + 1 ≤ jd_dp X) (hr : (rest.map fun v => v.category).sum ≤ 8) (hd : decode cc pc = .ok (.invokevirtual idx, 3)) (ha : σ.1[a]? = some (ci, N)) (k : ∀ (r : Int32) σ1, jd_p σ σ1 → jx_S X emb (pc + 3) lv (.int r :: rest) σ1 (jd_b (A r σ1) K)) : jx_S X emb pc lv (b2 :: b1 :: jd_v (jd_gG X) (some a) :: rest) σ (jd_b (jd_b c1 A) K) := jxd_cV (As := [b1, b2]) hX hf hM hdd hr hd ha rfl k
theorem jx_cS2i (hX : jd_C X own nm cc nL ret) {idx : Nat} {b1 b2 : Value} {A : Int32 → jd_Hp → Option (τ × jd_Hp)} {c1 : Option (Int32 × jd_Hp)} (hf : jd_st own idx y cc' nL' ret' 2) (hM : jd_M (jd_gl X) (jd_gs X) (jd_gG X) y cc' nL' ret' d' je_i [b1, b2] σ c1) (hdd : d' + 1 ≤ jd_dp X) (hr : (rest.map fun v => v.category).sum ≤ 8) (hd : decode cc pc = .ok (.invokestatic idx, 3)) (k : ∀ (r : Int32) σ1, jd_p σ σ1 → jx_S X emb (pc + 3) lv (.int r :: rest) σ1 (jd_b (A r σ1) K)) : jx_S X emb pc lv (b2 :: b1 :: rest) σ (jd_b (jd_b c1 A) K) := jxd_cS (As := [b1, b2]) hX hf hM hdd hr hd rfl k
theorem jx_cV2l (hX : jd_C X own nm cc nL ret) {idx a ci N : Nat} {b1 b2 : Value} {A : Int64 → jd_Hp → Option (τ × jd_Hp)} {c1 : Option (Int64 × jd_Hp)} (hf : jd_mv own idx ci N y cc' nL' ret' 2) (hM : jd_M (jd_gl X) (jd_gs X) (jd_gG X) y cc' nL' ret' d' je_l (jd_v (jd_gG X) (some a) :: [b1, b2]) σ c1) (hdd : d' + 1 ≤ jd_dp X) (hr : (rest.map fun v => v.category).sum ≤ 8) (hd : decode cc pc = .ok (.invokevirtual idx, 3)) (ha : σ.1[a]? = some (ci, N)) (k : ∀ (r : Int64) σ1, jd_p σ σ1 → jx_S X emb (pc + 3) lv (.long r :: rest) σ1 (jd_b (A r σ1) K)) : jx_S X emb pc lv (b2 :: b1 :: jd_v (jd_gG X) (some a) :: rest) σ (jd_b (jd_b c1 A) K) := jxd_cV (As := [b1, b2]) hX hf hM hdd hr hd ha rfl k
theorem jx_cS2l (hX : jd_C X own nm cc nL ret) {idx : Nat} {b1 b2 : Value} {A : Int64 → jd_Hp → Option (τ × jd_Hp)} {c1 : Option (Int64 × jd_Hp)} (hf : jd_st own idx y cc' nL' ret' 2) (hM : jd_M (jd_gl X) (jd_gs X) (jd_gG X) y cc' nL' ret' d' je_l [b1, b2] σ c1) (hdd : d' + 1 ≤ jd_dp X) (hr : (rest.map fun v => v.category).sum ≤ 8) (hd : decode cc pc = .ok (.invokestatic idx, 3)) (k : ∀ (r : Int64) σ1, jd_p σ σ1 → jx_S X emb (pc + 3) lv (.long r :: rest) σ1 (jd_b (A r σ1) K)) : jx_S X emb pc lv (b2 :: b1 :: rest) σ (jd_b (jd_b c1 A) K) := jxd_cS (As := [b1, b2]) hX hf hM hdd hr hd rfl k
theorem jx_cV2v (hX : jd_C X own nm cc nL ret) {idx a ci N : Nat} {b1 b2 : Value} {A : Unit → jd_Hp → Option (τ × jd_Hp)} {c1 : Option (Unit × jd_Hp)} (hf : jd_mv own idx ci N y cc' nL' ret' 2) (hM : jd_M (jd_gl X) (jd_gs X) (jd_gG X) y cc' nL' ret' d' je_v (jd_v (jd_gG X) (some a) :: [b1, b2]) σ c1) (hdd : d' + 1 ≤ jd_dp X) (hr : (rest.map fun v => v.category).sum ≤ 8) (hd : decode cc pc = .ok (.invokevirtual idx, 3)) (ha : σ.1[a]? = some (ci, N)) (k : ∀ (r : Unit) σ1, jd_p σ σ1 → jx_S X emb (pc + 3) lv (rest) σ1 (jd_b (A r σ1) K)) : jx_S X emb pc lv (b2 :: b1 :: jd_v (jd_gG X) (some a) :: rest) σ (jd_b (jd_b c1 A) K) := jxd_cV (As := [b1, b2]) hX hf hM hdd hr hd ha rfl k
theorem jx_cS2v (hX : jd_C X own nm cc nL ret) {idx : Nat} {b1 b2 : Value} {A : Unit → jd_Hp → Option (τ × jd_Hp)} {c1 : Option (Unit × jd_Hp)} (hf : jd_st own idx y cc' nL' ret' 2) (hM : jd_M (jd_gl X) (jd_gs X) (jd_gG X) y cc' nL' ret' d' je_v [b1, b2] σ c1) (hdd : d' + 1 ≤ jd_dp X) (hr : (rest.map fun v => v.category).sum ≤ 8) (hd : decode cc pc = .ok (.invokestatic idx, 3)) (k : ∀ (r : Unit) σ1, jd_p σ σ1 → jx_S X emb (pc + 3) lv (rest) σ1 (jd_b (A r σ1) K)) : jx_S X emb pc lv (b2 :: b1 :: rest) σ (jd_b (jd_b c1 A) K) := jxd_cS (As := [b1, b2]) hX hf hM hdd hr hd rfl k
theorem jx_cI2 (hX : jd_C X own nm cc nL ret) {idx a : Nat} {b1 b2 : Value} {A : Unit → jd_Hp → Option (τ × jd_Hp)} {c1 : Option (Unit × jd_Hp)} (hf : jd_sp own idx y cc' nL' 2) (hM : jd_M (jd_gl X) (jd_gs X) (jd_gG X) y cc' nL' none d' je_v (jd_v (jd_gG X) (some a) :: [b1, b2]) σ c1) (hdd : d' + 1 ≤ jd_dp X) (hr : (rest.map fun v => v.category).sum ≤ 8) (hd : decode cc pc = .ok (.invokespecial idx, 3)) (k : ∀ (r : Unit) σ1, jd_p σ σ1 → jx_S X emb (pc + 3) lv rest σ1 (jd_b (A r σ1) K)) : jx_S X emb pc lv (b2 :: b1 :: jd_v (jd_gG X) (some a) :: rest) σ (jd_b (jd_b c1 A) K) := jxd_cI (As := [b1, b2]) hX hf hM hdd hr hd rfl k
theorem jx_cV3i (hX : jd_C X own nm cc nL ret) {idx a ci N : Nat} {b1 b2 b3 : Value} {A : Int32 → jd_Hp → Option (τ × jd_Hp)} {c1 : Option (Int32 × jd_Hp)} (hf : jd_mv own idx ci N y cc' nL' ret' 3) (hM : jd_M (jd_gl X) (jd_gs X) (jd_gG X) y cc' nL' ret' d' je_i (jd_v (jd_gG X) (some a) :: [b1, b2, b3]) σ c1) (hdd : d' + 1 ≤ jd_dp X) (hr : (rest.map fun v => v.category).sum ≤ 8) (hd : decode cc pc = .ok (.invokevirtual idx, 3)) (ha : σ.1[a]? = some (ci, N)) (k : ∀ (r : Int32) σ1, jd_p σ σ1 → jx_S X emb (pc + 3) lv (.int r :: rest) σ1 (jd_b (A r σ1) K)) : jx_S X emb pc lv (b3 :: b2 :: b1 :: jd_v (jd_gG X) (some a) :: rest) σ (jd_b (jd_b c1 A) K) := jxd_cV (As := [b1, b2, b3]) hX hf hM hdd hr hd ha rfl k
theorem jx_cS3i (hX : jd_C X own nm cc nL ret) {idx : Nat} {b1 b2 b3 : Value} {A : Int32 → jd_Hp → Option (τ × jd_Hp)} {c1 : Option (Int32 × jd_Hp)} (hf : jd_st own idx y cc' nL' ret' 3) (hM : jd_M (jd_gl X) (jd_gs X) (jd_gG X) y cc' nL' ret' d' je_i [b1, b2, b3] σ c1) (hdd : d' + 1 ≤ jd_dp X) (hr : (rest.map fun v => v.category).sum ≤ 8) (hd : decode cc pc = .ok (.invokestatic idx, 3)) (k : ∀ (r : Int32) σ1, jd_p σ σ1 → jx_S X emb (pc + 3) lv (.int r :: rest) σ1 (jd_b (A r σ1) K)) : jx_S X emb pc lv (b3 :: b2 :: b1 :: rest) σ (jd_b (jd_b c1 A) K) := jxd_cS (As := [b1, b2, b3]) hX hf hM hdd hr hd rfl k
theorem jx_cV3l (hX : jd_C X own nm cc nL ret) {idx a ci N : Nat} {b1 b2 b3 : Value} {A : Int64 → jd_Hp → Option (τ × jd_Hp)} {c1 : Option (Int64 × jd_Hp)} (hf : jd_mv own idx ci N y cc' nL' ret' 3) (hM : jd_M (jd_gl X) (jd_gs X) (jd_gG X) y cc' nL' ret' d' je_l (jd_v (jd_gG X) (some a) :: [b1, b2, b3]) σ c1) (hdd : d' + 1 ≤ jd_dp X) (hr : (rest.map fun v => v.category).sum ≤ 8) (hd : decode cc pc = .ok (.invokevirtual idx, 3)) (ha : σ.1[a]? = some (ci, N)) (k : ∀ (r : Int64) σ1, jd_p σ σ1 → jx_S X emb (pc + 3) lv (.long r :: rest) σ1 (jd_b (A r σ1) K)) : jx_S X emb pc lv (b3 :: b2 :: b1 :: jd_v (jd_gG X) (some a) :: rest) σ (jd_b (jd_b c1 A) K) := jxd_cV (As := [b1, b2, b3]) hX hf hM hdd hr hd ha rfl k
theorem jx_cS3l (hX : jd_C X own nm cc nL ret) {idx : Nat} {b1 b2 b3 : Value} {A : Int64 → jd_Hp → Option (τ × jd_Hp)} {c1 : Option (Int64 × jd_Hp)} (hf : jd_st own idx y cc' nL' ret' 3) (hM : jd_M (jd_gl X) (jd_gs X) (jd_gG X) y cc' nL' ret' d' je_l [b1, b2, b3] σ c1) (hdd : d' + 1 ≤ jd_dp X) (hr : (rest.map fun v => v.category).sum ≤ 8) (hd : decode cc pc = .ok (.invokestatic idx, 3)) (k : ∀ (r : Int64) σ1, jd_p σ σ1 → jx_S X emb (pc + 3) lv (.long r :: rest) σ1 (jd_b (A r σ1) K)) : jx_S X emb pc lv (b3 :: b2 :: b1 :: rest) σ (jd_b (jd_b c1 A) K) := jxd_cS (As := [b1, b2, b3]) hX hf hM hdd hr hd rfl k
theorem jx_cV3v (hX : jd_C X own nm cc nL ret) {idx a ci N : Nat} {b1 b2 b3 : Value} {A : Unit → jd_Hp → Option (τ × jd_Hp)} {c1 : Option (Unit × jd_Hp)} (hf : jd_mv own idx ci N y cc' nL' ret' 3) (hM : jd_M (jd_gl X) (jd_gs X) (jd_gG X) y cc' nL' ret' d' je_v (jd_v (jd_gG X) (some a) :: [b1, b2, b3]) σ c1) (hdd : d' + 1 ≤ jd_dp X) (hr : (rest.map fun v => v.category).sum ≤ 8) (hd : decode cc pc = .ok (.invokevirtual idx, 3)) (ha : σ.1[a]? = some (ci, N)) (k : ∀ (r : Unit) σ1, jd_p σ σ1 → jx_S X emb (pc + 3) lv (rest) σ1 (jd_b (A r σ1) K)) : jx_S X emb pc lv (b3 :: b2 :: b1 :: jd_v (jd_gG X) (some a) :: rest) σ (jd_b (jd_b c1 A) K) := jxd_cV (As := [b1, b2, b3]) hX hf hM hdd hr hd ha rfl k
theorem jx_cS3v (hX : jd_C X own nm cc nL ret) {idx : Nat} {b1 b2 b3 : Value} {A : Unit → jd_Hp → Option (τ × jd_Hp)} {c1 : Option (Unit × jd_Hp)} (hf : jd_st own idx y cc' nL' ret' 3) (hM : jd_M (jd_gl X) (jd_gs X) (jd_gG X) y cc' nL' ret' d' je_v [b1, b2, b3] σ c1) (hdd : d' + 1 ≤ jd_dp X) (hr : (rest.map fun v => v.category).sum ≤ 8) (hd : decode cc pc = .ok (.invokestatic idx, 3)) (k : ∀ (r : Unit) σ1, jd_p σ σ1 → jx_S X emb (pc + 3) lv (rest) σ1 (jd_b (A r σ1) K)) : jx_S X emb pc lv (b3 :: b2 :: b1 :: rest) σ (jd_b (jd_b c1 A) K) := jxd_cS (As := [b1, b2, b3]) hX hf hM hdd hr hd rfl k
theorem jx_cV4i (hX : jd_C X own nm cc nL ret) {idx a ci N : Nat} {b1 b2 b3 b4 : Value} {A : Int32 → jd_Hp → Option (τ × jd_Hp)} {c1 : Option (Int32 × jd_Hp)} (hf : jd_mv own idx ci N y cc' nL' ret' 4) (hM : jd_M (jd_gl X) (jd_gs X) (jd_gG X) y cc' nL' ret' d' je_i (jd_v (jd_gG X) (some a) :: [b1, b2, b3, b4]) σ c1) (hdd : d' + 1 ≤ jd_dp X) (hr : (rest.map fun v => v.category).sum ≤ 8) (hd : decode cc pc = .ok (.invokevirtual idx, 3)) (ha : σ.1[a]? = some (ci, N)) (k : ∀ (r : Int32) σ1, jd_p σ σ1 → jx_S X emb (pc + 3) lv (.int r :: rest) σ1 (jd_b (A r σ1) K)) : jx_S X emb pc lv (b4 :: b3 :: b2 :: b1 :: jd_v (jd_gG X) (some a) :: rest) σ (jd_b (jd_b c1 A) K) := jxd_cV (As := [b1, b2, b3, b4]) hX hf hM hdd hr hd ha rfl k
theorem jx_cS4i (hX : jd_C X own nm cc nL ret) {idx : Nat} {b1 b2 b3 b4 : Value} {A : Int32 → jd_Hp → Option (τ × jd_Hp)} {c1 : Option (Int32 × jd_Hp)} (hf : jd_st own idx y cc' nL' ret' 4) (hM : jd_M (jd_gl X) (jd_gs X) (jd_gG X) y cc' nL' ret' d' je_i [b1, b2, b3, b4] σ c1) (hdd : d' + 1 ≤ jd_dp X) (hr : (rest.map fun v => v.category).sum ≤ 8) (hd : decode cc pc = .ok (.invokestatic idx, 3)) (k : ∀ (r : Int32) σ1, jd_p σ σ1 → jx_S X emb (pc + 3) lv (.int r :: rest) σ1 (jd_b (A r σ1) K)) : jx_S X emb pc lv (b4 :: b3 :: b2 :: b1 :: rest) σ (jd_b (jd_b c1 A) K) := jxd_cS (As := [b1, b2, b3, b4]) hX hf hM hdd hr hd rfl k
theorem jx_cV4l (hX : jd_C X own nm cc nL ret) {idx a ci N : Nat} {b1 b2 b3 b4 : Value} {A : Int64 → jd_Hp → Option (τ × jd_Hp)} {c1 : Option (Int64 × jd_Hp)} (hf : jd_mv own idx ci N y cc' nL' ret' 4) (hM : jd_M (jd_gl X) (jd_gs X) (jd_gG X) y cc' nL' ret' d' je_l (jd_v (jd_gG X) (some a) :: [b1, b2, b3, b4]) σ c1) (hdd : d' + 1 ≤ jd_dp X) (hr : (rest.map fun v => v.category).sum ≤ 8) (hd : decode cc pc = .ok (.invokevirtual idx, 3)) (ha : σ.1[a]? = some (ci, N)) (k : ∀ (r : Int64) σ1, jd_p σ σ1 → jx_S X emb (pc + 3) lv (.long r :: rest) σ1 (jd_b (A r σ1) K)) : jx_S X emb pc lv (b4 :: b3 :: b2 :: b1 :: jd_v (jd_gG X) (some a) :: rest) σ (jd_b (jd_b c1 A) K) := jxd_cV (As := [b1, b2, b3, b4]) hX hf hM hdd hr hd ha rfl k
theorem jx_cS4l (hX : jd_C X own nm cc nL ret) {idx : Nat} {b1 b2 b3 b4 : Value} {A : Int64 → jd_Hp → Option (τ × jd_Hp)} {c1 : Option (Int64 × jd_Hp)} (hf : jd_st own idx y cc' nL' ret' 4) (hM : jd_M (jd_gl X) (jd_gs X) (jd_gG X) y cc' nL' ret' d' je_l [b1, b2, b3, b4] σ c1) (hdd : d' + 1 ≤ jd_dp X) (hr : (rest.map fun v => v.category).sum ≤ 8) (hd : decode cc pc = .ok (.invokestatic idx, 3)) (k : ∀ (r : Int64) σ1, jd_p σ σ1 → jx_S X emb (pc + 3) lv (.long r :: rest) σ1 (jd_b (A r σ1) K)) : jx_S X emb pc lv (b4 :: b3 :: b2 :: b1 :: rest) σ (jd_b (jd_b c1 A) K) := jxd_cS (As := [b1, b2, b3, b4]) hX hf hM hdd hr hd rfl k
theorem jx_cV4v (hX : jd_C X own nm cc nL ret) {idx a ci N : Nat} {b1 b2 b3 b4 : Value} {A : Unit → jd_Hp → Option (τ × jd_Hp)} {c1 : Option (Unit × jd_Hp)} (hf : jd_mv own idx ci N y cc' nL' ret' 4) (hM : jd_M (jd_gl X) (jd_gs X) (jd_gG X) y cc' nL' ret' d' je_v (jd_v (jd_gG X) (some a) :: [b1, b2, b3, b4]) σ c1) (hdd : d' + 1 ≤ jd_dp X) (hr : (rest.map fun v => v.category).sum ≤ 8) (hd : decode cc pc = .ok (.invokevirtual idx, 3)) (ha : σ.1[a]? = some (ci, N)) (k : ∀ (r : Unit) σ1, jd_p σ σ1 → jx_S X emb (pc + 3) lv (rest) σ1 (jd_b (A r σ1) K)) : jx_S X emb pc lv (b4 :: b3 :: b2 :: b1 :: jd_v (jd_gG X) (some a) :: rest) σ (jd_b (jd_b c1 A) K) := jxd_cV (As := [b1, b2, b3, b4]) hX hf hM hdd hr hd ha rfl k
theorem jx_cS4v (hX : jd_C X own nm cc nL ret) {idx : Nat} {b1 b2 b3 b4 : Value} {A : Unit → jd_Hp → Option (τ × jd_Hp)} {c1 : Option (Unit × jd_Hp)} (hf : jd_st own idx y cc' nL' ret' 4) (hM : jd_M (jd_gl X) (jd_gs X) (jd_gG X) y cc' nL' ret' d' je_v [b1, b2, b3, b4] σ c1) (hdd : d' + 1 ≤ jd_dp X) (hr : (rest.map fun v => v.category).sum ≤ 8) (hd : decode cc pc = .ok (.invokestatic idx, 3)) (k : ∀ (r : Unit) σ1, jd_p σ σ1 → jx_S X emb (pc + 3) lv (rest) σ1 (jd_b (A r σ1) K)) : jx_S X emb pc lv (b4 :: b3 :: b2 :: b1 :: rest) σ (jd_b (jd_b c1 A) K) := jxd_cS (As := [b1, b2, b3, b4]) hX hf hM hdd hr hd rfl k
theorem jx_cV5i (hX : jd_C X own nm cc nL ret) {idx a ci N : Nat} {b1 b2 b3 b4 b5 : Value} {A : Int32 → jd_Hp → Option (τ × jd_Hp)} {c1 : Option (Int32 × jd_Hp)} (hf : jd_mv own idx ci N y cc' nL' ret' 5) (hM : jd_M (jd_gl X) (jd_gs X) (jd_gG X) y cc' nL' ret' d' je_i (jd_v (jd_gG X) (some a) :: [b1, b2, b3, b4, b5]) σ c1) (hdd : d' + 1 ≤ jd_dp X) (hr : (rest.map fun v => v.category).sum ≤ 8) (hd : decode cc pc = .ok (.invokevirtual idx, 3)) (ha : σ.1[a]? = some (ci, N)) (k : ∀ (r : Int32) σ1, jd_p σ σ1 → jx_S X emb (pc + 3) lv (.int r :: rest) σ1 (jd_b (A r σ1) K)) : jx_S X emb pc lv (b5 :: b4 :: b3 :: b2 :: b1 :: jd_v (jd_gG X) (some a) :: rest) σ (jd_b (jd_b c1 A) K) := jxd_cV (As := [b1, b2, b3, b4, b5]) hX hf hM hdd hr hd ha rfl k
theorem jx_cS5i (hX : jd_C X own nm cc nL ret) {idx : Nat} {b1 b2 b3 b4 b5 : Value} {A : Int32 → jd_Hp → Option (τ × jd_Hp)} {c1 : Option (Int32 × jd_Hp)} (hf : jd_st own idx y cc' nL' ret' 5) (hM : jd_M (jd_gl X) (jd_gs X) (jd_gG X) y cc' nL' ret' d' je_i [b1, b2, b3, b4, b5] σ c1) (hdd : d' + 1 ≤ jd_dp X) (hr : (rest.map fun v => v.category).sum ≤ 8) (hd : decode cc pc = .ok (.invokestatic idx, 3)) (k : ∀ (r : Int32) σ1, jd_p σ σ1 → jx_S X emb (pc + 3) lv (.int r :: rest) σ1 (jd_b (A r σ1) K)) : jx_S X emb pc lv (b5 :: b4 :: b3 :: b2 :: b1 :: rest) σ (jd_b (jd_b c1 A) K) := jxd_cS (As := [b1, b2, b3, b4, b5]) hX hf hM hdd hr hd rfl k
theorem jx_cV5l (hX : jd_C X own nm cc nL ret) {idx a ci N : Nat} {b1 b2 b3 b4 b5 : Value} {A : Int64 → jd_Hp → Option (τ × jd_Hp)} {c1 : Option (Int64 × jd_Hp)} (hf : jd_mv own idx ci N y cc' nL' ret' 5) (hM : jd_M (jd_gl X) (jd_gs X) (jd_gG X) y cc' nL' ret' d' je_l (jd_v (jd_gG X) (some a) :: [b1, b2, b3, b4, b5]) σ c1) (hdd : d' + 1 ≤ jd_dp X) (hr : (rest.map fun v => v.category).sum ≤ 8) (hd : decode cc pc = .ok (.invokevirtual idx, 3)) (ha : σ.1[a]? = some (ci, N)) (k : ∀ (r : Int64) σ1, jd_p σ σ1 → jx_S X emb (pc + 3) lv (.long r :: rest) σ1 (jd_b (A r σ1) K)) : jx_S X emb pc lv (b5 :: b4 :: b3 :: b2 :: b1 :: jd_v (jd_gG X) (some a) :: rest) σ (jd_b (jd_b c1 A) K) := jxd_cV (As := [b1, b2, b3, b4, b5]) hX hf hM hdd hr hd ha rfl k
theorem jx_cS5l (hX : jd_C X own nm cc nL ret) {idx : Nat} {b1 b2 b3 b4 b5 : Value} {A : Int64 → jd_Hp → Option (τ × jd_Hp)} {c1 : Option (Int64 × jd_Hp)} (hf : jd_st own idx y cc' nL' ret' 5) (hM : jd_M (jd_gl X) (jd_gs X) (jd_gG X) y cc' nL' ret' d' je_l [b1, b2, b3, b4, b5] σ c1) (hdd : d' + 1 ≤ jd_dp X) (hr : (rest.map fun v => v.category).sum ≤ 8) (hd : decode cc pc = .ok (.invokestatic idx, 3)) (k : ∀ (r : Int64) σ1, jd_p σ σ1 → jx_S X emb (pc + 3) lv (.long r :: rest) σ1 (jd_b (A r σ1) K)) : jx_S X emb pc lv (b5 :: b4 :: b3 :: b2 :: b1 :: rest) σ (jd_b (jd_b c1 A) K) := jxd_cS (As := [b1, b2, b3, b4, b5]) hX hf hM hdd hr hd rfl k
theorem jx_cV5v (hX : jd_C X own nm cc nL ret) {idx a ci N : Nat} {b1 b2 b3 b4 b5 : Value} {A : Unit → jd_Hp → Option (τ × jd_Hp)} {c1 : Option (Unit × jd_Hp)} (hf : jd_mv own idx ci N y cc' nL' ret' 5) (hM : jd_M (jd_gl X) (jd_gs X) (jd_gG X) y cc' nL' ret' d' je_v (jd_v (jd_gG X) (some a) :: [b1, b2, b3, b4, b5]) σ c1) (hdd : d' + 1 ≤ jd_dp X) (hr : (rest.map fun v => v.category).sum ≤ 8) (hd : decode cc pc = .ok (.invokevirtual idx, 3)) (ha : σ.1[a]? = some (ci, N)) (k : ∀ (r : Unit) σ1, jd_p σ σ1 → jx_S X emb (pc + 3) lv (rest) σ1 (jd_b (A r σ1) K)) : jx_S X emb pc lv (b5 :: b4 :: b3 :: b2 :: b1 :: jd_v (jd_gG X) (some a) :: rest) σ (jd_b (jd_b c1 A) K) := jxd_cV (As := [b1, b2, b3, b4, b5]) hX hf hM hdd hr hd ha rfl k
theorem jx_cS5v (hX : jd_C X own nm cc nL ret) {idx : Nat} {b1 b2 b3 b4 b5 : Value} {A : Unit → jd_Hp → Option (τ × jd_Hp)} {c1 : Option (Unit × jd_Hp)} (hf : jd_st own idx y cc' nL' ret' 5) (hM : jd_M (jd_gl X) (jd_gs X) (jd_gG X) y cc' nL' ret' d' je_v [b1, b2, b3, b4, b5] σ c1) (hdd : d' + 1 ≤ jd_dp X) (hr : (rest.map fun v => v.category).sum ≤ 8) (hd : decode cc pc = .ok (.invokestatic idx, 3)) (k : ∀ (r : Unit) σ1, jd_p σ σ1 → jx_S X emb (pc + 3) lv (rest) σ1 (jd_b (A r σ1) K)) : jx_S X emb pc lv (b5 :: b4 :: b3 :: b2 :: b1 :: rest) σ (jd_b (jd_b c1 A) K) := jxd_cS (As := [b1, b2, b3, b4, b5]) hX hf hM hdd hr hd rfl k
theorem jx_cV6i (hX : jd_C X own nm cc nL ret) {idx a ci N : Nat} {b1 b2 b3 b4 b5 b6 : Value} {A : Int32 → jd_Hp → Option (τ × jd_Hp)} {c1 : Option (Int32 × jd_Hp)} (hf : jd_mv own idx ci N y cc' nL' ret' 6) (hM : jd_M (jd_gl X) (jd_gs X) (jd_gG X) y cc' nL' ret' d' je_i (jd_v (jd_gG X) (some a) :: [b1, b2, b3, b4, b5, b6]) σ c1) (hdd : d' + 1 ≤ jd_dp X) (hr : (rest.map fun v => v.category).sum ≤ 8) (hd : decode cc pc = .ok (.invokevirtual idx, 3)) (ha : σ.1[a]? = some (ci, N)) (k : ∀ (r : Int32) σ1, jd_p σ σ1 → jx_S X emb (pc + 3) lv (.int r :: rest) σ1 (jd_b (A r σ1) K)) : jx_S X emb pc lv (b6 :: b5 :: b4 :: b3 :: b2 :: b1 :: jd_v (jd_gG X) (some a) :: rest) σ (jd_b (jd_b c1 A) K) := jxd_cV (As := [b1, b2, b3, b4, b5, b6]) hX hf hM hdd hr hd ha rfl k
theorem jx_cS6i (hX : jd_C X own nm cc nL ret) {idx : Nat} {b1 b2 b3 b4 b5 b6 : Value} {A : Int32 → jd_Hp → Option (τ × jd_Hp)} {c1 : Option (Int32 × jd_Hp)} (hf : jd_st own idx y cc' nL' ret' 6) (hM : jd_M (jd_gl X) (jd_gs X) (jd_gG X) y cc' nL' ret' d' je_i [b1, b2, b3, b4, b5, b6] σ c1) (hdd : d' + 1 ≤ jd_dp X) (hr : (rest.map fun v => v.category).sum ≤ 8) (hd : decode cc pc = .ok (.invokestatic idx, 3)) (k : ∀ (r : Int32) σ1, jd_p σ σ1 → jx_S X emb (pc + 3) lv (.int r :: rest) σ1 (jd_b (A r σ1) K)) : jx_S X emb pc lv (b6 :: b5 :: b4 :: b3 :: b2 :: b1 :: rest) σ (jd_b (jd_b c1 A) K) := jxd_cS (As := [b1, b2, b3, b4, b5, b6]) hX hf hM hdd hr hd rfl k
theorem jx_cV6l (hX : jd_C X own nm cc nL ret) {idx a ci N : Nat} {b1 b2 b3 b4 b5 b6 : Value} {A : Int64 → jd_Hp → Option (τ × jd_Hp)} {c1 : Option (Int64 × jd_Hp)} (hf : jd_mv own idx ci N y cc' nL' ret' 6) (hM : jd_M (jd_gl X) (jd_gs X) (jd_gG X) y cc' nL' ret' d' je_l (jd_v (jd_gG X) (some a) :: [b1, b2, b3, b4, b5, b6]) σ c1) (hdd : d' + 1 ≤ jd_dp X) (hr : (rest.map fun v => v.category).sum ≤ 8) (hd : decode cc pc = .ok (.invokevirtual idx, 3)) (ha : σ.1[a]? = some (ci, N)) (k : ∀ (r : Int64) σ1, jd_p σ σ1 → jx_S X emb (pc + 3) lv (.long r :: rest) σ1 (jd_b (A r σ1) K)) : jx_S X emb pc lv (b6 :: b5 :: b4 :: b3 :: b2 :: b1 :: jd_v (jd_gG X) (some a) :: rest) σ (jd_b (jd_b c1 A) K) := jxd_cV (As := [b1, b2, b3, b4, b5, b6]) hX hf hM hdd hr hd ha rfl k
theorem jx_cS6l (hX : jd_C X own nm cc nL ret) {idx : Nat} {b1 b2 b3 b4 b5 b6 : Value} {A : Int64 → jd_Hp → Option (τ × jd_Hp)} {c1 : Option (Int64 × jd_Hp)} (hf : jd_st own idx y cc' nL' ret' 6) (hM : jd_M (jd_gl X) (jd_gs X) (jd_gG X) y cc' nL' ret' d' je_l [b1, b2, b3, b4, b5, b6] σ c1) (hdd : d' + 1 ≤ jd_dp X) (hr : (rest.map fun v => v.category).sum ≤ 8) (hd : decode cc pc = .ok (.invokestatic idx, 3)) (k : ∀ (r : Int64) σ1, jd_p σ σ1 → jx_S X emb (pc + 3) lv (.long r :: rest) σ1 (jd_b (A r σ1) K)) : jx_S X emb pc lv (b6 :: b5 :: b4 :: b3 :: b2 :: b1 :: rest) σ (jd_b (jd_b c1 A) K) := jxd_cS (As := [b1, b2, b3, b4, b5, b6]) hX hf hM hdd hr hd rfl k
theorem jx_cV6v (hX : jd_C X own nm cc nL ret) {idx a ci N : Nat} {b1 b2 b3 b4 b5 b6 : Value} {A : Unit → jd_Hp → Option (τ × jd_Hp)} {c1 : Option (Unit × jd_Hp)} (hf : jd_mv own idx ci N y cc' nL' ret' 6) (hM : jd_M (jd_gl X) (jd_gs X) (jd_gG X) y cc' nL' ret' d' je_v (jd_v (jd_gG X) (some a) :: [b1, b2, b3, b4, b5, b6]) σ c1) (hdd : d' + 1 ≤ jd_dp X) (hr : (rest.map fun v => v.category).sum ≤ 8) (hd : decode cc pc = .ok (.invokevirtual idx, 3)) (ha : σ.1[a]? = some (ci, N)) (k : ∀ (r : Unit) σ1, jd_p σ σ1 → jx_S X emb (pc + 3) lv (rest) σ1 (jd_b (A r σ1) K)) : jx_S X emb pc lv (b6 :: b5 :: b4 :: b3 :: b2 :: b1 :: jd_v (jd_gG X) (some a) :: rest) σ (jd_b (jd_b c1 A) K) := jxd_cV (As := [b1, b2, b3, b4, b5, b6]) hX hf hM hdd hr hd ha rfl k
theorem jx_cS6v (hX : jd_C X own nm cc nL ret) {idx : Nat} {b1 b2 b3 b4 b5 b6 : Value} {A : Unit → jd_Hp → Option (τ × jd_Hp)} {c1 : Option (Unit × jd_Hp)} (hf : jd_st own idx y cc' nL' ret' 6) (hM : jd_M (jd_gl X) (jd_gs X) (jd_gG X) y cc' nL' ret' d' je_v [b1, b2, b3, b4, b5, b6] σ c1) (hdd : d' + 1 ≤ jd_dp X) (hr : (rest.map fun v => v.category).sum ≤ 8) (hd : decode cc pc = .ok (.invokestatic idx, 3)) (k : ∀ (r : Unit) σ1, jd_p σ σ1 → jx_S X emb (pc + 3) lv (rest) σ1 (jd_b (A r σ1) K)) : jx_S X emb pc lv (b6 :: b5 :: b4 :: b3 :: b2 :: b1 :: rest) σ (jd_b (jd_b c1 A) K) := jxd_cS (As := [b1, b2, b3, b4, b5, b6]) hX hf hM hdd hr hd rfl k
end xJD6b
section xJXL
variable {R τ : Type} {X : jd_X} {emb : jd_X → R → jd_Hp → State → Prop} {pc : Nat} {st : List Value}
/-- a loop: 'lvf': its locals at its head -/
theorem jx_lp {S T : Type} (lvf : S → List (Option Value)) {body : S → jd_Hp → Option ((S ⊕ T) × jd_Hp)} {K : T → jd_Hp → Option (R × jd_Hp)} (h : ∀ K' : S ⊕ T → jd_Hp → Option (R × jd_Hp), (∀ s' σ', jx_S X emb pc (lvf s') st σ' (K' (.inl s') σ')) → (∀ t σ', K' (.inr t) σ' = K t σ') → ∀ s0 σ0, jx_S X emb pc (lvf s0) st σ0 (jd_b (body s0 σ0) K')) : ∀ n s0 σ0, jx_S X emb pc (lvf s0) st σ0 (jd_b (jd_lp body n s0 σ0) K) := by
  intro n
  induction n with
  | zero =>
    intro s0 σ0
    obtain ⟨p, l, e, s, m, args, below, meth, c, s0, G, d, mc, ms⟩ := X
    intro v σ' hv
    cases hv
  | succ n ih =>
    intro s0 σ0
    show jx_S X emb pc (lvf s0) st σ0 (jd_b (jd_b (body s0 σ0) (jd_q (fun s' σ' => jd_lp body n s' σ') jd_K0)) K)
    rw [jd_b_b]
    exact h _ (fun s' σ' => ih s' σ') (fun t σ' => rfl) s0 σ0
end xJXL
section xJD7
variable {R τ : Type} {X : jd_X} {emb : jd_X → R → jd_Hp → State → Prop} {own nm : String} {cc : ByteArray} {nL : Nat} {ret : Option FieldType} {pc : Nat} {lv : List (Option Value)} {st : List Value} {σ : jd_Hp} {cm : Option (R × jd_Hp)} {K : τ → jd_Hp → Option (R × jd_Hp)}
theorem jx_li {α : Type} {v : α} {A : α → Option (τ × jd_Hp)} (k : jx_S X emb pc lv st σ (jd_b (A v) K)) : jx_S X emb pc lv st σ (jd_b (jd_li v A) K) := k
theorem jx_join {T : Type} {c1 : Option (T × jd_Hp)} {A : T → jd_Hp → Option (τ × jd_Hp)} (J : Nat) (lvj : T → List (Option Value)) (stj : T → List Value) (hJ : ∀ t σ1, jx_S X emb J (lvj t) (stj t) σ1 (jd_b (A t σ1) K)) (h : ∀ K' : T → jd_Hp → Option (R × jd_Hp), (∀ t σ1, jx_S X emb J (lvj t) (stj t) σ1 (K' t σ1)) → jx_S X emb pc lv st σ (jd_b c1 K')) : jx_S X emb pc lv st σ (jd_b (jd_b c1 A) K) := by
  rw [jd_b_b]
  exact h _ hJ
theorem jx_loop {S T : Type} {body : S → jd_Hp → Option ((S ⊕ T) × jd_Hp)} {A : T → jd_Hp → Option (τ × jd_Hp)} {n : Nat} (lvf : S → List (Option Value)) (lvx : T → List (Option Value)) (E : Nat) (s0 : S) (hE : ∀ t σ1, jx_S X emb E (lvx t) st σ1 (jd_b (A t σ1) K)) (h : ∀ K' : S ⊕ T → jd_Hp → Option (R × jd_Hp), (∀ s' σ', jx_S X emb pc (lvf s') st σ' (K' (.inl s') σ')) → (∀ t σ', jx_S X emb E (lvx t) st σ' (K' (.inr t) σ')) → ∀ s0 σ0, jx_S X emb pc (lvf s0) st σ0 (jd_b (body s0 σ0) K')) : jx_S X emb pc (lvf s0) st σ (jd_b (jd_b (jd_lp body n s0 σ) A) K) := by
  rw [jd_b_b]
  exact jx_lp lvf (fun K' hb hx => h K' hb (fun t σ' => by rw [hx]; exact hE t σ')) n s0 σ
theorem jx_loopR {S T Q : Type} {body : S → jd_Hp → Option ((S ⊕ (T ⊕ Q)) × jd_Hp)} {f : T → jd_Hp → Option (τ × jd_Hp)} {g : Q → jd_Hp → Option (τ × jd_Hp)} {n : Nat} (lvf : S → List (Option Value)) (lvx : T → List (Option Value)) (E : Nat) (s0 : S) (hE : ∀ t σ1, jx_S X emb E (lvx t) st σ1 (jd_b (f t σ1) K)) (h : ∀ K' : S ⊕ (T ⊕ Q) → jd_Hp → Option (R × jd_Hp), (∀ s' σ', jx_S X emb pc (lvf s') st σ' (K' (.inl s') σ')) → (∀ t σ', jx_S X emb E (lvx t) st σ' (K' (.inr (.inl t)) σ')) → (∀ v σ', K' (.inr (.inr v)) σ' = jd_b (g v σ') K) → ∀ s0 σ0, jx_S X emb pc (lvf s0) st σ0 (jd_b (body s0 σ0) K')) : jx_S X emb pc (lvf s0) st σ (jd_b (jd_b (jd_lp body n s0 σ) (jd_q f g)) K) := by
  rw [jd_b_b]
  exact jx_lp lvf (fun K' hb hx => h K' hb (fun t σ' => by rw [hx]; exact hE t σ') (fun v σ' => by rw [hx]; rfl)) n s0 σ

theorem jx_ck0 {x : Nat × Nat} {o : Option Nat} {A : Nat → Option (τ × jd_Hp)} (k : ∀ a, o = some a → σ.1[a]? = some x → jx_S X emb pc lv (jd_v (jd_gG X) (some a) :: st) σ (jd_b (A a) K)) : jx_S X emb pc lv (jd_v (jd_gG X) o :: st) σ (jd_b (jd_o σ x o A) K) := jx_ck (fun a e h => by subst e; exact k a rfl h)
theorem jx_ek0 {a : Nat} {o : Option Nat} (e : o = some a) (k : jx_S X emb pc lv (jd_v (jd_gG X) (some a) :: st) σ cm) : jx_S X emb pc lv (jd_v (jd_gG X) o :: st) σ cm := by
  subst e
  exact k
theorem jx_ck1 {b0 : Value} {x : Nat × Nat} {o : Option Nat} {A : Nat → Option (τ × jd_Hp)} (k : ∀ a, o = some a → σ.1[a]? = some x → jx_S X emb pc lv (b0 :: jd_v (jd_gG X) (some a) :: st) σ (jd_b (A a) K)) : jx_S X emb pc lv (b0 :: jd_v (jd_gG X) o :: st) σ (jd_b (jd_o σ x o A) K) := jx_ck (fun a e h => by subst e; exact k a rfl h)
theorem jx_ek1 {b0 : Value} {a : Nat} {o : Option Nat} (e : o = some a) (k : jx_S X emb pc lv (b0 :: jd_v (jd_gG X) (some a) :: st) σ cm) : jx_S X emb pc lv (b0 :: jd_v (jd_gG X) o :: st) σ cm := by
  subst e
  exact k
theorem jx_ck2 {b0 b1 : Value} {x : Nat × Nat} {o : Option Nat} {A : Nat → Option (τ × jd_Hp)} (k : ∀ a, o = some a → σ.1[a]? = some x → jx_S X emb pc lv (b0 :: b1 :: jd_v (jd_gG X) (some a) :: st) σ (jd_b (A a) K)) : jx_S X emb pc lv (b0 :: b1 :: jd_v (jd_gG X) o :: st) σ (jd_b (jd_o σ x o A) K) := jx_ck (fun a e h => by subst e; exact k a rfl h)
theorem jx_ek2 {b0 b1 : Value} {a : Nat} {o : Option Nat} (e : o = some a) (k : jx_S X emb pc lv (b0 :: b1 :: jd_v (jd_gG X) (some a) :: st) σ cm) : jx_S X emb pc lv (b0 :: b1 :: jd_v (jd_gG X) o :: st) σ cm := by
  subst e
  exact k
theorem jx_ck3 {b0 b1 b2 : Value} {x : Nat × Nat} {o : Option Nat} {A : Nat → Option (τ × jd_Hp)} (k : ∀ a, o = some a → σ.1[a]? = some x → jx_S X emb pc lv (b0 :: b1 :: b2 :: jd_v (jd_gG X) (some a) :: st) σ (jd_b (A a) K)) : jx_S X emb pc lv (b0 :: b1 :: b2 :: jd_v (jd_gG X) o :: st) σ (jd_b (jd_o σ x o A) K) := jx_ck (fun a e h => by subst e; exact k a rfl h)
theorem jx_ek3 {b0 b1 b2 : Value} {a : Nat} {o : Option Nat} (e : o = some a) (k : jx_S X emb pc lv (b0 :: b1 :: b2 :: jd_v (jd_gG X) (some a) :: st) σ cm) : jx_S X emb pc lv (b0 :: b1 :: b2 :: jd_v (jd_gG X) o :: st) σ cm := by
  subst e
  exact k
theorem jx_ck4 {b0 b1 b2 b3 : Value} {x : Nat × Nat} {o : Option Nat} {A : Nat → Option (τ × jd_Hp)} (k : ∀ a, o = some a → σ.1[a]? = some x → jx_S X emb pc lv (b0 :: b1 :: b2 :: b3 :: jd_v (jd_gG X) (some a) :: st) σ (jd_b (A a) K)) : jx_S X emb pc lv (b0 :: b1 :: b2 :: b3 :: jd_v (jd_gG X) o :: st) σ (jd_b (jd_o σ x o A) K) := jx_ck (fun a e h => by subst e; exact k a rfl h)
theorem jx_ek4 {b0 b1 b2 b3 : Value} {a : Nat} {o : Option Nat} (e : o = some a) (k : jx_S X emb pc lv (b0 :: b1 :: b2 :: b3 :: jd_v (jd_gG X) (some a) :: st) σ cm) : jx_S X emb pc lv (b0 :: b1 :: b2 :: b3 :: jd_v (jd_gG X) o :: st) σ cm := by
  subst e
  exact k
theorem jx_ck5 {b0 b1 b2 b3 b4 : Value} {x : Nat × Nat} {o : Option Nat} {A : Nat → Option (τ × jd_Hp)} (k : ∀ a, o = some a → σ.1[a]? = some x → jx_S X emb pc lv (b0 :: b1 :: b2 :: b3 :: b4 :: jd_v (jd_gG X) (some a) :: st) σ (jd_b (A a) K)) : jx_S X emb pc lv (b0 :: b1 :: b2 :: b3 :: b4 :: jd_v (jd_gG X) o :: st) σ (jd_b (jd_o σ x o A) K) := jx_ck (fun a e h => by subst e; exact k a rfl h)
theorem jx_ek5 {b0 b1 b2 b3 b4 : Value} {a : Nat} {o : Option Nat} (e : o = some a) (k : jx_S X emb pc lv (b0 :: b1 :: b2 :: b3 :: b4 :: jd_v (jd_gG X) (some a) :: st) σ cm) : jx_S X emb pc lv (b0 :: b1 :: b2 :: b3 :: b4 :: jd_v (jd_gG X) o :: st) σ cm := by
  subst e
  exact k
theorem jx_ck6 {b0 b1 b2 b3 b4 b5 : Value} {x : Nat × Nat} {o : Option Nat} {A : Nat → Option (τ × jd_Hp)} (k : ∀ a, o = some a → σ.1[a]? = some x → jx_S X emb pc lv (b0 :: b1 :: b2 :: b3 :: b4 :: b5 :: jd_v (jd_gG X) (some a) :: st) σ (jd_b (A a) K)) : jx_S X emb pc lv (b0 :: b1 :: b2 :: b3 :: b4 :: b5 :: jd_v (jd_gG X) o :: st) σ (jd_b (jd_o σ x o A) K) := jx_ck (fun a e h => by subst e; exact k a rfl h)
theorem jx_ek6 {b0 b1 b2 b3 b4 b5 : Value} {a : Nat} {o : Option Nat} (e : o = some a) (k : jx_S X emb pc lv (b0 :: b1 :: b2 :: b3 :: b4 :: b5 :: jd_v (jd_gG X) (some a) :: st) σ cm) : jx_S X emb pc lv (b0 :: b1 :: b2 :: b3 :: b4 :: b5 :: jd_v (jd_gG X) o :: st) σ cm := by
  subst e
  exact k
theorem jx_iaC (hX : jd_C X own nm cc nL ret) {o : Option Nat} {i : Int32} {A : Nat → Nat → Option (τ × jd_Hp)} (hd : decode cc pc = .ok (.iaload, 1)) (k : ∀ a n, o = some a → σ.1[a]? = some (20, n) → jx_S X emb (pc + 1) lv (.int (σ.2.1 a i.toNatClampNeg) :: st) σ (jd_b (A a i.toNatClampNeg) K)) : jx_S X emb pc lv (.int i :: jd_v (jd_gG X) o :: st) σ (jd_b (jd_ia σ 20 o i A) K) := jx_ca (fun a n e h hi => by subst e; exact jx_iald hX hd h hi (k a n rfl h))
theorem jx_baC (hX : jd_C X own nm cc nL ret) {o : Option Nat} {i : Int32} {A : Nat → Nat → Option (τ × jd_Hp)} (hd : decode cc pc = .ok (.baload, 1)) (k : ∀ a n, o = some a → σ.1[a]? = some (21, n) → jx_S X emb (pc + 1) lv (.int (σ.2.1 a i.toNatClampNeg) :: st) σ (jd_b (A a i.toNatClampNeg) K)) : jx_S X emb pc lv (.int i :: jd_v (jd_gG X) o :: st) σ (jd_b (jd_ia σ 21 o i A) K) := jx_ca (fun a n e h hi => by subst e; exact jx_bald hX hd h hi (k a n rfl h))
theorem jx_zaC (hX : jd_C X own nm cc nL ret) {o : Option Nat} {i : Int32} {A : Nat → Nat → Option (τ × jd_Hp)} (hd : decode cc pc = .ok (.baload, 1)) (k : ∀ a n, o = some a → σ.1[a]? = some (22, n) → jx_S X emb (pc + 1) lv (.int (σ.2.1 a i.toNatClampNeg) :: st) σ (jd_b (A a i.toNatClampNeg) K)) : jx_S X emb pc lv (.int i :: jd_v (jd_gG X) o :: st) σ (jd_b (jd_ia σ 22 o i A) K) := jx_ca (fun a n e h hi => by subst e; exact jx_zald hX hd h hi (k a n rfl h))
theorem jx_laC (hX : jd_C X own nm cc nL ret) {o : Option Nat} {i : Int32} {A : Nat → Nat → Option (τ × jd_Hp)} (hd : decode cc pc = .ok (.laload, 1)) (k : ∀ a n, o = some a → σ.1[a]? = some (23, n) → jx_S X emb (pc + 1) lv (.long (σ.2.2.1 a i.toNatClampNeg) :: st) σ (jd_b (A a i.toNatClampNeg) K)) : jx_S X emb pc lv (.int i :: jd_v (jd_gG X) o :: st) σ (jd_b (jd_ia σ 23 o i A) K) := jx_ca (fun a n e h hi => by subst e; exact jx_lald hX hd h hi (k a n rfl h))
theorem jx_aaC (hX : jd_C X own nm cc nL ret) {o : Option Nat} {i : Int32} {A : Nat → Nat → Option (τ × jd_Hp)} (hd : decode cc pc = .ok (.aaload, 1)) (k : ∀ a n, o = some a → σ.1[a]? = some (24, n) → jx_S X emb (pc + 1) lv (jd_v (jd_gG X) (σ.2.2.2 a i.toNatClampNeg) :: st) σ (jd_b (A a i.toNatClampNeg) K)) : jx_S X emb pc lv (.int i :: jd_v (jd_gG X) o :: st) σ (jd_b (jd_ia σ 24 o i A) K) := jx_ca (fun a n e h hi => by subst e; exact jx_aald hX hd h hi (k a n rfl h))
theorem jx_iaS (hX : jd_C X own nm cc nL ret) {o : Option Nat} {i : Int32} {x : Int32} {A : Nat → Nat → Option (τ × jd_Hp)} (hd : decode cc pc = .ok (.iastore, 1)) (k : ∀ a n, o = some a → σ.1[a]? = some (20, n) → jx_S X emb (pc + 1) lv st (jd_pi σ a i.toNatClampNeg (x)) (jd_b (A a i.toNatClampNeg) K)) : jx_S X emb pc lv (.int x :: .int i :: jd_v (jd_gG X) o :: st) σ (jd_b (jd_ia σ 20 o i A) K) := jx_ca (fun a n e h hi => by subst e; exact jx_iast hX hd h hi (k a n rfl h))
theorem jx_baS (hX : jd_C X own nm cc nL ret) {o : Option Nat} {i : Int32} {x : Int32} {A : Nat → Nat → Option (τ × jd_Hp)} (hd : decode cc pc = .ok (.bastore, 1)) (k : ∀ a n, o = some a → σ.1[a]? = some (21, n) → jx_S X emb (pc + 1) lv st (jd_pi σ a i.toNatClampNeg (vp_nar .byte x)) (jd_b (A a i.toNatClampNeg) K)) : jx_S X emb pc lv (.int x :: .int i :: jd_v (jd_gG X) o :: st) σ (jd_b (jd_ia σ 21 o i A) K) := jx_ca (fun a n e h hi => by subst e; exact jx_bast hX hd h hi (k a n rfl h))
theorem jx_zaS (hX : jd_C X own nm cc nL ret) {o : Option Nat} {i : Int32} {x : Int32} {A : Nat → Nat → Option (τ × jd_Hp)} (hd : decode cc pc = .ok (.bastore, 1)) (k : ∀ a n, o = some a → σ.1[a]? = some (22, n) → jx_S X emb (pc + 1) lv st (jd_pi σ a i.toNatClampNeg (vp_nar .boolean x)) (jd_b (A a i.toNatClampNeg) K)) : jx_S X emb pc lv (.int x :: .int i :: jd_v (jd_gG X) o :: st) σ (jd_b (jd_ia σ 22 o i A) K) := jx_ca (fun a n e h hi => by subst e; exact jx_zast hX hd h hi (k a n rfl h))
theorem jx_laS (hX : jd_C X own nm cc nL ret) {o : Option Nat} {i : Int32} {x : Int64} {A : Nat → Nat → Option (τ × jd_Hp)} (hd : decode cc pc = .ok (.lastore, 1)) (k : ∀ a n, o = some a → σ.1[a]? = some (23, n) → jx_S X emb (pc + 1) lv st (jd_pl σ a i.toNatClampNeg (x)) (jd_b (A a i.toNatClampNeg) K)) : jx_S X emb pc lv (.long x :: .int i :: jd_v (jd_gG X) o :: st) σ (jd_b (jd_ia σ 23 o i A) K) := jx_ca (fun a n e h hi => by subst e; exact jx_last hX hd h hi (k a n rfl h))
theorem jx_lnC20 (hX : jd_C X own nm cc nL ret) {o : Option Nat} {A : Nat → Option (τ × jd_Hp)} (hd : decode cc pc = .ok (.arraylength, 1)) (k : ∀ a n, o = some a → σ.1[a]? = some (20, n) → jx_S X emb (pc + 1) lv (.int (Int32.ofNat n) :: st) σ (jd_b (A n) K)) : jx_S X emb pc lv (jd_v (jd_gG X) o :: st) σ (jd_b (jd_ln σ 20 o A) K) := jx_cl (fun a n e h => by subst e; exact jx_alen20 hX hd h (k a n rfl h))
theorem jx_lnC21 (hX : jd_C X own nm cc nL ret) {o : Option Nat} {A : Nat → Option (τ × jd_Hp)} (hd : decode cc pc = .ok (.arraylength, 1)) (k : ∀ a n, o = some a → σ.1[a]? = some (21, n) → jx_S X emb (pc + 1) lv (.int (Int32.ofNat n) :: st) σ (jd_b (A n) K)) : jx_S X emb pc lv (jd_v (jd_gG X) o :: st) σ (jd_b (jd_ln σ 21 o A) K) := jx_cl (fun a n e h => by subst e; exact jx_alen21 hX hd h (k a n rfl h))
theorem jx_lnC22 (hX : jd_C X own nm cc nL ret) {o : Option Nat} {A : Nat → Option (τ × jd_Hp)} (hd : decode cc pc = .ok (.arraylength, 1)) (k : ∀ a n, o = some a → σ.1[a]? = some (22, n) → jx_S X emb (pc + 1) lv (.int (Int32.ofNat n) :: st) σ (jd_b (A n) K)) : jx_S X emb pc lv (jd_v (jd_gG X) o :: st) σ (jd_b (jd_ln σ 22 o A) K) := jx_cl (fun a n e h => by subst e; exact jx_alen22 hX hd h (k a n rfl h))
theorem jx_lnC23 (hX : jd_C X own nm cc nL ret) {o : Option Nat} {A : Nat → Option (τ × jd_Hp)} (hd : decode cc pc = .ok (.arraylength, 1)) (k : ∀ a n, o = some a → σ.1[a]? = some (23, n) → jx_S X emb (pc + 1) lv (.int (Int32.ofNat n) :: st) σ (jd_b (A n) K)) : jx_S X emb pc lv (jd_v (jd_gG X) o :: st) σ (jd_b (jd_ln σ 23 o A) K) := jx_cl (fun a n e h => by subst e; exact jx_alen23 hX hd h (k a n rfl h))
theorem jx_lnC24 (hX : jd_C X own nm cc nL ret) {o : Option Nat} {A : Nat → Option (τ × jd_Hp)} (hd : decode cc pc = .ok (.arraylength, 1)) (k : ∀ a n, o = some a → σ.1[a]? = some (24, n) → jx_S X emb (pc + 1) lv (.int (Int32.ofNat n) :: st) σ (jd_b (A n) K)) : jx_S X emb pc lv (jd_v (jd_gG X) o :: st) σ (jd_b (jd_ln σ 24 o A) K) := jx_cl (fun a n e h => by subst e; exact jx_alen24 hX hd h (k a n rfl h))
end xJD7
