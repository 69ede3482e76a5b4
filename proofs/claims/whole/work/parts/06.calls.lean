/-! JD (6): methods, calls, ends, loops -/
def je_i (r : Int32) : Option Value := some (.int r)
def je_l (r : Int64) : Option Value := some (.long r)
def je_v (_ : Unit) : Option Value := none
def jd_Pc (s0 : State) (G : jd_G) (av : List Value) (σ : jd_Hp) : Array Value → State → Prop := fun a U => a = av.toArray ∧ s0.WarmedH U.vm ∧ G.1 ≤ U.heap.size ∧ (∀ q, q < G.1 → U.heap[q]? = s0.heap[q]?) ∧ jd_H G σ U.heap
def jd_M (l : Launch) (s0 : State) (G : jd_G) (y : MethodName) (cc : ByteArray) (nL : Nat) (ret : Option FieldType) (d : Nat) {R : Type} (emb : R → Option Value) (av : List Value) (σ : jd_Hp) (cm : Option (R × jd_Hp)) : Prop :=
  ∀ (v : R) (σ' : jd_Hp), cm = some (v, σ') → (∀ X : jd_X, jd_dp X = d → jd_C X y.cls y.name cc nL ret → jd_p σ σ') ∧ Met l y [.code y cc nL ret] (jd_rm d (σ'.1.length - σ.1.length) (jd_z σ' - jd_z σ)) (jd_Pc s0 G av σ) (jd_Q G emb v σ') (σ'.1.length - σ.1.length) (jd_z σ' - jd_z σ) (fun q => G.1 ≤ q)
def jd_gl (X : jd_X) : Launch := X.2.1
def jd_gs (X : jd_X) : State := X.2.2.2.2.2.2.2.2.2.1
theorem jd_C.F {X : jd_X} {own nm : String} {cc : ByteArray} {nL : Nat} {ret : Option FieldType} (hX : jd_C X own nm cc nL ret) : jd_F (jd_gs X) (jd_gG X) := by
  obtain ⟨p, l, e, s, m, args, below, meth, c, s0, G, d, mc, ms⟩ := X
  exact hX.2.2.2.2.2.2.2.2.2.2
/-- a method, out of the walk of its body -/
theorem jd_enter {l : Launch} {s0 : State} {G : jd_G} (hF : jd_F s0 G) {y : MethodName} {cc : ByteArray} {nL : Nat} {ret : Option FieldType} {d : Nat} {R : Type} {emb : R → Option Value} {av : List Value} {σ : jd_Hp} {cm : Option (R × jd_Hp)} (hp : plainName y.cls = true) (lvf : jd_G → List (Option Value)) (hlv : (lvf G).length = nL) (hal : jd_al 0 (lvf G) = lv_args 0 av) (hlen : (lg_sl av).length ≤ nL)
    (k : ∀ X : jd_X, jd_dp X = d → jd_C X y.cls y.name cc nL ret → jd_S X emb 0 (lvf (jd_gG X)) [] σ (jd_b cm jd_K0)) : jd_M l s0 G y cc nL ret d emb av σ cm := by
  intro v σ' hv
  have hb0 : jd_b cm jd_K0 = some (v, σ') := by rw [jd_b_K0]; exact hv
  refine ⟨fun X h1 h2 => ?_, ?_⟩
  · have := k X h1 h2
    clear h1 h2 k hv
    obtain ⟨p, l, e, s, m, args, below, meth, c, s0, G, d, mc, ms⟩ := X
    exact (this v σ' hb0).1
  · refine Met.ofW (cc := cc) (maxL := nL) (ret := ret) hp rfl ?_
    intro p e s m args below meth c s₁ B hml hPc
    obtain ⟨rfl, hW, hge, hold, hH⟩ := hPc
    have hK := k (p, l, e, s, m, av.toArray, below, meth, c, s0, G, d, σ'.1.length - σ.1.length, jd_z σ' - jd_z σ) rfl ⟨B.exec, B.bytes, hml, findClass_of_methodNamed B.named, B.returns, B.notSynchronized, (name_of_methodNamed B.named B.method).1, hW, hge, hold, hF⟩ v σ' hb0
    have hl := lv_entry av (n := nL) hlen
    rw [lg_entry_eq]
    have l1 := hK.1.len
    have z1 := hK.1.z
    refine hK.2 _ s.heap [] 0 0 ⟨?_, ?_⟩ hH va_S.rf (by omega) (by omega)
    · rw [hml]; exact hlv
    · rw [hml]
      show lv_has _ nL (jd_al 0 (lvf G))
      rw [hal]
      exact hl
theorem jd_blind {s0 : State} {G : jd_G} {av : List Value} {σ : jd_Hp} : FrameBlind (jd_Pc s0 G av σ) := fun _ _ _ _ h => h
section JD6
variable {R R' τ : Type} {X : jd_X} {emb : R → Option Value} {emb' : R' → Option Value} {own nm : String} {cc : ByteArray} {nL : Nat} {ret : Option FieldType} {pc : Nat} {lv : List (Option Value)} {st rest : List Value} {σ : jd_Hp} {cm : Option (R × jd_Hp)} {K : τ → jd_Hp → Option (R × jd_Hp)} {A : R' → jd_Hp → Option (τ × jd_Hp)} {c1 : Option (R' × jd_Hp)} {y : MethodName} {cc' : ByteArray} {nL' d' : Nat} {ret' : Option FieldType} {av : List Value}
/-- what a call needs and gives, whatever its kind -/
theorem jd_call (hX : jd_C X own nm cc nL ret) (hcode : Cond.code y cc' nL' ret' ∈ jd_TB) (hM : jd_M (jd_gl X) (jd_gs X) (jd_gG X) y cc' nL' ret' d' emb' av σ c1) (hdd : d' + 1 ≤ jd_dp X) (hnl : nL' ≤ 45)
    (h : match X with
      | (p, l, e, s, m, args, below, meth, c, s0, G, d, mc, ms) => ∀ (mc1 ms1 : Nat) (Qc : Array Value → State → Outcome → State → Prop) (ls : Array Slot) (H : Heap) (locs : List Loc) (cells slots : Nat), Met l y [.code y cc' nL' ret'] (jd_rm d' mc1 ms1) (jd_Pc s0 G av σ) Qc mc1 ms1 (fun q => G.1 ≤ q) → jd_L ls c.maxLocals lv → jd_H G σ H → (∀ U : State, U.heap = H → s.WarmedH U.vm → jd_Pc s0 G av σ av.toArray U) → (∀ w ∈ [Cond.code y cc' nL' ret'], ∀ (a' : Array Value) (U : State), s.WarmedH U.vm → w.before a' U = true) → (∀ w ∈ jd_TB, w.before args s = true) → cells + mc1 ≤ mc → slots + ms1 ≤ ms → d' + 1 ≤ d → 8 + (nL' + 11) + 64 * d' ≤ 64 * d → va_Run p l e (jd_rm d mc ms) s m args below meth c H locs cells slots mc1 ms1 (F0 m pc ls st) rest (Qc av.toArray) (fun q => G.1 ≤ q))
    (k : ∀ r σ1, jd_p σ σ1 → jd_S X emb (pc + 3) lv ((emb' r).toList ++ rest) σ1 (jd_b (A r σ1) K)) : jd_S X emb pc lv st σ (jd_b (jd_b c1 A) K) := by
  have hts := jd_words hX
  revert hts
  obtain ⟨p, l, e, s, m, args, below, meth, c, s0, G, d, mc, ms⟩ := X
  intro hts
  have hts : ∀ w ∈ jd_TB, w.before args s = true := hts
  intro v σ' hv
  rw [jd_b_b] at hv
  cases hc1 : c1 with
  | none => rw [hc1] at hv; cases hv
  | some x =>
    obtain ⟨r, σ1⟩ := x
    rw [hc1] at hv
    have hv : jd_b (A r σ1) K = some (v, σ') := hv
    obtain ⟨hM1, hM2⟩ := hM r σ1 hc1
    obtain ⟨hx, hb, hml, hown, hret, hlk, hnm, hW, hge, hold, hF⟩ := hX
    have hdd : d' + 1 ≤ d := hdd
    have hcw : (Cond.code y cc' nL' ret').before args s = true := hts _ hcode
    obtain ⟨m', hm'⟩ := Cond.code_named hcw
    obtain ⟨meth', c', g1, g2, g3, g4, g5, g6, -, -⟩ := Cond.code_spec hm' hcw
    have hp : jd_p σ σ1 := hM1 (p, l, e, s, m', args, below, meth', c', s0, G, d', 0, 0) rfl ⟨hx, g3, g4, findClass_of_methodNamed hm', g5, g6, (name_of_methodNamed hm' g1).1, hW, hge, hold, hF⟩
    obtain ⟨h1, h2⟩ := k r σ1 hp v σ' hv
    refine ⟨hp.tr h1, fun ls H locs cells slots a b cS dd f => ?_⟩
    have l1 := hp.len
    have z1 := hp.z
    have l2 := h1.len
    have z2 := h1.z
    have hB : G.1 ≤ H.size := by
      have q1 : 32 ≤ σ.1.length := b.1
      have q2 : H.size + 32 = G.1 + σ.1.length := b.2.1
      omega
    have hrun := h _ _ _ ls H locs cells slots hM2 a b (fun U hU hWU => ⟨rfl, hW.trans hWU, by rw [hU]; exact hB, fun q hq => by
        rw [hU, cS.2.1 q (Nat.lt_of_lt_of_le hq hge) (fun z => absurd z (Nat.not_le.mpr hq))]
        exact hold q hq, by rw [hU]; exact b⟩) (fun w hw a' U hWU => by
        have : w = Cond.code y cc' nL' ret' := List.mem_singleton.mp hw
        subst this
        exact word_at hWU (good_of_word (List.mem_filter.mp hcode).2) hcw) hts (by omega) (by omega) hdd (by omega)
    intro T hT XT
    obtain ⟨v0, st₀, t, T', L, q0, X', hL, e1, e2, ⟨ho, hH1, hz, hk⟩, stp⟩ := hrun T hT XT
    cases ho
    rw [q0] at hz hk
    obtain ⟨t2, a1, b1⟩ := h2 ls T'.heap (locs ++ L) (cells + (σ1.1.length - σ.1.length)) (slots + (jd_z σ1 - jd_z σ)) a (by rw [e1]; exact hH1)
      ⟨Nat.le_trans cS.1 (by rw [e1]; exact hz), fun q g1 g2 => by
        rw [e1, hk q (Nat.lt_of_lt_of_le g1 cS.1) g2]
        exact cS.2.1 q g1 g2, fun q hq => by
        rcases List.mem_append.mp hq with h | h
        · exact cS.2.2 q h
        · exact hL q h⟩ (by omega) (by omega) T' rfl X'
    exact ⟨t2, stp t2 a1, b1⟩
def jd_ds (y : MethodName) (n : Nat) : Prop := y.cls ≠ "java/lang/invoke/MethodHandle" ∧ y.cls ≠ "java/lang/invoke/VarHandle" ∧ (parseMethodDescriptor y.desc).map (fun d => d.parameters.length) = some n
def jd_lk (own : String) (idx : Nat) (y : MethodName) : Prop := Cond.methodLink own idx y ∈ jd_TB ∨ ∃ host, Cond.methodLinkNest own idx y host ∈ lw_tbl
/-- a virtual call -/
def jd_mv (own : String) (idx ci N : Nat) (y : MethodName) (cc' : ByteArray) (nL' : Nat) (ret' : Option FieldType) (n : Nat) : Prop := ∃ (C : String) (T : u_T), jd_cl[ci]? = some (C, T, N) ∧ ci < 14 ∧ y.cls = C ∧ jd_lk own idx y ∧ Cond.instanceMethod y ∈ jd_TB ∧ Cond.selects C y y ∈ jd_TB ∧ Cond.initialized C ∈ jd_TB ∧ Cond.code y cc' nL' ret' ∈ jd_TB ∧ jd_ds y n ∧ nL' ≤ 45
def jd_st (own : String) (idx : Nat) (y : MethodName) (cc' : ByteArray) (nL' : Nat) (ret' : Option FieldType) (n : Nat) : Prop := jd_lk own idx y ∧ Cond.static y ∈ jd_TB ∧ Cond.initialized y.cls ∈ jd_TB ∧ Cond.code y cc' nL' ret' ∈ jd_TB ∧ jd_ds y n ∧ nL' ≤ 45
def jd_sp (own : String) (idx : Nat) (y : MethodName) (cc' : ByteArray) (nL' : Nat) (n : Nat) : Prop := jd_lk own idx y ∧ Cond.instanceMethod y ∈ jd_TB ∧ Cond.initialized y.cls ∈ jd_TB ∧ Cond.code y cc' nL' none ∈ jd_TB ∧ jd_ds y n ∧ nL' ≤ 45 ∧ y.name = "<init>"
theorem jd_cV (hX : jd_C X own nm cc nL ret) {idx a ci N : Nat} {As : List Value} (hf : jd_mv own idx ci N y cc' nL' ret' As.length) (hM : jd_M (jd_gl X) (jd_gs X) (jd_gG X) y cc' nL' ret' d' emb' (jd_v (jd_gG X) (some a) :: As) σ c1) (hdd : d' + 1 ≤ jd_dp X) (hr : (rest.map fun v => v.category).sum ≤ 8) (hd : decode cc pc = .ok (.invokevirtual idx, 3)) (ha : σ.1[a]? = some (ci, N)) (hst : st = As.reverse ++ jd_v (jd_gG X) (some a) :: rest)
    (k : ∀ r σ1, jd_p σ σ1 → jd_S X emb (pc + 3) lv ((emb' r).toList ++ rest) σ1 (jd_b (A r σ1) K)) : jd_S X emb pc lv st σ (jd_b (jd_b c1 A) K) := by
  obtain ⟨C, T, hc, h14, hyC, hlk, w1, w2, w3, w4, hds, hnl⟩ := hf
  refine jd_call hX w4 hM hdd hnl ?_ k
  obtain ⟨p, l, e, s, m, args, below, meth, c, s0, G, d, mc, ms⟩ := X
  intro mc1 ms1 Qc ls H locs cells slots hMet hL hH hPc hws hts hc1 hs1 hd1 hd2
  obtain ⟨hx, hb, hml, hown, hret, hlk2, hnm, hW, hge, hold, hF⟩ := hX
  have hK : va_K G.2.1 jd_cl (jd_tys G) s := hF.2.1.moved hW.alike
  have hrecv := va_recv hK (jd_P1 (hH.2.2.2 a _ _ ha (jd_e_ob h14))) hc (q0 := 0) rfl
  have hlen : ∀ sig, parseMethodDescriptor y.desc = some sig → As.length = sig.parameters.length := fun sig h => by
    have h2 := hds.2.2
    rw [h] at h2
    exact (Option.some.inj h2).symm
  subst hyC
  have hpre : PreV s H y.cls (G.2.2.1 a) (jd_Pc s0 G (jd_v G (some a) :: As) σ) As := ⟨jd_blind, hrecv, hPc⟩
  have hW8 : 2 * (F0 m pc ls st).monitorRoom + (rest.map fun v => v.category).sum ≤ 8 := lv_room hr
  rcases hlk with hlk | ⟨host, hlk⟩
  · exact va_runV (g := F0 m pc ls st) (As := As) (n := As.length) (nL := nL) (Ts := jd_TB) ⟨hx, hb, hml, hown, hts⟩ hMet ⟨⟨rfl, rfl, hd1, hd2, hws, List.mem_singleton.mpr rfl, hts _ w4, hts _ w3, ⟨hds.1, hds.2.1⟩, hlen, hts _ hlk⟩, hts _ w1, hts _ w2⟩ hpre rfl rfl (hL.2.1.trans hml) hst hW8 hd ⟨hc1, hs1⟩
  · obtain ⟨A0, h0, -⟩ := hF.1
    exact va_runVN (g := F0 m pc ls st) (As := As) (n := As.length) (nL := nL) (Ts := jd_TB) (host := host) ⟨hx, hb, hml, hown, hts⟩ hMet ⟨⟨⟨rfl, rfl, hd1, hd2, hws, List.mem_singleton.mpr rfl⟩, hts _ w4, hts _ w3, ⟨hds.1, hds.2.1⟩, hlen, va_Nw.use rfl (va_Nw.warmM hW (va_Nw.of rfl (h0 _ hlk)))⟩, hts _ w1, hts _ w2⟩ hpre rfl rfl (hL.2.1.trans hml) hst hW8 hd ⟨hc1, hs1⟩
theorem jd_cS (hX : jd_C X own nm cc nL ret) {idx : Nat} {As : List Value} (hf : jd_st own idx y cc' nL' ret' As.length) (hM : jd_M (jd_gl X) (jd_gs X) (jd_gG X) y cc' nL' ret' d' emb' As σ c1) (hdd : d' + 1 ≤ jd_dp X) (hr : (rest.map fun v => v.category).sum ≤ 8) (hd : decode cc pc = .ok (.invokestatic idx, 3)) (hst : st = As.reverse ++ rest)
    (k : ∀ r σ1, jd_p σ σ1 → jd_S X emb (pc + 3) lv ((emb' r).toList ++ rest) σ1 (jd_b (A r σ1) K)) : jd_S X emb pc lv st σ (jd_b (jd_b c1 A) K) := by
  obtain ⟨hlk, w1, w3, w4, hds, hnl⟩ := hf
  refine jd_call hX w4 hM hdd hnl ?_ k
  obtain ⟨p, l, e, s, m, args, below, meth, c, s0, G, d, mc, ms⟩ := X
  intro mc1 ms1 Qc ls H locs cells slots hMet hL hH hPc hws hts hc1 hs1 hd1 hd2
  obtain ⟨hx, hb, hml, hown, hret, hlk2, hnm, hW, hge, hold, hF⟩ := hX
  have hlen : ∀ sig, parseMethodDescriptor y.desc = some sig → As.length = sig.parameters.length := fun sig h => by
    have h2 := hds.2.2
    rw [h] at h2
    exact (Option.some.inj h2).symm
  have hW8 : 2 * (F0 m pc ls st).monitorRoom + (rest.map fun v => v.category).sum ≤ 8 := lv_room hr
  rcases hlk with hlk | ⟨host, hlk⟩
  · exact va_runS (g := F0 m pc ls st) (As := As) (n := As.length) (nL := nL) (Ts := jd_TB) ⟨hx, hb, hml, hown, hts⟩ hMet ⟨⟨rfl, rfl, hd1, hd2, hws, List.mem_singleton.mpr rfl, hts _ w4, hts _ w3, ⟨hds.1, hds.2.1⟩, hlen, hts _ hlk⟩, hts _ w1⟩ ⟨jd_blind, hPc⟩ rfl rfl (hL.2.1.trans hml) hst hW8 hd ⟨hc1, hs1⟩
  · obtain ⟨A0, h0, -⟩ := hF.1
    exact va_runSN (g := F0 m pc ls st) (As := As) (n := As.length) (nL := nL) (Ts := jd_TB) (host := host) ⟨hx, hb, hml, hown, hts⟩ hMet ⟨⟨⟨rfl, rfl, hd1, hd2, hws, List.mem_singleton.mpr rfl⟩, hts _ w4, hts _ w3, ⟨hds.1, hds.2.1⟩, hlen, va_Nw.use rfl (va_Nw.warmM hW (va_Nw.of rfl (h0 _ hlk)))⟩, hts _ w1, trivial⟩ ⟨jd_blind, hPc⟩ rfl rfl (hL.2.1.trans hml) hst hW8 hd ⟨hc1, hs1⟩
theorem jd_cI (hX : jd_C X own nm cc nL ret) {idx a : Nat} {As : List Value} (hf : jd_sp own idx y cc' nL' As.length) (hM : jd_M (jd_gl X) (jd_gs X) (jd_gG X) y cc' nL' none d' emb' (jd_v (jd_gG X) (some a) :: As) σ c1) (hdd : d' + 1 ≤ jd_dp X) (hr : (rest.map fun v => v.category).sum ≤ 8) (hd : decode cc pc = .ok (.invokespecial idx, 3)) (hst : st = As.reverse ++ jd_v (jd_gG X) (some a) :: rest)
    (k : ∀ r σ1, jd_p σ σ1 → jd_S X emb (pc + 3) lv ((emb' r).toList ++ rest) σ1 (jd_b (A r σ1) K)) : jd_S X emb pc lv st σ (jd_b (jd_b c1 A) K) := by
  obtain ⟨hlk, w1, w3, w4, hds, hnl, hin⟩ := hf
  refine jd_call hX w4 hM hdd hnl ?_ k
  obtain ⟨p, l, e, s, m, args, below, meth, c, s0, G, d, mc, ms⟩ := X
  intro mc1 ms1 Qc ls H locs cells slots hMet hL hH hPc hws hts hc1 hs1 hd1 hd2
  obtain ⟨hx, hb, hml, hown, hret, hlk2, hnm, hW, hge, hold, hF⟩ := hX
  have hlen : ∀ sig, parseMethodDescriptor y.desc = some sig → As.length = sig.parameters.length := fun sig h => by
    have h2 := hds.2.2
    rw [h] at h2
    exact (Option.some.inj h2).symm
  have hW8 : 2 * (F0 m pc ls st).monitorRoom + (rest.map fun v => v.category).sum ≤ 8 := lv_room hr
  rcases hlk with hlk | ⟨host, hlk⟩
  · exact va_runI (g := F0 m pc ls st) (As := As) (b := G.2.2.1 a) (n := As.length) (nL := nL) (Ts := jd_TB) ⟨hx, hb, hml, hown, hts⟩ hMet ⟨⟨rfl, rfl, hd1, hd2, hws, List.mem_singleton.mpr rfl, hts _ w4, hts _ w3, ⟨hds.1, hds.2.1⟩, hlen, hts _ hlk⟩, hin, hts _ w1⟩ ⟨jd_blind, hPc⟩ rfl rfl (hL.2.1.trans hml) hst hW8 hd ⟨hc1, hs1⟩
  · obtain ⟨A0, h0, -⟩ := hF.1
    exact va_runIN (g := F0 m pc ls st) (As := As) (b := G.2.2.1 a) (n := As.length) (nL := nL) (Ts := jd_TB) (host := host) ⟨hx, hb, hml, hown, hts⟩ hMet ⟨⟨⟨rfl, rfl, hd1, hd2, hws, List.mem_singleton.mpr rfl⟩, hts _ w4, hts _ w3, ⟨hds.1, hds.2.1⟩, hlen, va_Nw.use rfl (va_Nw.warmM hW (va_Nw.of rfl (h0 _ hlk)))⟩, hin, hts _ w1⟩ ⟨jd_blind, hPc⟩ rfl rfl (hL.2.1.trans hml) hst hW8 hd ⟨hc1, hs1⟩
end JD6
section JD6b
variable {R τ : Type} {X : jd_X} {emb : R → Option Value} {own nm : String} {cc : ByteArray} {nL : Nat} {ret : Option FieldType} {pc : Nat} {lv : List (Option Value)} {rest : List Value} {σ : jd_Hp} {K : τ → jd_Hp → Option (R × jd_Hp)} {y : MethodName} {cc' : ByteArray} {nL' d' : Nat} {ret' : Option FieldType}
theorem jr_cV0i (hX : jd_C X own nm cc nL ret) {idx a ci N : Nat} {A : Int32 → jd_Hp → Option (τ × jd_Hp)} {c1 : Option (Int32 × jd_Hp)} (hf : jd_mv own idx ci N y cc' nL' ret' 0) (hM : jd_M (jd_gl X) (jd_gs X) (jd_gG X) y cc' nL' ret' d' je_i (jd_v (jd_gG X) (some a) :: []) σ c1) (hdd : d' + 1 ≤ jd_dp X) (hr : (rest.map fun v => v.category).sum ≤ 8) (hd : decode cc pc = .ok (.invokevirtual idx, 3)) (ha : σ.1[a]? = some (ci, N)) (k : ∀ (r : Int32) σ1, jd_p σ σ1 → jd_S X emb (pc + 3) lv (.int r :: rest) σ1 (jd_b (A r σ1) K)) : jd_S X emb pc lv (jd_v (jd_gG X) (some a) :: rest) σ (jd_b (jd_b c1 A) K) := jd_cV (As := []) hX hf hM hdd hr hd ha rfl k
theorem jr_cS0i (hX : jd_C X own nm cc nL ret) {idx : Nat} {A : Int32 → jd_Hp → Option (τ × jd_Hp)} {c1 : Option (Int32 × jd_Hp)} (hf : jd_st own idx y cc' nL' ret' 0) (hM : jd_M (jd_gl X) (jd_gs X) (jd_gG X) y cc' nL' ret' d' je_i [] σ c1) (hdd : d' + 1 ≤ jd_dp X) (hr : (rest.map fun v => v.category).sum ≤ 8) (hd : decode cc pc = .ok (.invokestatic idx, 3)) (k : ∀ (r : Int32) σ1, jd_p σ σ1 → jd_S X emb (pc + 3) lv (.int r :: rest) σ1 (jd_b (A r σ1) K)) : jd_S X emb pc lv (rest) σ (jd_b (jd_b c1 A) K) := jd_cS (As := []) hX hf hM hdd hr hd rfl k
theorem jr_cV0l (hX : jd_C X own nm cc nL ret) {idx a ci N : Nat} {A : Int64 → jd_Hp → Option (τ × jd_Hp)} {c1 : Option (Int64 × jd_Hp)} (hf : jd_mv own idx ci N y cc' nL' ret' 0) (hM : jd_M (jd_gl X) (jd_gs X) (jd_gG X) y cc' nL' ret' d' je_l (jd_v (jd_gG X) (some a) :: []) σ c1) (hdd : d' + 1 ≤ jd_dp X) (hr : (rest.map fun v => v.category).sum ≤ 8) (hd : decode cc pc = .ok (.invokevirtual idx, 3)) (ha : σ.1[a]? = some (ci, N)) (k : ∀ (r : Int64) σ1, jd_p σ σ1 → jd_S X emb (pc + 3) lv (.long r :: rest) σ1 (jd_b (A r σ1) K)) : jd_S X emb pc lv (jd_v (jd_gG X) (some a) :: rest) σ (jd_b (jd_b c1 A) K) := jd_cV (As := []) hX hf hM hdd hr hd ha rfl k
theorem jr_cS0l (hX : jd_C X own nm cc nL ret) {idx : Nat} {A : Int64 → jd_Hp → Option (τ × jd_Hp)} {c1 : Option (Int64 × jd_Hp)} (hf : jd_st own idx y cc' nL' ret' 0) (hM : jd_M (jd_gl X) (jd_gs X) (jd_gG X) y cc' nL' ret' d' je_l [] σ c1) (hdd : d' + 1 ≤ jd_dp X) (hr : (rest.map fun v => v.category).sum ≤ 8) (hd : decode cc pc = .ok (.invokestatic idx, 3)) (k : ∀ (r : Int64) σ1, jd_p σ σ1 → jd_S X emb (pc + 3) lv (.long r :: rest) σ1 (jd_b (A r σ1) K)) : jd_S X emb pc lv (rest) σ (jd_b (jd_b c1 A) K) := jd_cS (As := []) hX hf hM hdd hr hd rfl k
theorem jr_cV0v (hX : jd_C X own nm cc nL ret) {idx a ci N : Nat} {A : Unit → jd_Hp → Option (τ × jd_Hp)} {c1 : Option (Unit × jd_Hp)} (hf : jd_mv own idx ci N y cc' nL' ret' 0) (hM : jd_M (jd_gl X) (jd_gs X) (jd_gG X) y cc' nL' ret' d' je_v (jd_v (jd_gG X) (some a) :: []) σ c1) (hdd : d' + 1 ≤ jd_dp X) (hr : (rest.map fun v => v.category).sum ≤ 8) (hd : decode cc pc = .ok (.invokevirtual idx, 3)) (ha : σ.1[a]? = some (ci, N)) (k : ∀ (r : Unit) σ1, jd_p σ σ1 → jd_S X emb (pc + 3) lv (rest) σ1 (jd_b (A r σ1) K)) : jd_S X emb pc lv (jd_v (jd_gG X) (some a) :: rest) σ (jd_b (jd_b c1 A) K) := jd_cV (As := []) hX hf hM hdd hr hd ha rfl k
theorem jr_cS0v (hX : jd_C X own nm cc nL ret) {idx : Nat} {A : Unit → jd_Hp → Option (τ × jd_Hp)} {c1 : Option (Unit × jd_Hp)} (hf : jd_st own idx y cc' nL' ret' 0) (hM : jd_M (jd_gl X) (jd_gs X) (jd_gG X) y cc' nL' ret' d' je_v [] σ c1) (hdd : d' + 1 ≤ jd_dp X) (hr : (rest.map fun v => v.category).sum ≤ 8) (hd : decode cc pc = .ok (.invokestatic idx, 3)) (k : ∀ (r : Unit) σ1, jd_p σ σ1 → jd_S X emb (pc + 3) lv (rest) σ1 (jd_b (A r σ1) K)) : jd_S X emb pc lv (rest) σ (jd_b (jd_b c1 A) K) := jd_cS (As := []) hX hf hM hdd hr hd rfl k
theorem jr_cI0 (hX : jd_C X own nm cc nL ret) {idx a : Nat} {A : Unit → jd_Hp → Option (τ × jd_Hp)} {c1 : Option (Unit × jd_Hp)} (hf : jd_sp own idx y cc' nL' 0) (hM : jd_M (jd_gl X) (jd_gs X) (jd_gG X) y cc' nL' none d' je_v (jd_v (jd_gG X) (some a) :: []) σ c1) (hdd : d' + 1 ≤ jd_dp X) (hr : (rest.map fun v => v.category).sum ≤ 8) (hd : decode cc pc = .ok (.invokespecial idx, 3)) (k : ∀ (r : Unit) σ1, jd_p σ σ1 → jd_S X emb (pc + 3) lv rest σ1 (jd_b (A r σ1) K)) : jd_S X emb pc lv (jd_v (jd_gG X) (some a) :: rest) σ (jd_b (jd_b c1 A) K) := jd_cI (As := []) hX hf hM hdd hr hd rfl k
theorem jr_cV1i (hX : jd_C X own nm cc nL ret) {idx a ci N : Nat} {b1 : Value} {A : Int32 → jd_Hp → Option (τ × jd_Hp)} {c1 : Option (Int32 × jd_Hp)} (hf : jd_mv own idx ci N y cc' nL' ret' 1) (hM : jd_M (jd_gl X) (jd_gs X) (jd_gG X) y cc' nL' ret' d' je_i (jd_v (jd_gG X) (some a) :: [b1]) σ c1) (hdd : d' + 1 ≤ jd_dp X) (hr : (rest.map fun v => v.category).sum ≤ 8) (hd : decode cc pc = .ok (.invokevirtual idx, 3)) (ha : σ.1[a]? = some (ci, N)) (k : ∀ (r : Int32) σ1, jd_p σ σ1 → jd_S X emb (pc + 3) lv (.int r :: rest) σ1 (jd_b (A r σ1) K)) : jd_S X emb pc lv (b1 :: jd_v (jd_gG X) (some a) :: rest) σ (jd_b (jd_b c1 A) K) := jd_cV (As := [b1]) hX hf hM hdd hr hd ha rfl k
theorem jr_cS1i (hX : jd_C X own nm cc nL ret) {idx : Nat} {b1 : Value} {A : Int32 → jd_Hp → Option (τ × jd_Hp)} {c1 : Option (Int32 × jd_Hp)} (hf : jd_st own idx y cc' nL' ret' 1) (hM : jd_M (jd_gl X) (jd_gs X) (jd_gG X) y cc' nL' ret' d' je_i [b1] σ c1) (hdd : d' + 1 ≤ jd_dp X) (hr : (rest.map fun v => v.category).sum ≤ 8) (hd : decode cc pc = .ok (.invokestatic idx, 3)) (k : ∀ (r : Int32) σ1, jd_p σ σ1 → jd_S X emb (pc + 3) lv (.int r :: rest) σ1 (jd_b (A r σ1) K)) : jd_S X emb pc lv (b1 :: rest) σ (jd_b (jd_b c1 A) K) := jd_cS (As := [b1]) hX hf hM hdd hr hd rfl k
theorem jr_cV1l (hX : jd_C X own nm cc nL ret) {idx a ci N : Nat} {b1 : Value} {A : Int64 → jd_Hp → Option (τ × jd_Hp)} {c1 : Option (Int64 × jd_Hp)} (hf : jd_mv own idx ci N y cc' nL' ret' 1) (hM : jd_M (jd_gl X) (jd_gs X) (jd_gG X) y cc' nL' ret' d' je_l (jd_v (jd_gG X) (some a) :: [b1]) σ c1) (hdd : d' + 1 ≤ jd_dp X) (hr : (rest.map fun v => v.category).sum ≤ 8) (hd : decode cc pc = .ok (.invokevirtual idx, 3)) (ha : σ.1[a]? = some (ci, N)) (k : ∀ (r : Int64) σ1, jd_p σ σ1 → jd_S X emb (pc + 3) lv (.long r :: rest) σ1 (jd_b (A r σ1) K)) : jd_S X emb pc lv (b1 :: jd_v (jd_gG X) (some a) :: rest) σ (jd_b (jd_b c1 A) K) := jd_cV (As := [b1]) hX hf hM hdd hr hd ha rfl k
theorem jr_cS1l (hX : jd_C X own nm cc nL ret) {idx : Nat} {b1 : Value} {A : Int64 → jd_Hp → Option (τ × jd_Hp)} {c1 : Option (Int64 × jd_Hp)} (hf : jd_st own idx y cc' nL' ret' 1) (hM : jd_M (jd_gl X) (jd_gs X) (jd_gG X) y cc' nL' ret' d' je_l [b1] σ c1) (hdd : d' + 1 ≤ jd_dp X) (hr : (rest.map fun v => v.category).sum ≤ 8) (hd : decode cc pc = .ok (.invokestatic idx, 3)) (k : ∀ (r : Int64) σ1, jd_p σ σ1 → jd_S X emb (pc + 3) lv (.long r :: rest) σ1 (jd_b (A r σ1) K)) : jd_S X emb pc lv (b1 :: rest) σ (jd_b (jd_b c1 A) K) := jd_cS (As := [b1]) hX hf hM hdd hr hd rfl k
theorem jr_cV1v (hX : jd_C X own nm cc nL ret) {idx a ci N : Nat} {b1 : Value} {A : Unit → jd_Hp → Option (τ × jd_Hp)} {c1 : Option (Unit × jd_Hp)} (hf : jd_mv own idx ci N y cc' nL' ret' 1) (hM : jd_M (jd_gl X) (jd_gs X) (jd_gG X) y cc' nL' ret' d' je_v (jd_v (jd_gG X) (some a) :: [b1]) σ c1) (hdd : d' + 1 ≤ jd_dp X) (hr : (rest.map fun v => v.category).sum ≤ 8) (hd : decode cc pc = .ok (.invokevirtual idx, 3)) (ha : σ.1[a]? = some (ci, N)) (k : ∀ (r : Unit) σ1, jd_p σ σ1 → jd_S X emb (pc + 3) lv (rest) σ1 (jd_b (A r σ1) K)) : jd_S X emb pc lv (b1 :: jd_v (jd_gG X) (some a) :: rest) σ (jd_b (jd_b c1 A) K) := jd_cV (As := [b1]) hX hf hM hdd hr hd ha rfl k
theorem jr_cS1v (hX : jd_C X own nm cc nL ret) {idx : Nat} {b1 : Value} {A : Unit → jd_Hp → Option (τ × jd_Hp)} {c1 : Option (Unit × jd_Hp)} (hf : jd_st own idx y cc' nL' ret' 1) (hM : jd_M (jd_gl X) (jd_gs X) (jd_gG X) y cc' nL' ret' d' je_v [b1] σ c1) (hdd : d' + 1 ≤ jd_dp X) (hr : (rest.map fun v => v.category).sum ≤ 8) (hd : decode cc pc = .ok (.invokestatic idx, 3)) (k : ∀ (r : Unit) σ1, jd_p σ σ1 → jd_S X emb (pc + 3) lv (rest) σ1 (jd_b (A r σ1) K)) : jd_S X emb pc lv (b1 :: rest) σ (jd_b (jd_b c1 A) K) := jd_cS (As := [b1]) hX hf hM hdd hr hd rfl k
theorem jr_cI1 (hX : jd_C X own nm cc nL ret) {idx a : Nat} {b1 : Value} {A : Unit → jd_Hp → Option (τ × jd_Hp)} {c1 : Option (Unit × jd_Hp)} (hf : jd_sp own idx y cc' nL' 1) (hM : jd_M (jd_gl X) (jd_gs X) (jd_gG X) y cc' nL' none d' je_v (jd_v (jd_gG X) (some a) :: [b1]) σ c1) (hdd : d' + 1 ≤ jd_dp X) (hr : (rest.map fun v => v.category).sum ≤ 8) (hd : decode cc pc = .ok (.invokespecial idx, 3)) (k : ∀ (r : Unit) σ1, jd_p σ σ1 → jd_S X emb (pc + 3) lv rest σ1 (jd_b (A r σ1) K)) : jd_S X emb pc lv (b1 :: jd_v (jd_gG X) (some a) :: rest) σ (jd_b (jd_b c1 A) K) := jd_cI (As := [b1]) hX hf hM hdd hr hd rfl k
theorem jr_cV2i (hX : jd_C X own nm cc nL ret) {idx a ci N : Nat} {b1 b2 : Value} {A : Int32 → jd_Hp → Option (τ × jd_Hp)} {c1 : Option (Int32 × jd_Hp)} (hf : jd_mv own idx ci N y cc' nL' ret' 2) (hM : jd_M (jd_gl X) (jd_gs X) (jd_gG X) y cc' nL' ret' d' je_i (jd_v (jd_gG X) (some a) :: [b1, b2]) σ c1) (hdd : d' + 1 ≤ jd_dp X) (hr : (rest.map fun v => v.category).sum ≤ 8) (hd : decode cc pc = .ok (.invokevirtual idx, 3)) (ha : σ.1[a]? = some (ci, N)) (k : ∀ (r : Int32) σ1, jd_p σ σ1 → jd_S X emb (pc + 3) lv (.int r :: rest) σ1 (jd_b (A r σ1) K)) : jd_S X emb pc lv (b2 :: b1 :: jd_v (jd_gG X) (some a) :: rest) σ (jd_b (jd_b c1 A) K) := jd_cV (As := [b1, b2]) hX hf hM hdd hr hd ha rfl k
theorem jr_cS2i (hX : jd_C X own nm cc nL ret) {idx : Nat} {b1 b2 : Value} {A : Int32 → jd_Hp → Option (τ × jd_Hp)} {c1 : Option (Int32 × jd_Hp)} (hf : jd_st own idx y cc' nL' ret' 2) (hM : jd_M (jd_gl X) (jd_gs X) (jd_gG X) y cc' nL' ret' d' je_i [b1, b2] σ c1) (hdd : d' + 1 ≤ jd_dp X) (hr : (rest.map fun v => v.category).sum ≤ 8) (hd : decode cc pc = .ok (.invokestatic idx, 3)) (k : ∀ (r : Int32) σ1, jd_p σ σ1 → jd_S X emb (pc + 3) lv (.int r :: rest) σ1 (jd_b (A r σ1) K)) : jd_S X emb pc lv (b2 :: b1 :: rest) σ (jd_b (jd_b c1 A) K) := jd_cS (As := [b1, b2]) hX hf hM hdd hr hd rfl k
theorem jr_cV2l (hX : jd_C X own nm cc nL ret) {idx a ci N : Nat} {b1 b2 : Value} {A : Int64 → jd_Hp → Option (τ × jd_Hp)} {c1 : Option (Int64 × jd_Hp)} (hf : jd_mv own idx ci N y cc' nL' ret' 2) (hM : jd_M (jd_gl X) (jd_gs X) (jd_gG X) y cc' nL' ret' d' je_l (jd_v (jd_gG X) (some a) :: [b1, b2]) σ c1) (hdd : d' + 1 ≤ jd_dp X) (hr : (rest.map fun v => v.category).sum ≤ 8) (hd : decode cc pc = .ok (.invokevirtual idx, 3)) (ha : σ.1[a]? = some (ci, N)) (k : ∀ (r : Int64) σ1, jd_p σ σ1 → jd_S X emb (pc + 3) lv (.long r :: rest) σ1 (jd_b (A r σ1) K)) : jd_S X emb pc lv (b2 :: b1 :: jd_v (jd_gG X) (some a) :: rest) σ (jd_b (jd_b c1 A) K) := jd_cV (As := [b1, b2]) hX hf hM hdd hr hd ha rfl k
theorem jr_cS2l (hX : jd_C X own nm cc nL ret) {idx : Nat} {b1 b2 : Value} {A : Int64 → jd_Hp → Option (τ × jd_Hp)} {c1 : Option (Int64 × jd_Hp)} (hf : jd_st own idx y cc' nL' ret' 2) (hM : jd_M (jd_gl X) (jd_gs X) (jd_gG X) y cc' nL' ret' d' je_l [b1, b2] σ c1) (hdd : d' + 1 ≤ jd_dp X) (hr : (rest.map fun v => v.category).sum ≤ 8) (hd : decode cc pc = .ok (.invokestatic idx, 3)) (k : ∀ (r : Int64) σ1, jd_p σ σ1 → jd_S X emb (pc + 3) lv (.long r :: rest) σ1 (jd_b (A r σ1) K)) : jd_S X emb pc lv (b2 :: b1 :: rest) σ (jd_b (jd_b c1 A) K) := jd_cS (As := [b1, b2]) hX hf hM hdd hr hd rfl k
theorem jr_cV2v (hX : jd_C X own nm cc nL ret) {idx a ci N : Nat} {b1 b2 : Value} {A : Unit → jd_Hp → Option (τ × jd_Hp)} {c1 : Option (Unit × jd_Hp)} (hf : jd_mv own idx ci N y cc' nL' ret' 2) (hM : jd_M (jd_gl X) (jd_gs X) (jd_gG X) y cc' nL' ret' d' je_v (jd_v (jd_gG X) (some a) :: [b1, b2]) σ c1) (hdd : d' + 1 ≤ jd_dp X) (hr : (rest.map fun v => v.category).sum ≤ 8) (hd : decode cc pc = .ok (.invokevirtual idx, 3)) (ha : σ.1[a]? = some (ci, N)) (k : ∀ (r : Unit) σ1, jd_p σ σ1 → jd_S X emb (pc + 3) lv (rest) σ1 (jd_b (A r σ1) K)) : jd_S X emb pc lv (b2 :: b1 :: jd_v (jd_gG X) (some a) :: rest) σ (jd_b (jd_b c1 A) K) := jd_cV (As := [b1, b2]) hX hf hM hdd hr hd ha rfl k
theorem jr_cS2v (hX : jd_C X own nm cc nL ret) {idx : Nat} {b1 b2 : Value} {A : Unit → jd_Hp → Option (τ × jd_Hp)} {c1 : Option (Unit × jd_Hp)} (hf : jd_st own idx y cc' nL' ret' 2) (hM : jd_M (jd_gl X) (jd_gs X) (jd_gG X) y cc' nL' ret' d' je_v [b1, b2] σ c1) (hdd : d' + 1 ≤ jd_dp X) (hr : (rest.map fun v => v.category).sum ≤ 8) (hd : decode cc pc = .ok (.invokestatic idx, 3)) (k : ∀ (r : Unit) σ1, jd_p σ σ1 → jd_S X emb (pc + 3) lv (rest) σ1 (jd_b (A r σ1) K)) : jd_S X emb pc lv (b2 :: b1 :: rest) σ (jd_b (jd_b c1 A) K) := jd_cS (As := [b1, b2]) hX hf hM hdd hr hd rfl k
theorem jr_cI2 (hX : jd_C X own nm cc nL ret) {idx a : Nat} {b1 b2 : Value} {A : Unit → jd_Hp → Option (τ × jd_Hp)} {c1 : Option (Unit × jd_Hp)} (hf : jd_sp own idx y cc' nL' 2) (hM : jd_M (jd_gl X) (jd_gs X) (jd_gG X) y cc' nL' none d' je_v (jd_v (jd_gG X) (some a) :: [b1, b2]) σ c1) (hdd : d' + 1 ≤ jd_dp X) (hr : (rest.map fun v => v.category).sum ≤ 8) (hd : decode cc pc = .ok (.invokespecial idx, 3)) (k : ∀ (r : Unit) σ1, jd_p σ σ1 → jd_S X emb (pc + 3) lv rest σ1 (jd_b (A r σ1) K)) : jd_S X emb pc lv (b2 :: b1 :: jd_v (jd_gG X) (some a) :: rest) σ (jd_b (jd_b c1 A) K) := jd_cI (As := [b1, b2]) hX hf hM hdd hr hd rfl k
theorem jr_cV3i (hX : jd_C X own nm cc nL ret) {idx a ci N : Nat} {b1 b2 b3 : Value} {A : Int32 → jd_Hp → Option (τ × jd_Hp)} {c1 : Option (Int32 × jd_Hp)} (hf : jd_mv own idx ci N y cc' nL' ret' 3) (hM : jd_M (jd_gl X) (jd_gs X) (jd_gG X) y cc' nL' ret' d' je_i (jd_v (jd_gG X) (some a) :: [b1, b2, b3]) σ c1) (hdd : d' + 1 ≤ jd_dp X) (hr : (rest.map fun v => v.category).sum ≤ 8) (hd : decode cc pc = .ok (.invokevirtual idx, 3)) (ha : σ.1[a]? = some (ci, N)) (k : ∀ (r : Int32) σ1, jd_p σ σ1 → jd_S X emb (pc + 3) lv (.int r :: rest) σ1 (jd_b (A r σ1) K)) : jd_S X emb pc lv (b3 :: b2 :: b1 :: jd_v (jd_gG X) (some a) :: rest) σ (jd_b (jd_b c1 A) K) := jd_cV (As := [b1, b2, b3]) hX hf hM hdd hr hd ha rfl k
theorem jr_cS3i (hX : jd_C X own nm cc nL ret) {idx : Nat} {b1 b2 b3 : Value} {A : Int32 → jd_Hp → Option (τ × jd_Hp)} {c1 : Option (Int32 × jd_Hp)} (hf : jd_st own idx y cc' nL' ret' 3) (hM : jd_M (jd_gl X) (jd_gs X) (jd_gG X) y cc' nL' ret' d' je_i [b1, b2, b3] σ c1) (hdd : d' + 1 ≤ jd_dp X) (hr : (rest.map fun v => v.category).sum ≤ 8) (hd : decode cc pc = .ok (.invokestatic idx, 3)) (k : ∀ (r : Int32) σ1, jd_p σ σ1 → jd_S X emb (pc + 3) lv (.int r :: rest) σ1 (jd_b (A r σ1) K)) : jd_S X emb pc lv (b3 :: b2 :: b1 :: rest) σ (jd_b (jd_b c1 A) K) := jd_cS (As := [b1, b2, b3]) hX hf hM hdd hr hd rfl k
theorem jr_cV3l (hX : jd_C X own nm cc nL ret) {idx a ci N : Nat} {b1 b2 b3 : Value} {A : Int64 → jd_Hp → Option (τ × jd_Hp)} {c1 : Option (Int64 × jd_Hp)} (hf : jd_mv own idx ci N y cc' nL' ret' 3) (hM : jd_M (jd_gl X) (jd_gs X) (jd_gG X) y cc' nL' ret' d' je_l (jd_v (jd_gG X) (some a) :: [b1, b2, b3]) σ c1) (hdd : d' + 1 ≤ jd_dp X) (hr : (rest.map fun v => v.category).sum ≤ 8) (hd : decode cc pc = .ok (.invokevirtual idx, 3)) (ha : σ.1[a]? = some (ci, N)) (k : ∀ (r : Int64) σ1, jd_p σ σ1 → jd_S X emb (pc + 3) lv (.long r :: rest) σ1 (jd_b (A r σ1) K)) : jd_S X emb pc lv (b3 :: b2 :: b1 :: jd_v (jd_gG X) (some a) :: rest) σ (jd_b (jd_b c1 A) K) := jd_cV (As := [b1, b2, b3]) hX hf hM hdd hr hd ha rfl k
theorem jr_cS3l (hX : jd_C X own nm cc nL ret) {idx : Nat} {b1 b2 b3 : Value} {A : Int64 → jd_Hp → Option (τ × jd_Hp)} {c1 : Option (Int64 × jd_Hp)} (hf : jd_st own idx y cc' nL' ret' 3) (hM : jd_M (jd_gl X) (jd_gs X) (jd_gG X) y cc' nL' ret' d' je_l [b1, b2, b3] σ c1) (hdd : d' + 1 ≤ jd_dp X) (hr : (rest.map fun v => v.category).sum ≤ 8) (hd : decode cc pc = .ok (.invokestatic idx, 3)) (k : ∀ (r : Int64) σ1, jd_p σ σ1 → jd_S X emb (pc + 3) lv (.long r :: rest) σ1 (jd_b (A r σ1) K)) : jd_S X emb pc lv (b3 :: b2 :: b1 :: rest) σ (jd_b (jd_b c1 A) K) := jd_cS (As := [b1, b2, b3]) hX hf hM hdd hr hd rfl k
theorem jr_cV3v (hX : jd_C X own nm cc nL ret) {idx a ci N : Nat} {b1 b2 b3 : Value} {A : Unit → jd_Hp → Option (τ × jd_Hp)} {c1 : Option (Unit × jd_Hp)} (hf : jd_mv own idx ci N y cc' nL' ret' 3) (hM : jd_M (jd_gl X) (jd_gs X) (jd_gG X) y cc' nL' ret' d' je_v (jd_v (jd_gG X) (some a) :: [b1, b2, b3]) σ c1) (hdd : d' + 1 ≤ jd_dp X) (hr : (rest.map fun v => v.category).sum ≤ 8) (hd : decode cc pc = .ok (.invokevirtual idx, 3)) (ha : σ.1[a]? = some (ci, N)) (k : ∀ (r : Unit) σ1, jd_p σ σ1 → jd_S X emb (pc + 3) lv (rest) σ1 (jd_b (A r σ1) K)) : jd_S X emb pc lv (b3 :: b2 :: b1 :: jd_v (jd_gG X) (some a) :: rest) σ (jd_b (jd_b c1 A) K) := jd_cV (As := [b1, b2, b3]) hX hf hM hdd hr hd ha rfl k
theorem jr_cS3v (hX : jd_C X own nm cc nL ret) {idx : Nat} {b1 b2 b3 : Value} {A : Unit → jd_Hp → Option (τ × jd_Hp)} {c1 : Option (Unit × jd_Hp)} (hf : jd_st own idx y cc' nL' ret' 3) (hM : jd_M (jd_gl X) (jd_gs X) (jd_gG X) y cc' nL' ret' d' je_v [b1, b2, b3] σ c1) (hdd : d' + 1 ≤ jd_dp X) (hr : (rest.map fun v => v.category).sum ≤ 8) (hd : decode cc pc = .ok (.invokestatic idx, 3)) (k : ∀ (r : Unit) σ1, jd_p σ σ1 → jd_S X emb (pc + 3) lv (rest) σ1 (jd_b (A r σ1) K)) : jd_S X emb pc lv (b3 :: b2 :: b1 :: rest) σ (jd_b (jd_b c1 A) K) := jd_cS (As := [b1, b2, b3]) hX hf hM hdd hr hd rfl k
theorem jr_cV4i (hX : jd_C X own nm cc nL ret) {idx a ci N : Nat} {b1 b2 b3 b4 : Value} {A : Int32 → jd_Hp → Option (τ × jd_Hp)} {c1 : Option (Int32 × jd_Hp)} (hf : jd_mv own idx ci N y cc' nL' ret' 4) (hM : jd_M (jd_gl X) (jd_gs X) (jd_gG X) y cc' nL' ret' d' je_i (jd_v (jd_gG X) (some a) :: [b1, b2, b3, b4]) σ c1) (hdd : d' + 1 ≤ jd_dp X) (hr : (rest.map fun v => v.category).sum ≤ 8) (hd : decode cc pc = .ok (.invokevirtual idx, 3)) (ha : σ.1[a]? = some (ci, N)) (k : ∀ (r : Int32) σ1, jd_p σ σ1 → jd_S X emb (pc + 3) lv (.int r :: rest) σ1 (jd_b (A r σ1) K)) : jd_S X emb pc lv (b4 :: b3 :: b2 :: b1 :: jd_v (jd_gG X) (some a) :: rest) σ (jd_b (jd_b c1 A) K) := jd_cV (As := [b1, b2, b3, b4]) hX hf hM hdd hr hd ha rfl k
theorem jr_cS4i (hX : jd_C X own nm cc nL ret) {idx : Nat} {b1 b2 b3 b4 : Value} {A : Int32 → jd_Hp → Option (τ × jd_Hp)} {c1 : Option (Int32 × jd_Hp)} (hf : jd_st own idx y cc' nL' ret' 4) (hM : jd_M (jd_gl X) (jd_gs X) (jd_gG X) y cc' nL' ret' d' je_i [b1, b2, b3, b4] σ c1) (hdd : d' + 1 ≤ jd_dp X) (hr : (rest.map fun v => v.category).sum ≤ 8) (hd : decode cc pc = .ok (.invokestatic idx, 3)) (k : ∀ (r : Int32) σ1, jd_p σ σ1 → jd_S X emb (pc + 3) lv (.int r :: rest) σ1 (jd_b (A r σ1) K)) : jd_S X emb pc lv (b4 :: b3 :: b2 :: b1 :: rest) σ (jd_b (jd_b c1 A) K) := jd_cS (As := [b1, b2, b3, b4]) hX hf hM hdd hr hd rfl k
theorem jr_cV4l (hX : jd_C X own nm cc nL ret) {idx a ci N : Nat} {b1 b2 b3 b4 : Value} {A : Int64 → jd_Hp → Option (τ × jd_Hp)} {c1 : Option (Int64 × jd_Hp)} (hf : jd_mv own idx ci N y cc' nL' ret' 4) (hM : jd_M (jd_gl X) (jd_gs X) (jd_gG X) y cc' nL' ret' d' je_l (jd_v (jd_gG X) (some a) :: [b1, b2, b3, b4]) σ c1) (hdd : d' + 1 ≤ jd_dp X) (hr : (rest.map fun v => v.category).sum ≤ 8) (hd : decode cc pc = .ok (.invokevirtual idx, 3)) (ha : σ.1[a]? = some (ci, N)) (k : ∀ (r : Int64) σ1, jd_p σ σ1 → jd_S X emb (pc + 3) lv (.long r :: rest) σ1 (jd_b (A r σ1) K)) : jd_S X emb pc lv (b4 :: b3 :: b2 :: b1 :: jd_v (jd_gG X) (some a) :: rest) σ (jd_b (jd_b c1 A) K) := jd_cV (As := [b1, b2, b3, b4]) hX hf hM hdd hr hd ha rfl k
theorem jr_cS4l (hX : jd_C X own nm cc nL ret) {idx : Nat} {b1 b2 b3 b4 : Value} {A : Int64 → jd_Hp → Option (τ × jd_Hp)} {c1 : Option (Int64 × jd_Hp)} (hf : jd_st own idx y cc' nL' ret' 4) (hM : jd_M (jd_gl X) (jd_gs X) (jd_gG X) y cc' nL' ret' d' je_l [b1, b2, b3, b4] σ c1) (hdd : d' + 1 ≤ jd_dp X) (hr : (rest.map fun v => v.category).sum ≤ 8) (hd : decode cc pc = .ok (.invokestatic idx, 3)) (k : ∀ (r : Int64) σ1, jd_p σ σ1 → jd_S X emb (pc + 3) lv (.long r :: rest) σ1 (jd_b (A r σ1) K)) : jd_S X emb pc lv (b4 :: b3 :: b2 :: b1 :: rest) σ (jd_b (jd_b c1 A) K) := jd_cS (As := [b1, b2, b3, b4]) hX hf hM hdd hr hd rfl k
theorem jr_cV4v (hX : jd_C X own nm cc nL ret) {idx a ci N : Nat} {b1 b2 b3 b4 : Value} {A : Unit → jd_Hp → Option (τ × jd_Hp)} {c1 : Option (Unit × jd_Hp)} (hf : jd_mv own idx ci N y cc' nL' ret' 4) (hM : jd_M (jd_gl X) (jd_gs X) (jd_gG X) y cc' nL' ret' d' je_v (jd_v (jd_gG X) (some a) :: [b1, b2, b3, b4]) σ c1) (hdd : d' + 1 ≤ jd_dp X) (hr : (rest.map fun v => v.category).sum ≤ 8) (hd : decode cc pc = .ok (.invokevirtual idx, 3)) (ha : σ.1[a]? = some (ci, N)) (k : ∀ (r : Unit) σ1, jd_p σ σ1 → jd_S X emb (pc + 3) lv (rest) σ1 (jd_b (A r σ1) K)) : jd_S X emb pc lv (b4 :: b3 :: b2 :: b1 :: jd_v (jd_gG X) (some a) :: rest) σ (jd_b (jd_b c1 A) K) := jd_cV (As := [b1, b2, b3, b4]) hX hf hM hdd hr hd ha rfl k
theorem jr_cS4v (hX : jd_C X own nm cc nL ret) {idx : Nat} {b1 b2 b3 b4 : Value} {A : Unit → jd_Hp → Option (τ × jd_Hp)} {c1 : Option (Unit × jd_Hp)} (hf : jd_st own idx y cc' nL' ret' 4) (hM : jd_M (jd_gl X) (jd_gs X) (jd_gG X) y cc' nL' ret' d' je_v [b1, b2, b3, b4] σ c1) (hdd : d' + 1 ≤ jd_dp X) (hr : (rest.map fun v => v.category).sum ≤ 8) (hd : decode cc pc = .ok (.invokestatic idx, 3)) (k : ∀ (r : Unit) σ1, jd_p σ σ1 → jd_S X emb (pc + 3) lv (rest) σ1 (jd_b (A r σ1) K)) : jd_S X emb pc lv (b4 :: b3 :: b2 :: b1 :: rest) σ (jd_b (jd_b c1 A) K) := jd_cS (As := [b1, b2, b3, b4]) hX hf hM hdd hr hd rfl k
theorem jr_cV5i (hX : jd_C X own nm cc nL ret) {idx a ci N : Nat} {b1 b2 b3 b4 b5 : Value} {A : Int32 → jd_Hp → Option (τ × jd_Hp)} {c1 : Option (Int32 × jd_Hp)} (hf : jd_mv own idx ci N y cc' nL' ret' 5) (hM : jd_M (jd_gl X) (jd_gs X) (jd_gG X) y cc' nL' ret' d' je_i (jd_v (jd_gG X) (some a) :: [b1, b2, b3, b4, b5]) σ c1) (hdd : d' + 1 ≤ jd_dp X) (hr : (rest.map fun v => v.category).sum ≤ 8) (hd : decode cc pc = .ok (.invokevirtual idx, 3)) (ha : σ.1[a]? = some (ci, N)) (k : ∀ (r : Int32) σ1, jd_p σ σ1 → jd_S X emb (pc + 3) lv (.int r :: rest) σ1 (jd_b (A r σ1) K)) : jd_S X emb pc lv (b5 :: b4 :: b3 :: b2 :: b1 :: jd_v (jd_gG X) (some a) :: rest) σ (jd_b (jd_b c1 A) K) := jd_cV (As := [b1, b2, b3, b4, b5]) hX hf hM hdd hr hd ha rfl k
theorem jr_cS5i (hX : jd_C X own nm cc nL ret) {idx : Nat} {b1 b2 b3 b4 b5 : Value} {A : Int32 → jd_Hp → Option (τ × jd_Hp)} {c1 : Option (Int32 × jd_Hp)} (hf : jd_st own idx y cc' nL' ret' 5) (hM : jd_M (jd_gl X) (jd_gs X) (jd_gG X) y cc' nL' ret' d' je_i [b1, b2, b3, b4, b5] σ c1) (hdd : d' + 1 ≤ jd_dp X) (hr : (rest.map fun v => v.category).sum ≤ 8) (hd : decode cc pc = .ok (.invokestatic idx, 3)) (k : ∀ (r : Int32) σ1, jd_p σ σ1 → jd_S X emb (pc + 3) lv (.int r :: rest) σ1 (jd_b (A r σ1) K)) : jd_S X emb pc lv (b5 :: b4 :: b3 :: b2 :: b1 :: rest) σ (jd_b (jd_b c1 A) K) := jd_cS (As := [b1, b2, b3, b4, b5]) hX hf hM hdd hr hd rfl k
theorem jr_cV5l (hX : jd_C X own nm cc nL ret) {idx a ci N : Nat} {b1 b2 b3 b4 b5 : Value} {A : Int64 → jd_Hp → Option (τ × jd_Hp)} {c1 : Option (Int64 × jd_Hp)} (hf : jd_mv own idx ci N y cc' nL' ret' 5) (hM : jd_M (jd_gl X) (jd_gs X) (jd_gG X) y cc' nL' ret' d' je_l (jd_v (jd_gG X) (some a) :: [b1, b2, b3, b4, b5]) σ c1) (hdd : d' + 1 ≤ jd_dp X) (hr : (rest.map fun v => v.category).sum ≤ 8) (hd : decode cc pc = .ok (.invokevirtual idx, 3)) (ha : σ.1[a]? = some (ci, N)) (k : ∀ (r : Int64) σ1, jd_p σ σ1 → jd_S X emb (pc + 3) lv (.long r :: rest) σ1 (jd_b (A r σ1) K)) : jd_S X emb pc lv (b5 :: b4 :: b3 :: b2 :: b1 :: jd_v (jd_gG X) (some a) :: rest) σ (jd_b (jd_b c1 A) K) := jd_cV (As := [b1, b2, b3, b4, b5]) hX hf hM hdd hr hd ha rfl k
theorem jr_cS5l (hX : jd_C X own nm cc nL ret) {idx : Nat} {b1 b2 b3 b4 b5 : Value} {A : Int64 → jd_Hp → Option (τ × jd_Hp)} {c1 : Option (Int64 × jd_Hp)} (hf : jd_st own idx y cc' nL' ret' 5) (hM : jd_M (jd_gl X) (jd_gs X) (jd_gG X) y cc' nL' ret' d' je_l [b1, b2, b3, b4, b5] σ c1) (hdd : d' + 1 ≤ jd_dp X) (hr : (rest.map fun v => v.category).sum ≤ 8) (hd : decode cc pc = .ok (.invokestatic idx, 3)) (k : ∀ (r : Int64) σ1, jd_p σ σ1 → jd_S X emb (pc + 3) lv (.long r :: rest) σ1 (jd_b (A r σ1) K)) : jd_S X emb pc lv (b5 :: b4 :: b3 :: b2 :: b1 :: rest) σ (jd_b (jd_b c1 A) K) := jd_cS (As := [b1, b2, b3, b4, b5]) hX hf hM hdd hr hd rfl k
theorem jr_cV5v (hX : jd_C X own nm cc nL ret) {idx a ci N : Nat} {b1 b2 b3 b4 b5 : Value} {A : Unit → jd_Hp → Option (τ × jd_Hp)} {c1 : Option (Unit × jd_Hp)} (hf : jd_mv own idx ci N y cc' nL' ret' 5) (hM : jd_M (jd_gl X) (jd_gs X) (jd_gG X) y cc' nL' ret' d' je_v (jd_v (jd_gG X) (some a) :: [b1, b2, b3, b4, b5]) σ c1) (hdd : d' + 1 ≤ jd_dp X) (hr : (rest.map fun v => v.category).sum ≤ 8) (hd : decode cc pc = .ok (.invokevirtual idx, 3)) (ha : σ.1[a]? = some (ci, N)) (k : ∀ (r : Unit) σ1, jd_p σ σ1 → jd_S X emb (pc + 3) lv (rest) σ1 (jd_b (A r σ1) K)) : jd_S X emb pc lv (b5 :: b4 :: b3 :: b2 :: b1 :: jd_v (jd_gG X) (some a) :: rest) σ (jd_b (jd_b c1 A) K) := jd_cV (As := [b1, b2, b3, b4, b5]) hX hf hM hdd hr hd ha rfl k
theorem jr_cS5v (hX : jd_C X own nm cc nL ret) {idx : Nat} {b1 b2 b3 b4 b5 : Value} {A : Unit → jd_Hp → Option (τ × jd_Hp)} {c1 : Option (Unit × jd_Hp)} (hf : jd_st own idx y cc' nL' ret' 5) (hM : jd_M (jd_gl X) (jd_gs X) (jd_gG X) y cc' nL' ret' d' je_v [b1, b2, b3, b4, b5] σ c1) (hdd : d' + 1 ≤ jd_dp X) (hr : (rest.map fun v => v.category).sum ≤ 8) (hd : decode cc pc = .ok (.invokestatic idx, 3)) (k : ∀ (r : Unit) σ1, jd_p σ σ1 → jd_S X emb (pc + 3) lv (rest) σ1 (jd_b (A r σ1) K)) : jd_S X emb pc lv (b5 :: b4 :: b3 :: b2 :: b1 :: rest) σ (jd_b (jd_b c1 A) K) := jd_cS (As := [b1, b2, b3, b4, b5]) hX hf hM hdd hr hd rfl k
theorem jr_cV6i (hX : jd_C X own nm cc nL ret) {idx a ci N : Nat} {b1 b2 b3 b4 b5 b6 : Value} {A : Int32 → jd_Hp → Option (τ × jd_Hp)} {c1 : Option (Int32 × jd_Hp)} (hf : jd_mv own idx ci N y cc' nL' ret' 6) (hM : jd_M (jd_gl X) (jd_gs X) (jd_gG X) y cc' nL' ret' d' je_i (jd_v (jd_gG X) (some a) :: [b1, b2, b3, b4, b5, b6]) σ c1) (hdd : d' + 1 ≤ jd_dp X) (hr : (rest.map fun v => v.category).sum ≤ 8) (hd : decode cc pc = .ok (.invokevirtual idx, 3)) (ha : σ.1[a]? = some (ci, N)) (k : ∀ (r : Int32) σ1, jd_p σ σ1 → jd_S X emb (pc + 3) lv (.int r :: rest) σ1 (jd_b (A r σ1) K)) : jd_S X emb pc lv (b6 :: b5 :: b4 :: b3 :: b2 :: b1 :: jd_v (jd_gG X) (some a) :: rest) σ (jd_b (jd_b c1 A) K) := jd_cV (As := [b1, b2, b3, b4, b5, b6]) hX hf hM hdd hr hd ha rfl k
theorem jr_cS6i (hX : jd_C X own nm cc nL ret) {idx : Nat} {b1 b2 b3 b4 b5 b6 : Value} {A : Int32 → jd_Hp → Option (τ × jd_Hp)} {c1 : Option (Int32 × jd_Hp)} (hf : jd_st own idx y cc' nL' ret' 6) (hM : jd_M (jd_gl X) (jd_gs X) (jd_gG X) y cc' nL' ret' d' je_i [b1, b2, b3, b4, b5, b6] σ c1) (hdd : d' + 1 ≤ jd_dp X) (hr : (rest.map fun v => v.category).sum ≤ 8) (hd : decode cc pc = .ok (.invokestatic idx, 3)) (k : ∀ (r : Int32) σ1, jd_p σ σ1 → jd_S X emb (pc + 3) lv (.int r :: rest) σ1 (jd_b (A r σ1) K)) : jd_S X emb pc lv (b6 :: b5 :: b4 :: b3 :: b2 :: b1 :: rest) σ (jd_b (jd_b c1 A) K) := jd_cS (As := [b1, b2, b3, b4, b5, b6]) hX hf hM hdd hr hd rfl k
theorem jr_cV6l (hX : jd_C X own nm cc nL ret) {idx a ci N : Nat} {b1 b2 b3 b4 b5 b6 : Value} {A : Int64 → jd_Hp → Option (τ × jd_Hp)} {c1 : Option (Int64 × jd_Hp)} (hf : jd_mv own idx ci N y cc' nL' ret' 6) (hM : jd_M (jd_gl X) (jd_gs X) (jd_gG X) y cc' nL' ret' d' je_l (jd_v (jd_gG X) (some a) :: [b1, b2, b3, b4, b5, b6]) σ c1) (hdd : d' + 1 ≤ jd_dp X) (hr : (rest.map fun v => v.category).sum ≤ 8) (hd : decode cc pc = .ok (.invokevirtual idx, 3)) (ha : σ.1[a]? = some (ci, N)) (k : ∀ (r : Int64) σ1, jd_p σ σ1 → jd_S X emb (pc + 3) lv (.long r :: rest) σ1 (jd_b (A r σ1) K)) : jd_S X emb pc lv (b6 :: b5 :: b4 :: b3 :: b2 :: b1 :: jd_v (jd_gG X) (some a) :: rest) σ (jd_b (jd_b c1 A) K) := jd_cV (As := [b1, b2, b3, b4, b5, b6]) hX hf hM hdd hr hd ha rfl k
theorem jr_cS6l (hX : jd_C X own nm cc nL ret) {idx : Nat} {b1 b2 b3 b4 b5 b6 : Value} {A : Int64 → jd_Hp → Option (τ × jd_Hp)} {c1 : Option (Int64 × jd_Hp)} (hf : jd_st own idx y cc' nL' ret' 6) (hM : jd_M (jd_gl X) (jd_gs X) (jd_gG X) y cc' nL' ret' d' je_l [b1, b2, b3, b4, b5, b6] σ c1) (hdd : d' + 1 ≤ jd_dp X) (hr : (rest.map fun v => v.category).sum ≤ 8) (hd : decode cc pc = .ok (.invokestatic idx, 3)) (k : ∀ (r : Int64) σ1, jd_p σ σ1 → jd_S X emb (pc + 3) lv (.long r :: rest) σ1 (jd_b (A r σ1) K)) : jd_S X emb pc lv (b6 :: b5 :: b4 :: b3 :: b2 :: b1 :: rest) σ (jd_b (jd_b c1 A) K) := jd_cS (As := [b1, b2, b3, b4, b5, b6]) hX hf hM hdd hr hd rfl k
theorem jr_cV6v (hX : jd_C X own nm cc nL ret) {idx a ci N : Nat} {b1 b2 b3 b4 b5 b6 : Value} {A : Unit → jd_Hp → Option (τ × jd_Hp)} {c1 : Option (Unit × jd_Hp)} (hf : jd_mv own idx ci N y cc' nL' ret' 6) (hM : jd_M (jd_gl X) (jd_gs X) (jd_gG X) y cc' nL' ret' d' je_v (jd_v (jd_gG X) (some a) :: [b1, b2, b3, b4, b5, b6]) σ c1) (hdd : d' + 1 ≤ jd_dp X) (hr : (rest.map fun v => v.category).sum ≤ 8) (hd : decode cc pc = .ok (.invokevirtual idx, 3)) (ha : σ.1[a]? = some (ci, N)) (k : ∀ (r : Unit) σ1, jd_p σ σ1 → jd_S X emb (pc + 3) lv (rest) σ1 (jd_b (A r σ1) K)) : jd_S X emb pc lv (b6 :: b5 :: b4 :: b3 :: b2 :: b1 :: jd_v (jd_gG X) (some a) :: rest) σ (jd_b (jd_b c1 A) K) := jd_cV (As := [b1, b2, b3, b4, b5, b6]) hX hf hM hdd hr hd ha rfl k
theorem jr_cS6v (hX : jd_C X own nm cc nL ret) {idx : Nat} {b1 b2 b3 b4 b5 b6 : Value} {A : Unit → jd_Hp → Option (τ × jd_Hp)} {c1 : Option (Unit × jd_Hp)} (hf : jd_st own idx y cc' nL' ret' 6) (hM : jd_M (jd_gl X) (jd_gs X) (jd_gG X) y cc' nL' ret' d' je_v [b1, b2, b3, b4, b5, b6] σ c1) (hdd : d' + 1 ≤ jd_dp X) (hr : (rest.map fun v => v.category).sum ≤ 8) (hd : decode cc pc = .ok (.invokestatic idx, 3)) (k : ∀ (r : Unit) σ1, jd_p σ σ1 → jd_S X emb (pc + 3) lv (rest) σ1 (jd_b (A r σ1) K)) : jd_S X emb pc lv (b6 :: b5 :: b4 :: b3 :: b2 :: b1 :: rest) σ (jd_b (jd_b c1 A) K) := jd_cS (As := [b1, b2, b3, b4, b5, b6]) hX hf hM hdd hr hd rfl k
end JD6b
section JD6c
variable {R τ : Type} {X : jd_X} {emb : R → Option Value} {own nm : String} {cc : ByteArray} {nL : Nat} {ret : Option FieldType} {pc : Nat} {lv : List (Option Value)} {st : List Value} {σ : jd_Hp} {K : τ → jd_Hp → Option (R × jd_Hp)}
theorem jd_end {v : R} {cm : Option (R × jd_Hp)} (hcm : cm = some (v, σ)) (h : match X with
  | (p, l, e, s, m, args, below, meth, c, _, G, d, mc, ms) => ∀ (ls : Array Slot) (H : Heap) (locs : List Loc), (∀ t : State, t.heap = H → s.WarmedH t.vm → jd_Q G emb v σ args s (.returned (emb v)) t) → (∀ q ∈ locs, G.1 ≤ q.base) → W p l e (jd_rm d mc ms) s m args below meth c H locs mc ms (MQ below (jd_Q G emb v σ) args s mc ms (fun q => G.1 ≤ q)) (F0 m pc ls st)) : jd_S X emb pc lv st σ cm := by
  obtain ⟨p, l, e, s, m, args, below, meth, c, s0, G, d, mc, ms⟩ := X
  intro v' σ' hv
  rw [hcm] at hv
  cases hv
  refine ⟨jd_p.rf σ, fun ls H locs cells slots a b cS d f => ?_⟩
  refine W.widen (k := mc) (n := ms) (by omega) (by omega) ?_
  exact h ls H locs (fun t ht _ => ⟨rfl, by rw [ht]; exact b, by rw [ht]; exact cS.1, fun q g1 g2 => by rw [ht]; exact cS.2.1 q g1 g2⟩) cS.2.2
theorem jr_iret (hX : jd_C X own nm cc nL (some .int)) {v : Int32} {cm : Option (Int32 × jd_Hp)} (hd : decode cc pc = .ok (.ireturn, 1)) (hcm : cm = some (v, σ)) : jd_S X je_i pc lv [.int v] σ cm := by
  obtain ⟨p, l, e, s, m, args, below, meth, c, s0, G, d, mc, ms⟩ := X
  refine jd_end hcm (fun ls H locs hq hf => ?_)
  exact W.iret hX.1 hX.2.1 hX.2.2.2.2.1 hq hf hd hX.2.2.2.2.2.1
theorem jr_zret (hX : jd_C X own nm cc nL (some .boolean)) {v : Int32} {cm : Option (Int32 × jd_Hp)} (hd : decode cc pc = .ok (.ireturn, 1)) (hn : v = 0 ∨ v = 1) (hcm : cm = some (v, σ)) : jd_S X je_i pc lv [.int v] σ cm := by
  obtain ⟨p, l, e, s, m, args, below, meth, c, s0, G, d, mc, ms⟩ := X
  refine jd_end hcm (fun ls H locs hq hf => ?_)
  exact W.zret hX.1 hX.2.1 hX.2.2.2.2.1 (by rcases hn with rfl | rfl <;> decide) hq hf hd hX.2.2.2.2.2.1
theorem jd_Wz {p : Program} {l : Launch} {e : Env} {R : Room} {s : State} {m : MethodId} {args : Array Value} {below : List Frame} {meth : Method} {c : Code} {H : Heap} {locs : List Loc} {cells slots : Nat} {cc : ByteArray} {Qc : Array Value → State → Outcome → State → Prop} {free : Addr → Prop} {v : Int32} (hexec : p.tables.exec = Jvm.exec) (hb : c.code = cc) (hr : meth.sig.returnType = some .boolean)
    (hq : ∀ t : State, t.heap = H → s.WarmedH t.vm → Qc args s (.returned (some (.int (v &&& 1)))) t) (hf : ∀ q ∈ locs, free q.base)
    {pc : Nat} {ls : Array Slot} (hdg : decode cc pc = .ok (.ireturn, 1)) (hlocks : meth.locks = false) : W p l e R s m args below meth c H locs cells slots (MQ below Qc args s cells slots free) (F0 m pc ls [.int v]) := by
  intro T hT X
  obtain ⟨fs, hret, hrun, hended, hW, hframe⟩ := X.leave (v := some (.int (v &&& 1))) (hlocks := hlocks) (fun h => by rw [hr] at h; cases h)
  have hmeth' : T.vm.method? m = some meth := X.method'
  have hn : narrow .boolean (.int v) = .int (v &&& 1) := rfl
  refine ⟨T.setFrames fs, ?_, .returned (some (.int (v &&& 1))), hrun, hended, hq _ hT hW, locs, ⟨⟨_, rfl⟩, hW, hframe⟩, hf⟩
  jvm_step X.here [X.here.top, hexec, hb, hdg, hmeth', hr, hn]
  (try refine ⟨rfl, ?_⟩); (try refine ⟨rfl, ?_⟩)
  first | (intro acts; rw [hret _ acts rfl rfl rfl]) | rw [hret _ _ rfl rfl rfl]
  exact Steps.refl _
theorem jr_bret (hX : jd_C X own nm cc nL (some .boolean)) {v : Int32} {cm : Option (Int32 × jd_Hp)} (hd : decode cc pc = .ok (.ireturn, 1)) (hcm : cm = some (v &&& 1, σ)) : jd_S X je_i pc lv [.int v] σ cm := by
  obtain ⟨p, l, e, s, m, args, below, meth, c, s0, G, d, mc, ms⟩ := X
  refine jd_end hcm (fun ls H locs hq hf => ?_)
  exact jd_Wz hX.1 hX.2.1 hX.2.2.2.2.1 hq hf hd hX.2.2.2.2.2.1
theorem jr_lret (hX : jd_C X own nm cc nL (some .long)) {v : Int64} {cm : Option (Int64 × jd_Hp)} (hd : decode cc pc = .ok (.lreturn, 1)) (hcm : cm = some (v, σ)) : jd_S X je_l pc lv [.long v] σ cm := by
  obtain ⟨p, l, e, s, m, args, below, meth, c, s0, G, d, mc, ms⟩ := X
  refine jd_end hcm (fun ls H locs hq hf => ?_)
  exact W.lret hX.1 hX.2.1 hX.2.2.2.2.1 hq hf hd hX.2.2.2.2.2.1
theorem jr_vret (hX : jd_C X own nm cc nL none) {cm : Option (Unit × jd_Hp)} (hd : decode cc pc = .ok (.return_, 1)) (hcm : cm = some ((), σ)) : jd_S X je_v pc lv [] σ cm := by
  obtain ⟨p, l, e, s, m, args, below, meth, c, s0, G, d, mc, ms⟩ := X
  refine jd_end hcm (fun ls H locs hq hf => ?_)
  exact W.vret hX.1 hX.2.1 hX.2.2.2.2.1 hq hf hd hX.2.2.2.2.2.1
/-- a run of its own, then the rest -/
theorem jr_seq {ρ : Type} {c1 : Option (ρ × jd_Hp)} {A : ρ → jd_Hp → Option (τ × jd_Hp)} (k : jd_S X emb pc lv st σ (jd_b c1 (fun t σ1 => jd_b (A t σ1) K))) : jd_S X emb pc lv st σ (jd_b (jd_b c1 A) K) := by
  rw [jd_b_b]
  exact k
/-- a loop: 'lvf': its locals at its head -/
theorem jr_lp {S T : Type} (lvf : S → List (Option Value)) {body : S → jd_Hp → Option ((S ⊕ T) × jd_Hp)} {K : T → jd_Hp → Option (R × jd_Hp)} (h : ∀ K' : S ⊕ T → jd_Hp → Option (R × jd_Hp), (∀ s' σ', jd_S X emb pc (lvf s') st σ' (K' (.inl s') σ')) → (∀ t σ', K' (.inr t) σ' = K t σ') → ∀ s0 σ0, jd_S X emb pc (lvf s0) st σ0 (jd_b (body s0 σ0) K')) : ∀ n s0 σ0, jd_S X emb pc (lvf s0) st σ0 (jd_b (jd_lp body n s0 σ0) K) := by
  intro n
  induction n with
  | zero =>
    intro s0 σ0
    obtain ⟨p, l, e, s, m, args, below, meth, c, s0, G, d, mc, ms⟩ := X
    intro v σ' hv
    cases hv
  | succ n ih =>
    intro s0 σ0
    show jd_S X emb pc (lvf s0) st σ0 (jd_b (jd_b (body s0 σ0) (jd_q (fun s' σ' => jd_lp body n s' σ') jd_K0)) K)
    rw [jd_b_b]
    exact h _ (fun s' σ' => ih s' σ') (fun t σ' => rfl) s0 σ0
end JD6c
