/-! the law's own rows -/
def jd_sx {α : Type} (L : Nat) (i : Int32) (A : Nat → Option (α × jd_Hp)) : Option (α × jd_Hp) := if ¬ i < 0 ∧ i.toNatClampNeg < L then A i.toNatClampNeg else none
def jd_scr (X : jd_X) (b L : Nat) (xs : Nat → Int32) : Prop := va_X b L xs (jd_es X) (jd_es X).heap ∧ b < (jd_es X).heap.size ∧ ¬ jd_A (jd_gG X) b
theorem jl_w7 : jl_cw ∈ jd_TB := jd_mem 1214 (by decide +kernel) (by decide +kernel)
theorem jl_w8 : Cond.methodLink RL 224 yL_led ∈ jd_TB := jd_mem 1212 (by decide +kernel) (by decide +kernel)
theorem jl_w9 : Cond.static yL_led ∈ jd_TB := jd_mem 1213 (by decide +kernel) (by decide +kernel)
theorem jl_w10 : Cond.initialized RL ∈ jd_TB := jd_mem 91 (by decide +kernel) (by decide +kernel)
section JLE
variable {R τ : Type} {X : jd_X} {emb : R → Option Value} {nm : String} {cc : ByteArray} {nL : Nat} {ret : Option FieldType} {pc : Nat} {lv : List (Option Value)} {st : List Value} {σ : jd_Hp} {cm : Option (R × jd_Hp)} {K : τ → jd_Hp → Option (R × jd_Hp)} {b L : Nat} {xs : Nat → Int32}
theorem jr_slenC (hX : jd_C X RL nm cc nL ret) (hsc : jd_scr X b L xs) (hd : decode cc pc = .ok (.arraylength, 1)) (k : jd_S X emb (pc + 1) lv (.int (Int32.ofNat L) :: st) σ cm) : jd_S X emb pc lv (.ref b :: st) σ cm := by
  obtain ⟨p, l, e, s, m, args, below, meth, c, s0, G, d, mc, ms⟩ := X
  exact jd_rdO (fun ls H locs cells slots Q _ hS w => va_slen hX.1 hX.2.1 hsc.1 hsc.2.1 hsc.2.2 hS hd w) k
theorem jr_sldC (hX : jd_C X RL nm cc nL ret) (hsc : jd_scr X b L xs) {i : Int32} {A : Nat → Option (τ × jd_Hp)} (hd : decode cc pc = .ok (.iaload, 1)) (k : jd_S X emb (pc + 1) lv (.int (xs i.toNatClampNeg) :: st) σ (jd_b (A i.toNatClampNeg) K)) : jd_S X emb pc lv (.int i :: .ref b :: st) σ (jd_b (jd_sx L i A) K) := by
  by_cases hc : ¬ i < 0 ∧ i.toNatClampNeg < L
  · rw [show jd_sx L i A = A i.toNatClampNeg from if_pos hc]
    have hin : vp_in i L := fun q => q.elim hc.1 (fun h => by have := hc.2; omega)
    obtain ⟨p, l, e, s, m, args, below, meth, c, s0, G, d, mc, ms⟩ := X
    exact jd_rdO (fun ls H locs cells slots Q _ hS w => va_sld hX.1 hX.2.1 hsc.1 hsc.2.1 hsc.2.2 hS hin hd w) k
  · rw [show jd_sx L i A = none from if_neg hc]
    exact jr_none
/-- the call of the law's led -/
theorem jr_cLled (hX : jd_C X RL nm cc nL ret) (hl : (jd_gl X).stackTraces = false) (hdd : 8 ≤ jd_dp X) {o0 o2 : Option Nat} {x : Int32} {rest : List Value} {A : Int32 → jd_Hp → Option (τ × jd_Hp)} (hr : (rest.map fun v => v.category).sum ≤ 8) (hd : decode cc pc = .ok (.invokestatic 224, 3))
    (k : ∀ r σ1, jd_p σ σ1 → jd_S X emb (pc + 3) lv (.int r :: rest) σ1 (jd_b (A r σ1) K)) : jd_S X emb pc lv (jd_v (jd_gG X) o2 :: .int x :: jd_v (jd_gG X) o0 :: rest) σ (jd_b (jd_b (m_L_led o0 x o2 σ) A) K) := by
  obtain ⟨p, l, e, s, m, args, below, meth, c, s0, G, d, mc, ms⟩ := X
  have hts : ∀ w ∈ jd_TB, w.before args s = true := jd_words hX
  intro v σ' hv
  rw [jd_b_b] at hv
  cases hc1 : m_L_led o0 x o2 σ with
  | none => rw [hc1] at hv; cases hv
  | some y0 =>
    obtain ⟨r, σ1⟩ := y0
    rw [hc1] at hv
    have hv : jd_b (A r σ1) K = some (v, σ') := hv
    obtain ⟨hx, hb, hml, hown, hret, hlk, hnm, hW, hge, hold, hF⟩ := hX
    obtain ⟨hM1, hM2⟩ := v_L_led (l := l) hF hl σ o0 x o2 r σ1 hc1
    have hdd : 8 ≤ d := hdd
    have hcw : jl_cw.before args s = true := hts _ jl_w7
    obtain ⟨m', meth', c', hm', g1, g2, g3, g4, g5, g6, g7, -⟩ := Cond.codeWith_spec hcw
    have htb : ∃ z : ExceptionTableEntry, c'.exceptionTable.toList = [z] ∧ covers z 4 = true ∧ z.catchType = 13 ∧ z.handlerPc = 12 := by
      cases hq : c'.exceptionTable.toList with
      | nil => rw [hq] at g5; cases g5
      | cons z t =>
        rw [hq] at g5
        cases t with
        | nil =>
          simp only [List.map_cons, List.map_nil, List.cons.injEq, Prod.mk.injEq, and_true] at g5
          obtain ⟨q1, q2, q3, q4⟩ := g5
          refine ⟨z, rfl, ?_, q4, q3⟩
          simp [covers, q1, q2]
        | cons z2 t => simp at g5
    have hp0 : jd_p σ σ1 := hM1 (p, l, e, s, m', args, below, meth', c', s0, G, 7, 0, 0) rfl hl htb ⟨hx, g3, g4, findClass_of_methodNamed hm', g6, g7, (name_of_methodNamed hm' g1).1, hW, hge, hold, hF⟩
    obtain ⟨h1, h2⟩ := k r σ1 hp0 v σ' hv
    refine ⟨hp0.tr h1, fun ls H locs cells slots a0 b cS dd ff => ?_⟩
    have l1 := hp0.len
    have z1 := hp0.z
    have l2 := h1.len
    have z2 := h1.z
    have hB : G.1 ≤ H.size := by
      have q1 : 32 ≤ σ.1.length := b.1
      have q2 : H.size + 32 = G.1 + σ.1.length := b.2.1
      omega
    have hPc : ∀ U : State, U.heap = H → s.WarmedH U.vm → jd_Pc s0 G [jd_v G o0, .int x, jd_v G o2] σ ([jd_v G o0, .int x, jd_v G o2] : List Value).toArray U := fun U hU hWU => ⟨rfl, hW.trans hWU, by rw [hU]; exact hB, fun q hq => by
        rw [hU, cS.2.1 q (Nat.lt_of_lt_of_le hq hge) (fun z => absurd z (Nat.not_le.mpr hq))]
        exact hold q hq, by rw [hU]; exact b⟩
    have hws : ∀ w ∈ [jl_cw], ∀ (a' : Array Value) (U : State), s.WarmedH U.vm → w.before a' U = true := fun w hw a' U hWU => by
        have : w = jl_cw := List.mem_singleton.mp hw
        subst this
        exact word_at hWU (good_of_word (List.mem_filter.mp jl_w7).2) hcw
    have hlen : ∀ sig, parseMethodDescriptor yL_led.desc = some sig → 3 = sig.parameters.length := fun sig h => by
      have h2 : (parseMethodDescriptor yL_led.desc).map (fun d => d.parameters.length) = some 3 := by decide +kernel
      rw [h] at h2
      exact (Option.some.inj h2).symm
    have hW8 : 2 * (F0 m pc ls (jd_v G o2 :: .int x :: jd_v G o0 :: rest)).monitorRoom + (rest.map fun v => v.category).sum ≤ 8 := lv_room hr
    have hrun := vx_runSW (e := e) (below := below) (meth := meth) (R := jd_rm d mc ms) (H := H) (locs := locs) (cells := cells) (slots := slots) (g := F0 m pc ls (jd_v G o2 :: .int x :: jd_v G o0 :: rest)) (As := [jd_v G o0, .int x, jd_v G o2]) (rest := rest) (n := 3) (nL := nL) (Ts := jd_TB) ⟨hx, hb, hml, hown, hts⟩ hM2 ⟨⟨rfl, rfl, show 7 + 1 ≤ d by omega, show 8 + (4 + 11) + 64 * 7 ≤ 64 * d by omega, hws, List.mem_singleton.mpr rfl⟩, hcw, hts _ jl_w10, ⟨by decide, by decide⟩, hlen, hts _ jl_w8, hts _ jl_w9⟩ ⟨jd_blind, hPc⟩ rfl rfl (a0.2.1.trans hml) rfl hW8 hd ⟨show cells + (σ1.1.length - σ.1.length) ≤ mc by omega, show slots + (jd_z σ1 - jd_z σ) ≤ ms by omega⟩
    intro T0 hT XT
    obtain ⟨v0, st₀, t, T', L, q0, X', hL, e1, e2, ⟨ho, hH1, hz, hk⟩, stp⟩ := hrun T0 hT XT
    cases ho
    rw [q0] at hz hk
    obtain ⟨t2, a1, b1⟩ := h2 ls T'.heap (locs ++ L) (cells + (σ1.1.length - σ.1.length)) (slots + (jd_z σ1 - jd_z σ)) a0 (by rw [e1]; exact hH1)
      ⟨Nat.le_trans cS.1 (by rw [e1]; exact hz), fun q g1 g2 => by
        rw [e1, hk q (Nat.lt_of_lt_of_le g1 cS.1) g2]
        exact cS.2.1 q g1 g2, fun q hq => by
        rcases List.mem_append.mp hq with h | h
        · exact cS.2.2 q h
        · exact hL q h⟩ (by omega) (by omega) T' rfl X'
    exact ⟨t2, stp t2 a1, b1⟩
end JLE
