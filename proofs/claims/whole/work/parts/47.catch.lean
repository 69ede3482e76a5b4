theorem dL_led_0 : decode cL_led 0 = .ok (.aload_n 2, 1) := by decide +kernel
theorem dL_led_1 : decode cL_led 1 = .ok (.iconst 0, 1) := by decide +kernel
theorem dL_led_2 : decode cL_led 2 = .ok (.aload_n 0, 1) := by decide +kernel
theorem dL_led_3 : decode cL_led 3 = .ok (.iload_n 1, 1) := by decide +kernel
theorem dL_led_4 : decode cL_led 4 = .ok (.invokevirtual 7, 3) := by decide +kernel
theorem dL_led_7 : decode cL_led 7 = .ok (.i2l, 1) := by decide +kernel
theorem dL_led_8 : decode cL_led 8 = .ok (.lastore, 1) := by decide +kernel
theorem dL_led_9 : decode cL_led 9 = .ok (.goto 6, 3) := by decide +kernel
theorem dL_led_12 : decode cL_led 12 = .ok (.astore_n 3, 1) := by decide +kernel
theorem dL_led_13 : decode cL_led 13 = .ok (.iconst 1, 1) := by decide +kernel
theorem dL_led_14 : decode cL_led 14 = .ok (.ireturn, 1) := by decide +kernel
theorem dL_led_15 : decode cL_led 15 = .ok (.iconst 0, 1) := by decide +kernel
theorem dL_led_16 : decode cL_led 16 = .ok (.ireturn, 1) := by decide +kernel
/-! JL: led throws, the law's led catches -/
theorem v_led {l : Launch} {s0 : State} {G : jd_G} (hF : jd_F s0 G) (hl : l.stackTraces = false) (σ : jd_Hp) (t : Nat) (ht : σ.1[t]? = some (11, 12)) (x : Int32) (r : Int32 ⊕ Unit) (σ' : jd_Hp) (hv : m_X11_led t x σ = some (r, σ')) :
    (∀ X : jd_X, jd_dp X = 6 → (jd_gl X).stackTraces = false → (∀ x ∈ (X.2.2.2.2.2.2.2.2.1).exceptionTable.toList, False) → jd_C X RX11 "led" cX11_led 5 (some .int) → jd_p σ σ') ∧
    vx_Met l yX11_led [.code yX11_led cX11_led 5 (some .int)] (jd_rm 6 (σ'.1.length - σ.1.length) (jd_z σ' - jd_z σ)) (jd_Pc s0 G [jd_v G (some t), .int x] σ) (jl_Q G r σ') (jl_XC G r σ') (σ'.1.length - σ.1.length) (jd_z σ' - jd_z σ) (fun q => G.1 ≤ q) := by
  have hb0 : jd_b (m_X11_led t x σ) jd_K0 = some (r, σ') := by rw [jd_b_K0]; exact hv
  refine ⟨fun X h1 h2 h3 h4 => ?_, ?_⟩
  · have := w_X11_led σ t ht x X h1 ⟨h2, by omega, h3⟩ h4
    clear h1 h2 h3 h4 hv
    obtain ⟨p, l, e, s, m, args, below, meth, c, s0, G, d, mc, ms⟩ := X
    exact (this r σ' hb0).1
  · refine vx_ofW (cc := cX11_led) (maxL := 5) (ret := some .int) (by decide) rfl ?_
    intro p e s m args below meth c s₁ B hml hnt hPc
    obtain ⟨rfl, hW, hge, hold, hH⟩ := hPc
    have hK := w_X11_led σ t ht x (p, l, e, s, m, ([jd_v G (some t), .int x] : List Value).toArray, below, meth, c, s0, G, 6, σ'.1.length - σ.1.length, jd_z σ' - jd_z σ) rfl ⟨hl, Nat.le_refl _, hnt⟩ ⟨B.exec, B.bytes, hml, findClass_of_methodNamed B.named, B.returns, B.notSynchronized, (name_of_methodNamed B.named B.method).1, hW, hge, hold, hF⟩ r σ' hb0
    have hlv := lv_entry [jd_v G (some t), .int x] (n := 5) (by simp [lg_sl, jd_v_cat, jd_cti])
    rw [lg_entry_eq]
    have l1 := hK.1.len
    have z1 := hK.1.z
    refine hK.2 _ s.heap [] 0 0 ⟨?_, ?_⟩ hH va_S.rf (by omega) (by omega)
    · rw [hml]; rfl
    · rw [hml]
      exact hlv
theorem jl_l1 : jd_mv RL 7 11 12 yX11_led cX11_led 5 (some .int) 1 := ⟨_, _, rfl, by decide, rfl, Or.inl (jd_mem 1216 (by decide +kernel) (by decide +kernel)), jd_mem 1217 (by decide +kernel) (by decide +kernel), jd_mem 1218 (by decide +kernel) (by decide +kernel), jd_mem 92 (by decide +kernel) (by decide +kernel), jd_mem 1219 (by decide +kernel) (by decide +kernel), ⟨by decide, by decide, by decide +kernel⟩, by decide⟩
theorem jl_w5 : Cond.classLink RL 13 "java/util/NoSuchElementException" ∈ jd_TB := jd_mem 1215 (by decide +kernel) (by decide +kernel)
theorem jl_w6 : Cond.castable "java/util/NoSuchElementException" "java/util/NoSuchElementException" ∈ lw_tbl := by decide +kernel
section JLC
variable {R τ : Type} {X : jd_X} {emb : R → Option Value} {nm : String} {cc : ByteArray} {nL : Nat} {ret : Option FieldType} {pc : Nat} {lv : List (Option Value)} {rest : List Value} {σ : jd_Hp} {K : τ → jd_Hp → Option (R × jd_Hp)}
/-- the call of led: it returns, or it throws and the handler goes on -/
theorem jr_cled (hX : jd_C X RL nm cc nL ret) (hl : (jd_gl X).stackTraces = false) (hdd : 7 ≤ jd_dp X) {hp : Nat} (htab : ∃ z : ExceptionTableEntry, (X.2.2.2.2.2.2.2.2.1).exceptionTable.toList = [z] ∧ covers z pc = true ∧ z.catchType = 13 ∧ z.handlerPc = hp) {a : Nat} {x : Int32} {f : Int32 → jd_Hp → Option (τ × jd_Hp)} {g : Unit → jd_Hp → Option (τ × jd_Hp)} (hr : (rest.map fun v => v.category).sum ≤ 8) (hd : decode cc pc = .ok (.invokevirtual 7, 3)) (ha : σ.1[a]? = some (11, 12))
    (k1 : ∀ v σ1, jd_p σ σ1 → jd_S X emb (pc + 3) lv (.int v :: rest) σ1 (jd_b (f v σ1) K)) (k2 : ∀ q σ1, jd_p σ σ1 → jd_S X emb hp lv [.ref q] σ1 (jd_b (g () σ1) K)) : jd_S X emb pc lv (.int x :: jd_v (jd_gG X) (some a) :: rest) σ (jd_b (jd_b (m_X11_led a x σ) (jd_q f g)) K) := by
  obtain ⟨p, l, e, s, m, args, below, meth, c, s0, G, d, mc, ms⟩ := X
  have hts : ∀ w ∈ jd_TB, w.before args s = true := jd_words hX
  intro v σ' hv
  rw [jd_b_b] at hv
  cases hc1 : m_X11_led a x σ with
  | none => rw [hc1] at hv; cases hv
  | some y0 =>
    obtain ⟨r, σ1⟩ := y0
    rw [hc1] at hv
    obtain ⟨hx, hb, hml, hown, hret, hlk, hnm, hW, hge, hold, hF⟩ := hX
    obtain ⟨C, T, hc, h14, hyC, hlk0, w1, w2, w3, w4, hds, hnl⟩ := jl_l1
    obtain ⟨hM1, hM2⟩ := v_led (l := l) hF hl σ a ha x r σ1 hc1
    have hdd : 7 ≤ d := hdd
    have hcw : (Cond.code yX11_led cX11_led 5 (some .int)).before args s = true := hts _ w4
    obtain ⟨m', hm'⟩ := Cond.code_named hcw
    obtain ⟨meth', c', g1, g2, g3, g4, g5, g6, g7, -⟩ := Cond.code_spec hm' hcw
    have hnt : ∀ x ∈ c'.exceptionTable.toList, False := fun z hz => by
      have h0 : c'.exceptionTable.size = 0 := by simpa using g7
      have : c'.exceptionTable.toList.length = 0 := by rw [Array.length_toList]; exact h0
      rw [List.length_eq_zero_iff.mp this] at hz
      cases hz
    have hp0 : jd_p σ σ1 := hM1 (p, l, e, s, m', args, below, meth', c', s0, G, 6, 0, 0) rfl hl hnt ⟨hx, g3, g4, findClass_of_methodNamed hm', g5, g6, (name_of_methodNamed hm' g1).1, hW, hge, hold, hF⟩
    have hpost : ∃ h1 : jd_p σ1 σ', True := by
      cases r with
      | inl v0 => exact ⟨(k1 v0 σ1 hp0 v σ' hv).1, trivial⟩
      | inr u => exact ⟨(k2 0 σ1 hp0 v σ' hv).1, trivial⟩
    obtain ⟨h1, -⟩ := hpost
    refine ⟨hp0.tr h1, fun ls H locs cells slots a0 b cS dd ff => ?_⟩
    have l1 := hp0.len
    have z1 := hp0.z
    have l2 := h1.len
    have z2 := h1.z
    have hB : G.1 ≤ H.size := by
      have q1 : 32 ≤ σ.1.length := b.1
      have q2 : H.size + 32 = G.1 + σ.1.length := b.2.1
      omega
    have hPc : ∀ U : State, U.heap = H → s.WarmedH U.vm → jd_Pc s0 G [jd_v G (some a), .int x] σ ([jd_v G (some a), .int x] : List Value).toArray U := fun U hU hWU => ⟨rfl, hW.trans hWU, by rw [hU]; exact hB, fun q hq => by
        rw [hU, cS.2.1 q (Nat.lt_of_lt_of_le hq hge) (fun z => absurd z (Nat.not_le.mpr hq))]
        exact hold q hq, by rw [hU]; exact b⟩
    have hws : ∀ w ∈ [Cond.code yX11_led cX11_led 5 (some .int)], ∀ (a' : Array Value) (U : State), s.WarmedH U.vm → w.before a' U = true := fun w hw a' U hWU => by
        have : w = Cond.code yX11_led cX11_led 5 (some .int) := List.mem_singleton.mp hw
        subst this
        exact word_at hWU (good_of_word (List.mem_filter.mp w4).2) hcw
    have hK : va_K G.2.1 jd_cl (jd_tys G) s := hF.2.1.moved hW.alike
    have hrecv := va_recv hK (jd_P1 (b.2.2.2 a _ _ ha (jd_e_ob (by decide)))) hc (q0 := 0) rfl
    have hlen : ∀ sig, parseMethodDescriptor yX11_led.desc = some sig → ([.int x] : List Value).length = sig.parameters.length := fun sig h => by
      have h2 := hds.2.2
      rw [h] at h2
      exact (Option.some.inj h2).symm
    cases hc
    have hlkw : Cond.methodLink RL 7 yX11_led ∈ jd_TB := jd_mem 1216 (by decide +kernel) (by decide +kernel)
    have hW8 : 2 * (F0 m pc ls (.int x :: jd_v G (some a) :: rest)).monitorRoom + (rest.map fun v => v.category).sum ≤ 8 := lv_room hr
    have hrun := vx_runV (e := e) (below := below) (meth := meth) (R := jd_rm d mc ms) (H := H) (locs := locs) (cells := cells) (slots := slots) (g := F0 m pc ls (.int x :: jd_v G (some a) :: rest)) (C := RX11) (b := G.2.2.1 a) (As := [.int x]) (rest := rest) (n := 1) (nL := nL) (Ts := jd_TB) ⟨hx, hb, hml, hown, hts⟩ hM2 ⟨⟨rfl, rfl, show 6 + 1 ≤ d by omega, show 8 + (5 + 11) + 64 * 6 ≤ 64 * d by omega, hws, List.mem_singleton.mpr rfl, hcw, hts _ w3, ⟨hds.1, hds.2.1⟩, hlen, hts _ hlkw⟩, hts _ w1, hts _ w2⟩ ⟨jd_blind, hrecv, hPc⟩ rfl rfl (a0.2.1.trans hml) rfl hW8 hd ⟨show cells + (σ1.1.length - σ.1.length) ≤ mc by omega, show slots + (jd_z σ1 - jd_z σ) ≤ ms by omega⟩
    intro T0 hT XT
    rcases hrun T0 hT XT with ⟨v0, st₀, t, T', L, q0, X', hL, e1, e2, ⟨v1, hr1, ho, hH1, hz, hk⟩, stp⟩ | ⟨q, st₀, t, T', L, E0, ce, q0, X', hL, e1, e2, ⟨hr1, hE0, hH1, hz, hk⟩, hce, hcv, hcl, stp⟩
    · subst hr1
      cases ho
      rw [q0] at hz hk
      have hv : jd_b (f v1 σ1) K = some (v, σ') := hv
      obtain ⟨-, h2⟩ := k1 v1 σ1 hp0 v σ' hv
      obtain ⟨t2, a1, b1⟩ := h2 ls T'.heap (locs ++ L) (cells + (σ1.1.length - σ.1.length)) (slots + (jd_z σ1 - jd_z σ)) a0 (by rw [e1]; exact hH1)
        ⟨Nat.le_trans cS.1 (by rw [e1]; exact hz), fun q g1 g2 => by
          rw [e1, hk q (Nat.lt_of_lt_of_le g1 cS.1) g2]
          exact cS.2.1 q g1 g2, fun q hq => by
          rcases List.mem_append.mp hq with h | h
          · exact cS.2.2 q h
          · exact hL q h⟩ (by omega) (by omega) T' rfl X'
      exact ⟨t2, stp t2 a1, b1⟩
    · subst hr1
      subst hE0
      rw [q0] at hz hk
      have hv : jd_b (g () σ1) K = some (v, σ') := hv
      obtain ⟨-, h2⟩ := k2 q σ1 hp0 v σ' hv
      have hw := h2 ls T'.heap (locs ++ L) (cells + (σ1.1.length - σ.1.length)) (slots + (jd_z σ1 - jd_z σ)) a0 (by rw [e1]; exact hH1)
        ⟨Nat.le_trans cS.1 (by rw [e1]; exact hz), fun q g1 g2 => by
          rw [e1, hk q (Nat.lt_of_lt_of_le g1 cS.1) g2]
          exact cS.2.1 q g1 g2, fun q hq => by
          rcases List.mem_append.mp hq with h | h
          · exact cS.2.2 q h
          · exact hL q h⟩ (by omega) (by omega)
      obtain ⟨z, ht1, ht2, ht3, ht4⟩ := htab
      obtain ⟨A0, h0, -⟩ := hF.1
      have hcast : (Cond.castable "java/util/NoSuchElementException" "java/util/NoSuchElementException").before args s = true := jd_face hW rfl rfl (h0 _ jl_w6)
      subst ht4
      have hW9 := vx_catch (R := jd_rm d mc ms) (pc := pc) (ls := ls) (rest := rest) (own := RL) (name := "java/util/NoSuchElementException") (q := q) hown [] z [] ht1 (fun z hz => nomatch hz) ht2 (by rw [ht3]; decide) (by rw [ht3]; exact hts _ jl_w5) hcast (by rw [e1]; exact hce) hcv hcl hw
      obtain ⟨t2, a1, b1⟩ := hW9 T' rfl X'
      exact ⟨t2, stp.trans a1, b1⟩
end JLC
def m_L_led (o0p : Option Nat) (x1p : Int32) (o2p : Option Nat) (σ : jd_Hp) : Option (Int32 × jd_Hp) :=
  jd_o σ (11, 12) o0p fun a1 =>
  jd_b (m_X11_led a1 x1p σ) (jd_q (fun v σ1 => jd_ia σ1 23 o2p 0 fun a2 j2 => some (0, jd_pl σ1 a2 j2 v.toInt64)) (fun _ σ1 => some (1, σ1)))
theorem jd_ofWH {l : Launch} {y : MethodName} {ws ws' : List Cond} {rm : Room} {Pc : Array Value → State → Prop} {Qc : Array Value → State → Outcome → State → Prop} {mc ms : Nat} {free : Addr → Prop} {cc : ByteArray} {maxL : Nat} {ret : Option FieldType} {hh : List (Nat × Nat × Nat × Nat)}
    (hy : plainName y.cls = true) (hw : ws = Cond.codeWith y cc maxL ret hh :: ws')
    (body : ∀ p e s m args below meth c s₁, BodyLoose p l y (headSpec ws rm) cc maxL ret e s m args below meth c s₁ → c.maxLocals = maxL → Pc args s →
      W p l e (headSpec ws rm).room s m args below meth c s.heap [] 0 0 (MQ below Qc args s mc ms free) (entryFrame m args maxL)) : Met l y ws rm Pc Qc mc ms free := by
  refine MetFree.of_bodyS (code := cc) (maxLocals := maxL) (ret := ret) hy ?_ ?_
  · intro args s m h hn
    obtain ⟨m9, meth, c, hn9, h1, h2, h3, h4, -, h5, h6, -⟩ := Cond.codeWith_spec (atoms_spec (ws := ws) h _ (by rw [hw]; exact List.mem_cons_self))
    cases hn.symm.trans hn9
    exact ⟨meth, c, h1, h2, h3, h4, h5, h6⟩
  · intro p e s m args below meth c s₁ B hml hP _
    have hh0 : s₁.heap = s.heap := by rw [B.state]; rfl
    obtain ⟨t, a1, o, b1, b2, b3⟩ := body p e s m args below meth c s₁ B hml hP s₁ hh0 (Stand.of_body B)
    exact ⟨t, o, a1, b1, b2, b3⟩
section JLD
variable {R τ : Type} {X : jd_X} {emb : R → Option Value} {own nm : String} {cc : ByteArray} {nL : Nat} {ret : Option FieldType} {pc : Nat} {lv : List (Option Value)} {st : List Value} {σ : jd_Hp} {cm : Option (R × jd_Hp)}
theorem jr_rst3 (hX : jd_C X own nm cc nL ret) {a0 a1 a2 b : Option Value} {t : List (Option Value)} {q : Nat} (hc : jd_nl a2 = true) (hd : decode cc pc = .ok (.astore_n 3, 1)) (k : jd_S X emb (pc + 1) (a0 :: a1 :: a2 :: some (.ref q) :: t) st σ cm) : jd_S X emb pc (a0 :: a1 :: a2 :: b :: t) (.ref q :: st) σ cm := by
  obtain ⟨p, l, e, s, m, args, below, meth, c, s0, G, d, mc, ms⟩ := X
  exact jd_loc (fun ls H locs cells slots Q h w => lv_astore_n hX.1 hX.2.1 hd rfl h.2 (by have := h.1; simp at this; omega) rfl (fun ls' h' => w ls' (jd_st1 (i := 3) h.1 h' (by have := h.1; simp at this; omega) (jd_hc (i := 2) rfl hc)))) k
end JLD
theorem w_L_led (σ : jd_Hp) (o0p : Option Nat) (x1p : Int32) (o2p : Option Nat) (X : jd_X) (hD : jd_dp X = 7) (hl : (jd_gl X).stackTraces = false) (htab : ∃ z : ExceptionTableEntry, (X.2.2.2.2.2.2.2.2.1).exceptionTable.toList = [z] ∧ covers z 4 = true ∧ z.catchType = 13 ∧ z.handlerPc = 12) (hX : jd_C X RL "led" cL_led 4 (some .int)) : jd_S X je_i 0 [some (jd_v (jd_gG X) o0p), some (.int x1p), some (jd_v (jd_gG X) o2p), none] [] σ (jd_b (m_L_led o0p x1p o2p σ) jd_K0) := by
  unfold m_L_led
  refine jr_ald2 (pc := 0) hX dL_led_0 ?_
  refine jr_iconst (pc := 1) hX 0 rfl dL_led_1 ?_
  refine jr_ald0 (pc := 2) hX dL_led_2 ?_
  refine jr_ild1 (pc := 3) hX dL_led_3 ?_
  refine jr_ck1 (fun a1 e1 h1 => ?_)
  refine jr_cled (pc := 4) hX hl (by omega) htab (by simp [jd_v_cat, jd_cti]) dL_led_4 h1 (fun v σ1 p1 => ?_) (fun q σ1 p1 => ?_)
  · refine jr_i2l (pc := 7) hX dL_led_7 ?_
    refine jr_laS (pc := 8) hX dL_led_8 (fun a2 n2 e2 h2 => ?_)
    refine jr_goto (pc := 9) hX 15 dL_led_9 (by decide) ?_
    refine jr_iconst (pc := 15) hX 0 rfl dL_led_15 ?_
    exact jr_iret (pc := 16) hX dL_led_16 rfl
  · refine jr_rst3 (pc := 12) hX (jn_r _ _) dL_led_12 ?_
    refine jr_iconst (pc := 13) hX 1 rfl dL_led_13 ?_
    exact jr_iret (pc := 14) hX dL_led_14 rfl
abbrev jl_cw : Cond := Cond.codeWith yL_led cL_led 4 (some .int) [(0, 9, 12, 13)]
theorem v_L_led {l : Launch} {s0 : State} {G : jd_G} (hF : jd_F s0 G) (hl : l.stackTraces = false) (σ : jd_Hp) (o0p : Option Nat) (x1p : Int32) (o2p : Option Nat) (v : Int32) (σ' : jd_Hp) (hv : m_L_led o0p x1p o2p σ = some (v, σ')) :
    (∀ X : jd_X, jd_dp X = 7 → (jd_gl X).stackTraces = false → (∃ z : ExceptionTableEntry, (X.2.2.2.2.2.2.2.2.1).exceptionTable.toList = [z] ∧ covers z 4 = true ∧ z.catchType = 13 ∧ z.handlerPc = 12) → jd_C X RL "led" cL_led 4 (some .int) → jd_p σ σ') ∧
    Met l yL_led [jl_cw] (jd_rm 7 (σ'.1.length - σ.1.length) (jd_z σ' - jd_z σ)) (jd_Pc s0 G [jd_v G o0p, .int x1p, jd_v G o2p] σ) (jd_Q G je_i v σ') (σ'.1.length - σ.1.length) (jd_z σ' - jd_z σ) (fun q => G.1 ≤ q) := by
  have hb0 : jd_b (m_L_led o0p x1p o2p σ) jd_K0 = some (v, σ') := by rw [jd_b_K0]; exact hv
  refine ⟨fun X h1 h2 h3 h4 => ?_, ?_⟩
  · have := w_L_led σ o0p x1p o2p X h1 h2 h3 h4
    clear h1 h2 h3 h4 hv
    obtain ⟨p, l, e, s, m, args, below, meth, c, s0, G, d, mc, ms⟩ := X
    exact (this v σ' hb0).1
  · refine jd_ofWH (cc := cL_led) (maxL := 4) (ret := some .int) (hh := [(0, 9, 12, 13)]) (by decide) rfl ?_
    intro p e s m args below meth c s₁ B hml hPc
    obtain ⟨rfl, hW, hge, hold, hH⟩ := hPc
    have htb := vx_table (x := yL_led) B (atoms_spec (ws := [jl_cw]) B.pre jl_cw List.mem_cons_self)
    have hK := w_L_led σ o0p x1p o2p (p, l, e, s, m, ([jd_v G o0p, .int x1p, jd_v G o2p] : List Value).toArray, below, meth, c, s0, G, 7, σ'.1.length - σ.1.length, jd_z σ' - jd_z σ) rfl hl ⟨_, htb, by decide, rfl, rfl⟩ ⟨B.exec, B.bytes, hml, findClass_of_methodNamed B.named, B.returns, B.notSynchronized, (name_of_methodNamed B.named B.method).1, hW, hge, hold, hF⟩ v σ' hb0
    have hlv := lv_entry [jd_v G o0p, .int x1p, jd_v G o2p] (n := 4) (by simp [lg_sl, jd_v_cat, jd_cti])
    rw [lg_entry_eq]
    have l1 := hK.1.len
    have z1 := hK.1.z
    refine hK.2 _ s.heap [] 0 0 ⟨?_, ?_⟩ hH va_S.rf (by omega) (by omega)
    · rw [hml]; rfl
    · rw [hml]
      show lv_has _ 4 (jd_al 0 _)
      have : jd_al 0 [some (jd_v G o0p), some (.int x1p), some (jd_v G o2p), none] = lv_args 0 [jd_v G o0p, .int x1p, jd_v G o2p] := by simp [lv_args, jd_al, jd_v_cat, jd_cti]
      exact this ▸ hlv

