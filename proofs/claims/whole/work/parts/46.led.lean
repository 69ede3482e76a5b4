section JLA
variable {p : Program} {l : Launch} {e : Env} {R : Room} {s : State} {m : MethodId} {args : Array Value} {below : List Frame} {meth : Method} {c : Code} {H : Heap} {locs : List Loc} {cells slots : Nat} {Q : State → Prop}
variable {Qc : Array Value → State → Outcome → State → Prop} {XC : String → State → State → Prop} {free : Addr → Prop} {ls : Array Slot} {rest : List Value}
set_option maxHeartbeats 1000000 in
theorem jd_throw0 {cc : ByteArray} {pc : Nat} (hexec : p.tables.exec = Jvm.exec) (hb : c.code = cc) (hl : l.stackTraces = false) {own cls : String} {names : List String} {ik ic mc ms : Nat} {A : Nat → Prop}
    (hown : s.vm.findClass own = some m.cls) (hcls : Bundle.fit cls = true) (hnames : ∀ n ∈ names, Bundle.fit n = true)
    (hk : (Cond.classLink own ik cls).before args s = true) (hini : (Cond.initialized cls).before args s = true) (hat : ∀ w ∈ vx_at0 own ic cls names, w.before args s = true)
    (hgood : ∀ w ∈ Cond.classLink own ik cls :: Cond.initialized cls :: vx_at0 own ic cls names, vx_ot w = true)
    (hU : vx_Zq Bundle.tN "UNASSIGNED_STACK" Bundle.steD A s s.heap) (hN : vx_Zq Bundle.tN "SUPPRESSED_SENTINEL" Bundle.listD A s s.heap) (hS : va_S A s.heap H locs) (hsize : ls.size = c.maxLocals)
    (d0 : decode cc pc = .ok (.new ik, 3)) (d3 : decode cc (pc + 3) = .ok (.dup, 1)) (d4 : decode cc (pc + 4) = .ok (.invokespecial ic, 3)) (d7 : decode cc (pc + 7) = .ok (.athrow, 1))
    (hout : ∀ x ∈ c.exceptionTable.toList, covers x (pc + 7) = false)
    (hRframes : names.length + 3 < R.frames) (hRlocals : (rest.map fun v => v.category).sum + (13 * (names.length + 1) + 42) ≤ R.locals) (hRcells : cells + 1 ≤ R.cells) (hRslots : slots + 6 ≤ R.slots) (hlocks : meth.locks = false)
    (hx : ∀ t : State, s.vm.Alike t.vm → t.heap.size = H.size + 1 → (∀ q : Nat, q < H.size → t.heap[q]? = H[q]?) → XC cls s t)
    (hf : ∀ z ∈ locs, free z.base) (hc : cells + 1 ≤ mc) (hs : slots + 6 ≤ ms) :
    W p l e R s m args below meth c H locs cells slots (vx_MQ below Qc XC args s mc ms free) (F0 m pc ls rest) := by
  intro T hT X
  have htr : e.platform.stackTraces = false := (show e.platform.stackTraces = l.stackTraces by rw [X.admits.platform]).trans hl
  have Y := vx_rebase X (R' := { frames := R.frames, locals := R.locals, cells := 1, slots := 6 }) (Nat.le_refl _) (Nat.le_refl _) hRcells hRslots
  obtain ⟨s', hA⟩ : ∃ z, z = (T.setVm s.vm).setFrames (.invoking m args :: below) := ⟨_, rfl⟩
  rw [← hA] at Y
  have hvm : s'.vm = s.vm := by rw [hA]; rfl
  have hhp : s'.heap = H := by rw [hA]; exact hT
  have hW0 : s.WarmedH s'.vm := by rw [hvm]; exact State.WarmedH.refl s
  have hat' : ∀ w ∈ vx_at0 own ic cls names, w.before args s' = true := fun w hw => vx_ot_at hW0 hvm.symm (hgood w (List.mem_cons_of_mem _ (List.mem_cons_of_mem _ hw))) (hat w hw)
  have hk' : (Cond.classLink own ik cls).before args s' = true := vx_ot_at hW0 hvm.symm (hgood _ List.mem_cons_self) hk
  have hini' : (Cond.initialized cls).before args s' = true := vx_ot_at hW0 hvm.symm (hgood _ (List.mem_cons_of_mem _ List.mem_cons_self)) hini
  have hU' : vx_Zq Bundle.tN "UNASSIGNED_STACK" Bundle.steD A s' s'.heap := by rw [hhp]; exact vx_Zq.moved hW0.alike (hU.kept hS.2.1)
  have hN' : vx_Zq Bundle.tN "SUPPRESSED_SENTINEL" Bundle.listD A s' s'.heap := by rw [hhp]; exact vx_Zq.moved hW0.alike (hN.kept hS.2.1)
  have h : ∀ w ∈ Bundle.ownAtoms0 own ic cls names, w.before args s' = true := vx_own hat' (vx_isRefq hU'.1) (vx_isRefq hN'.1) hU'.2.word hN'.2.word
  have hown' : s'.vm.findClass own = some m.cls := by rw [hvm]; exact hown
  have hins : (Cond.instantiable cls 6).before args s' = true := h _ (by simp [Bundle.ownAtoms0])
  obtain ⟨vm₁, cX, kX, hfX, hkX, -, -, X₁, st1⟩ := Y.newCold hexec (own := own) (C := cls) (index := ik) (n := 6) hown' hk' hins hini'
    (g := F0 m pc ls rest) rfl (by rw [hb]; exact d0) (Nat.le_refl _) (Nat.le_refl _)
  generalize hT1 : (T.setVm vm₁).pushCell { cls := cX, slots := kX.instanceTypes.map defaultValue, vm := .none } = T1 at X₁ st1
  have hcat : (Value.ref T.heap.size).category = 1 := rfl
  have hcellA : T1.heap[T.heap.size]? = some (freshCell cX kX) := by rw [← hT1]; exact State.heap_pushCell_size _ _
  have d3' : decode c.code (pc + 3) = .ok (.dup, 1) := by rw [hb]; exact d3
  obtain ⟨U, hsteps, hrun, hend, hW, hsame, ce, hce, hO⟩ := X₁.ctorThrow0 hexec htr (own := own) (cls := cls) (names := names) (ic := ic) hown' hcls hnames h (fun x hx => nomatch hx) hfX hkX hcellA (by rw [hhp, hT]; exact Nat.le_refl _)
    (g := { method := m, pc := pc + 4, locals := ls, stack := .ref T.heap.size :: .ref T.heap.size :: rest, locked := none }) rfl hsize rfl rfl (rest := rest) rfl
    (by rw [hb]; exact d4) (by rw [hb]; exact d7) hout hRframes (by simp only [List.map_cons, List.sum_cons, hcat]; omega) hlocks
  obtain ⟨f1, f2⟩ := vx_frame hsame
  rw [hhp] at f1 f2
  have f3 : U.heap.size = H.size + 1 := by
    have g1 : T.heap.size < U.heap.size := (Array.getElem?_eq_some_iff.mp hce).1
    have g2 : U.heap.size ≤ s'.heap.size + (0 + 1) := hsame.2.2.1
    rw [hhp] at g2
    rw [hT] at g1
    omega
  have hWs : s.WarmedH U.vm := State.WarmedH.trans hW0 hW
  have hcl : s.vm.findClass cls = some ce.cls := by
    have h9 := hO.cls
    rw [hvm] at h9
    exact h9
  have hall : s.sameButNew ({ U with vm := s.vm } : State) locs mc ms := by
    subst hA
    obtain ⟨e1, e2⟩ := hsame
    rw [State.setFrames_setFrames] at e1
    have h2 : (T.setVm s.vm).sameButNew ({ U with vm := s.vm } : State) [] (0 + 1) (0 + 6) := ⟨e1, e2⟩
    have h3 := X.same.trans h2
    rw [List.append_nil] at h3
    exact h3.mono hc hs
  refine ⟨U, ?_, .threw T.heap.size, hrun, hend, Or.inr ⟨T.heap.size, rfl, cls, ce, locs, hx U hWs.alike f3 (fun q hq => f2 q hq (fun z hz => nomatch hz)), hce, hO.vm, hcl, hWs, hall, hf⟩⟩
  refine st1 _ ?_
  show Steps p.tables e below (T1.setTop { method := m, pc := pc + 3, locals := ls, stack := .ref T.heap.size :: rest, locked := none }) _
  jvm_step X₁.here [X₁.here.top, hexec, d3', Value.category]
  exact hsteps
end JLA
theorem jd_face {s0 U : State} {w : Cond} {A0 a' : Array Value} (hW : s0.WarmedH U.vm) (ho : w.onTables = true) (hk : w.keepsFace = true) (h : w.before A0 s0 = true) : w.before a' U = true := va_tabs ho (rfl : (s0.setVm U.vm).vm = U.vm) (Cond.before_shiftedFace (State.Shifted.of_warmed hW) _ hk h)
set_option maxRecDepth 100000 in
theorem jl_w1 : ∀ w ∈ vx_at0 RX11 353 "java/util/NoSuchElementException" ["java/lang/RuntimeException", "java/lang/Exception"], w ∈ lw_tbl ∧ (goodWord w = true ∨ (w.onTables = true ∧ w.keepsFace = true)) := by decide +kernel
theorem jl_w2 : ∀ w ∈ Cond.classLink RX11 351 "java/util/NoSuchElementException" :: Cond.initialized "java/util/NoSuchElementException" :: vx_at0 RX11 353 "java/util/NoSuchElementException" ["java/lang/RuntimeException", "java/lang/Exception"], vx_ot w = true := by decide +kernel
theorem jl_w3 : Cond.classLink RX11 351 "java/util/NoSuchElementException" ∈ jd_TB := jd_mem 1221 (by decide +kernel) (by decide +kernel)
theorem jl_w4 : Cond.initialized "java/util/NoSuchElementException" ∈ jd_TB := jd_mem 115 (by decide +kernel) (by decide +kernel)
theorem jl_st {s0 : State} {G : jd_G} (hF : jd_F s0 G) : vx_Zq Bundle.tN "UNASSIGNED_STACK" Bundle.steD (jd_A G) s0 s0.heap ∧ vx_Zq Bundle.tN "SUPPRESSED_SENTINEL" Bundle.listD (jd_A G) s0 s0.heap := by
  obtain ⟨⟨A0, h0, hn, -⟩, -, -, hB⟩ := hF
  have hfl := flat_of_before _ hn
  have hA : ∀ a : Nat, a < s0.heap.size → ¬ jd_A G a := fun a h q => by
    have q : G.1 ≤ a := q
    omega
  have hini := h0 _ (List.mem_of_getElem? (l := lw_tbl) (i := 112) (a := Cond.initialized "java/lang/Throwable") (by decide +kernel))
  refine ⟨vx_Zqof (h0 _ (List.mem_of_getElem? (l := lw_tbl) (i := 1248) (a := Cond.laysStatic Bundle.tN "UNASSIGNED_STACK" Bundle.steD) (by decide +kernel))) hini (hfl _ (show Cond.isRef (.static Bundle.tN "UNASSIGNED_STACK" Bundle.steD) ∈ _ by decide +kernel)) hA, vx_Zqof (h0 _ (List.mem_of_getElem? (l := lw_tbl) (i := 1250) (a := Cond.laysStatic Bundle.tN "SUPPRESSED_SENTINEL" Bundle.listD) (by decide +kernel))) hini (hfl _ (show Cond.isRef (.static Bundle.tN "SUPPRESSED_SENTINEL" Bundle.listD) ∈ _ by decide +kernel)) hA⟩
def jl_Q (G : jd_G) (r : Int32 ⊕ Unit) (σ' : jd_Hp) : Array Value → State → Outcome → State → Prop := fun _ st o t => ∃ v, r = .inl v ∧ o = .returned (some (.int v)) ∧ jd_H G σ' t.heap ∧ va_F (fun q => G.1 ≤ q) st t
def jl_XC (G : jd_G) (r : Int32 ⊕ Unit) (σ' : jd_Hp) : String → State → State → Prop := fun E st t => r = .inr () ∧ E = "java/util/NoSuchElementException" ∧ jd_H G σ' t.heap ∧ va_F (fun q => G.1 ≤ q) st t
def je_led : jd_X → (Int32 ⊕ Unit) → jd_Hp → State → Prop := fun X r σ' => match X with
  | (_, _, _, s, _, args, below, _, _, _, G, _, mc, ms) => vx_MQ below (jl_Q G r σ') (jl_XC G r σ') args s mc ms (fun q => G.1 ≤ q)
theorem jd_H.junk {G : jd_G} {σ : jd_Hp} {H H1 : Heap} (h : jd_H G σ H) {n : Nat} (hz : H1.size = H.size + 1) (ho : ∀ q : Nat, q < H.size → H1[q]? = H[q]?) : jd_H G (jd_new σ (30, n)) H1 := by
  have hl : (jd_new σ (30, n)).1.length = σ.1.length + 1 := by simp [jd_new]
  refine ⟨by rw [hl]; have := h.1; omega, by rw [hl, hz]; have := h.2.1; omega, fun a y ha hy => ?_, fun a y ea hy hye => ?_⟩
  · have : σ.1[a]? = some y := by
      have h1 : (σ.1 ++ [(30, n)])[a]? = some y := hy
      rwa [List.getElem?_append_left (by have := h.1; omega)] at h1
    exact h.2.2.1 a y ha this
  · have h1 : (σ.1 ++ [(30, n)])[a]? = some y := hy
    by_cases hlt : a < σ.1.length
    · rw [List.getElem?_append_left hlt] at h1
      rw [jd_e_new a y (by omega)] at hye
      have := h.2.2.2 a y ea h1 hye
      exact this.kept (ho _ this.lt)
    · rw [List.getElem?_append_right (by omega)] at h1
      have hz0 : a - σ.1.length < 1 := (List.getElem?_eq_some_iff.mp h1).1
      have ea' : a = σ.1.length := by omega
      subst ea'
      rw [Nat.sub_self] at h1
      cases h1
      simp [jd_e] at hye
section JLB
variable {X : jd_X} {nm : String} {cc : ByteArray} {nL : Nat} {pc : Nat} {lv : List (Option Value)} {σ : jd_Hp}
theorem jxl_ret {own : String} (hX : jd_C X own nm cc nL (some .int)) {v : Int32} {cm : Option ((Int32 ⊕ Unit) × jd_Hp)} (hd : decode cc pc = .ok (.ireturn, 1)) (hcm : cm = some (.inl v, σ)) : jx_S X je_led pc lv [.int v] σ cm := by
  obtain ⟨p, l, e, s, m, args, below, meth, c, s0, G, d, mc, ms⟩ := X
  intro v' σ' hv
  rw [hcm] at hv
  cases hv
  refine ⟨jd_p.rf σ, fun ls H locs cells slots a b cS d f => ?_⟩
  refine W.widen (k := mc) (n := ms) (by omega) (by omega) ?_
  refine vx_ret (W.iret hX.1 hX.2.1 hX.2.2.2.2.1 (fun t ht _ => ⟨v, rfl, rfl, by rw [ht]; exact b, by rw [ht]; exact cS.1, fun q g1 g2 => by rw [ht]; exact cS.2.1 q g1 g2⟩) cS.2.2 hd hX.2.2.2.2.2.1)
theorem jxl_thr (hX : jd_C X RX11 nm cc nL (some .int)) (hl : (jd_gl X).stackTraces = false ∧ 6 ≤ jd_dp X ∧ ∀ x ∈ (X.2.2.2.2.2.2.2.2.1).exceptionTable.toList, False) {cm : Option ((Int32 ⊕ Unit) × jd_Hp)} (d0 : decode cc pc = .ok (.new 351, 3)) (d3 : decode cc (pc + 3) = .ok (.dup, 1)) (d4 : decode cc (pc + 4) = .ok (.invokespecial 353, 3)) (d7 : decode cc (pc + 7) = .ok (.athrow, 1)) (hcm : cm = some (.inr (), jd_new σ (30, 6))) : jx_S X je_led pc lv [] σ cm := by
  obtain ⟨p, l, e, s, m, args, below, meth, c, s0, G, d, mc, ms⟩ := X
  have hts : ∀ w ∈ jd_TB, w.before args s = true := jd_words hX
  have hq := jd_old hX
  have hv := jd_alike hX
  obtain ⟨hx, hb, hml, hown, hret, hlk, -, hW, hge, hold, hF⟩ := hX
  obtain ⟨hl1, hl2, hl3⟩ := hl
  have hl2 : 6 ≤ d := hl2
  intro v' σ' hv'
  rw [hcm] at hv'
  cases hv'
  refine ⟨jd_p.new σ _, fun ls H locs cells slots a b cS dd f => ?_⟩
  have hle : (jd_new σ (30, 6)).1.length = σ.1.length + 1 := by simp [jd_new]
  rw [hle] at dd
  rw [jd_z_new] at f
  have f : slots + (jd_z σ + 6) ≤ ms + jd_z σ := f
  obtain ⟨z1, z2⟩ := jl_st hF
  obtain ⟨A0, h0, -⟩ := hF.1
  refine jd_throw0 (cls := "java/util/NoSuchElementException") (names := ["java/lang/RuntimeException", "java/lang/Exception"]) (A := jd_A G) hx hb hl1 hown (by decide) (by decide) (hts _ jl_w3) (hts _ jl_w4) (fun w hw => ?_) jl_w2 ((vx_Zq.moved hv z1).kept hq) ((vx_Zq.moved hv z2).kept hq) cS a.2.1 d0 d3 d4 d7 (fun x hx => (hl3 x hx).elim) ?_ ?_ ?_ ?_ hlk (fun t ht hz ho => ⟨rfl, rfl, b.junk hz ho, ?_⟩) cS.2.2 ?_ ?_
  · obtain ⟨g1, g2⟩ := jl_w1 w hw
    rcases g2 with g2 | ⟨g2, g3⟩
    · exact word_at hW (good_of_word g2) (h0 w g1)
    · exact jd_face hW g2 g3 (h0 w g1)
  · show 2 + 3 < d
    omega
  · show 0 + (13 * (2 + 1) + 42) ≤ 64 * d
    omega
  · show cells + 1 ≤ mc
    omega
  · show slots + 6 ≤ ms
    omega
  · refine ⟨by rw [hz]; have := cS.1; omega, fun q g1 g2 => ?_⟩
    rw [ho q (Nat.lt_of_lt_of_le g1 cS.1)]
    exact cS.2.1 q g1 g2
  · omega
  · omega
end JLB

theorem lX11_348 : jd_st RX11 348 yX11_has cX11_has 2 (some .boolean) 2 := ⟨Or.inl (jd_mem 1220 (by decide +kernel) (by decide +kernel)), qX11_has.1, qX11_has.2.1, qX11_has.2.2.1, qX11_has.2.2.2, by decide⟩
theorem dX11_led_0 : decode cX11_led 0 = .ok (.iload_n 1, 1) := by decide +kernel
theorem dX11_led_1 : decode cX11_led 1 = .ok (.istore_n 2, 1) := by decide +kernel
theorem dX11_led_2 : decode cX11_led 2 = .ok (.aload_n 0, 1) := by decide +kernel
theorem dX11_led_3 : decode cX11_led 3 = .ok (.getfield 85, 3) := by decide +kernel
theorem dX11_led_6 : decode cX11_led 6 = .ok (.ifCond .eq 23, 3) := by decide +kernel
theorem dX11_led_9 : decode cX11_led 9 = .ok (.aload_n 0, 1) := by decide +kernel
theorem dX11_led_10 : decode cX11_led 10 = .ok (.getfield 32, 3) := by decide +kernel
theorem dX11_led_13 : decode cX11_led 13 = .ok (.getfield 153, 3) := by decide +kernel
theorem dX11_led_16 : decode cX11_led 16 = .ok (.aload_n 0, 1) := by decide +kernel
theorem dX11_led_17 : decode cX11_led 17 = .ok (.getfield 32, 3) := by decide +kernel
theorem dX11_led_20 : decode cX11_led 20 = .ok (.getfield 172, 3) := by decide +kernel
theorem dX11_led_23 : decode cX11_led 23 = .ok (.iconst (-1), 1) := by decide +kernel
theorem dX11_led_24 : decode cX11_led 24 = .ok (.ixor, 1) := by decide +kernel
theorem dX11_led_25 : decode cX11_led 25 = .ok (.iand, 1) := by decide +kernel
theorem dX11_led_26 : decode cX11_led 26 = .ok (.goto 4, 3) := by decide +kernel
theorem dX11_led_29 : decode cX11_led 29 = .ok (.iconst 0, 1) := by decide +kernel
theorem dX11_led_30 : decode cX11_led 30 = .ok (.istore_n 3, 1) := by decide +kernel
theorem dX11_led_31 : decode cX11_led 31 = .ok (.iconst 0, 1) := by decide +kernel
theorem dX11_led_32 : decode cX11_led 32 = .ok (.istore 4, 2) := by decide +kernel
theorem dX11_led_34 : decode cX11_led 34 = .ok (.iload 4, 2) := by decide +kernel
theorem dX11_led_36 : decode cX11_led 36 = .ok (.bipush 6, 2) := by decide +kernel
theorem dX11_led_38 : decode cX11_led 38 = .ok (.if_icmp .ge 28, 3) := by decide +kernel
theorem dX11_led_41 : decode cX11_led 41 = .ok (.iload_n 3, 1) := by decide +kernel
theorem dX11_led_42 : decode cX11_led 42 = .ok (.iload 4, 2) := by decide +kernel
theorem dX11_led_44 : decode cX11_led 44 = .ok (.invokestatic 348, 3) := by decide +kernel
theorem dX11_led_47 : decode cX11_led 47 = .ok (.ifCond .eq 13, 3) := by decide +kernel
theorem dX11_led_50 : decode cX11_led 50 = .ok (.iload_n 2, 1) := by decide +kernel
theorem dX11_led_51 : decode cX11_led 51 = .ok (.ifCond .ne 6, 3) := by decide +kernel
theorem dX11_led_54 : decode cX11_led 54 = .ok (.iload 4, 2) := by decide +kernel
theorem dX11_led_56 : decode cX11_led 56 = .ok (.ireturn, 1) := by decide +kernel
theorem dX11_led_57 : decode cX11_led 57 = .ok (.iinc 2 (-1), 3) := by decide +kernel
theorem dX11_led_60 : decode cX11_led 60 = .ok (.iinc 4 1, 3) := by decide +kernel
theorem dX11_led_63 : decode cX11_led 63 = .ok (.goto (-29), 3) := by decide +kernel
theorem dX11_led_66 : decode cX11_led 66 = .ok (.new 351, 3) := by decide +kernel
theorem dX11_led_69 : decode cX11_led 69 = .ok (.dup, 1) := by decide +kernel
theorem dX11_led_70 : decode cX11_led 70 = .ok (.invokespecial 353, 3) := by decide +kernel
theorem dX11_led_73 : decode cX11_led 73 = .ok (.athrow, 1) := by decide +kernel
def m_X11_led (t : Nat) (x0p : Int32) (σ : jd_Hp) : Option ((Int32 ⊕ Unit) × jd_Hp) :=
jd_b (α := Int32) (
jd_if ((σ.2.1 t 10) = 0) (
some (0, σ)) (
jd_o σ (6, 8) (σ.2.2.2 t 2) fun a3 =>
some (((σ.2.1 a3 6) &&& ((σ.2.1 a3 7) ^^^ (-1))), σ))) fun t2 σ2 =>
jd_b (jd_lp (S := Int32 × Int32) (T := (Unit) ⊕ (Int32 ⊕ Unit)) (fun s4 σ4 =>
jd_if (6 ≤ s4.2) (
some ((Sum.inr (Sum.inl ())), σ4)) (
jd_b (m_X11_has t2 s4.2 σ4) fun r6 σ6 =>
jd_if (r6 = 0) (
some (Sum.inl (s4.1, (s4.2 + 1)), σ6)) (
jd_if (¬ s4.1 = 0) (
some (Sum.inl ((s4.1 + (-1)), (s4.2 + 1)), σ6)) (
some (Sum.inr (Sum.inr (Sum.inl s4.2)), σ6))))) jd_fu (x0p, 0) σ2) (jd_q (fun t5 σ5 =>
some (Sum.inr (), jd_new σ5 (30, 6))) (fun v4 σ5 => some (v4, σ5)))
set_option maxHeartbeats 4000000 in
set_option maxRecDepth 20000 in
theorem w_X11_led (σ : jd_Hp) (t : Nat) (ht : σ.1[t]? = some (11, 12)) (x0p : Int32) (X : jd_X) (hD : jd_dp X = 6) (hl : (jd_gl X).stackTraces = false ∧ 6 ≤ jd_dp X ∧ ∀ x ∈ (X.2.2.2.2.2.2.2.2.1).exceptionTable.toList, False) (hX : jd_C X RX11 "led" cX11_led 5 (some .int)) : jx_S X je_led 0 [some (jd_v (jd_gG X) (some t)), some (.int x0p), none, none, none] [] σ (jd_b (m_X11_led t x0p σ) jd_K0) := by
  unfold m_X11_led
  refine jx_ild1 (pc := 0) hX dX11_led_0 ?_
  refine jx_ist2 (pc := 1) hX (jn_i _) dX11_led_1 ?_
  refine jx_ald0 (pc := 2) hX dX11_led_2 ?_
  refine jx_geti (pc := 3) hX fX11_85 rfl dX11_led_3 ht ?_
  refine jx_join (pc := 6) 30 (fun (t2 : Int32) => [none, none, some (.int x0p), none, none]) (fun (t2 : Int32) => [.int t2]) (fun t2 σ2 => ?_) (fun K2 jj2 => ?_)
  · refine jx_ist3 (pc := 30) hX (jn_i _) dX11_led_30 ?_
    refine jx_iconst (pc := 31) hX 0 rfl dX11_led_31 ?_
    refine jx_ist4 (pc := 32) hX (jn_i _) dX11_led_32 ?_
    refine jx_loopR (pc := 34) (fun (s4 : Int32 × Int32) => [none, none, some (.int s4.1), some (.int t2), some (.int s4.2)]) (fun (t5 : Unit) => [none, none, none, none, none]) 66 (x0p, 0) (fun t5 σ5 => ?_) (fun K4 bk4 ex4 wr4 s4 σ4 => ?_)
    · exact jxl_thr (pc := 66) hX hl dX11_led_66 dX11_led_69 dX11_led_70 dX11_led_73 rfl
    · refine jx_ild4 (pc := 34) hX dX11_led_34 ?_
      refine jx_bipush (pc := 36) hX 6 rfl dX11_led_36 ?_
      refine jx_icge (pc := 38) hX 66 dX11_led_38 (by decide) ?_ ?_
      · refine jx_wk [true, true, false, false, false] ?_
        exact ex4 () _
      · refine jx_ild3 (pc := 41) hX dX11_led_41 ?_
        refine jx_ild4 (pc := 42) hX dX11_led_42 ?_
        refine jx_cS2i (pc := 44) hX lX11_348 (c_X11_has hX.F σ4 _ _) (jd_dd hD rfl) (Nat.le_of_ble_eq_true rfl) dX11_led_44 (fun r6 σ6 p6 => ?_)
        refine jx_ifeq (pc := 47) hX 60 dX11_led_47 (by decide) ?_ ?_
        · refine jx_inc4 (pc := 60) hX 1 rfl (jn_i _) dX11_led_60 ?_
          refine jx_goto (pc := 63) hX 34 dX11_led_63 (by decide) ?_
          exact bk4 (s4.1, (s4.2 + 1)) _
        · refine jx_ild2 (pc := 50) hX dX11_led_50 ?_
          refine jx_ifne (pc := 51) hX 57 dX11_led_51 (by decide) ?_ ?_
          · refine jx_inc2 (pc := 57) hX (-1) rfl jn_n dX11_led_57 ?_
            refine jx_inc4 (pc := 60) hX 1 rfl (jn_i _) dX11_led_60 ?_
            refine jx_goto (pc := 63) hX 34 dX11_led_63 (by decide) ?_
            exact bk4 ((s4.1 + (-1)), (s4.2 + 1)) _
          · refine jx_ild4 (pc := 54) hX dX11_led_54 ?_
            exact jxl_ret (pc := 56) hX dX11_led_56 ((wr4 _ _).trans rfl)
  · refine jx_ifeq (pc := 6) hX 29 dX11_led_6 (by decide) ?_ ?_
    · refine jx_iconst (pc := 29) hX 0 rfl dX11_led_29 ?_
      refine jx_wk [false, false, true, true, true] ?_
      exact jj2 0 _
    · refine jx_ald0 (pc := 9) hX dX11_led_9 ?_
      refine jx_getr (pc := 10) hX fX11_32 rfl dX11_led_10 ht ?_
      refine jx_ck0 (fun a3 e3 h3 => ?_)
      refine jx_geti (pc := 13) hX fX11_153 rfl dX11_led_13 h3 ?_
      refine jx_ald0 (pc := 16) hX dX11_led_16 ?_
      refine jx_getr (pc := 17) hX fX11_32 rfl dX11_led_17 ht ?_
      refine jx_ek0 e3 ?_
      refine jx_geti (pc := 20) hX fX11_172 rfl dX11_led_20 h3 ?_
      refine jx_iconst (pc := 23) hX (-1) rfl dX11_led_23 ?_
      refine jx_ixor (pc := 24) hX dX11_led_24 ?_
      refine jx_iand (pc := 25) hX dX11_led_25 ?_
      refine jx_goto (pc := 26) hX 30 dX11_led_26 (by decide) ?_
      refine jx_wk [false, false, true, true, true] ?_
      exact jj2 ((σ.2.1 a3 6) &&& ((σ.2.1 a3 7) ^^^ (-1))) _
