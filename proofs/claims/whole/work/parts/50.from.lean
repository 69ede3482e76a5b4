/-! THE CLAIM OUT OF ONE WALK OF THE LAW'S BODY. Your part is whole_start (and what it stands on); all else here is the same for every law, but numbers. -/
def R_law : String := "ShoreGuardsLaw"
def lw_P (b : Addr) (xs : List Int32) (args : Array Value) (s : State) : Prop := args = #[.ref b] ∧ s.IntsAt b xs ∧ xs.length ≤ 3072 ∧ (Jvm.Cond.and given_1 narrow_1).before args s = true
def lw_Q (_ : Array Value) (s : State) (o : Outcome) (t : State) : Prop := o = .returned (some (.int 1)) ∧ Framed s o t [] 601024 7293033
def lw_Z (below : List Frame) (a : Array Value) (s : State) : State → Prop := fun t => ∃ o, t.status = .running ∧ Ended t below o ∧ lw_Q a s o t
/-- the law's own end, with 1 on the stack, nothing written that was there before, its room as the claim has it -/
theorem lw_ret {p : Program} {l : Launch} {e : Env} {s : State} {m : MethodId} {below : List Frame} {meth : Method} {c : Code} {b : Nat} (hx : p.tables.exec = Jvm.exec) (hb : c.code = code) (hr : meth.sig.returnType = ret) (hlocks : meth.locks = false) {pc : Nat} {H : Heap} {ls : Array Slot} (hdg : decode code pc = .ok (.ireturn, 1)) : W p l e room_1 s m #[Value.ref b] below meth c H [] 601024 7293033 (lw_Z below #[Value.ref b] s) (F0 m pc ls [.int 1]) := by
  intro T hT X
  obtain ⟨fs, hret, hrun, hended, hW, hframe⟩ := X.leave (v := some (.int 1)) (hlocks := hlocks) (fun h => by rw [hr] at h; cases h)
  have hmeth' : T.vm.method? m = some meth := X.method'
  refine ⟨T.setFrames fs, ?_, .returned (some (.int 1)), hrun, hended, rfl, ⟨_, rfl⟩, hW, hframe⟩
  jvm_step X.here [X.here.top, hx, hb, hdg, hmeth', hr, ret, narrow_b1]
  (try refine ⟨rfl, ?_⟩); (try refine ⟨rfl, ?_⟩)
  first | (intro acts; rw [hret _ acts rfl rfl rfl]) | rw [hret _ _ rfl rfl rfl]
  exact Steps.refl _
/-- what holds at the law's entry: the machine, the code, the tables' words (any of lw_tbl by 'hts w (by decide +kernel)'), the script of L ints xs at the cell b, what the Statement gives of the start (any of its parts by flat_of_before) -/
def lw_At (p : Program) (s : State) (m : MethodId) (meth : Method) (c : Code) (b L : Nat) (xs : Nat → Int32) : Prop :=
  p.tables.exec = Jvm.exec ∧ c.code = code ∧ meth.sig.returnType = ret ∧ c.maxLocals = 7 ∧ s.vm.findClass R_law = some m.cls ∧ (∀ w ∈ lw_tbl, w.before #[Value.ref b] s = true) ∧ va_X b L xs s s.heap ∧ b < s.heap.size ∧ meth.locks = false ∧ (Jvm.Cond.and given_1 narrow_1).before #[Value.ref b] s = true
/-! JW: the claim out of a pure statement -/
def jd_s0 : jd_Hp := (List.replicate 32 (31, 0), fun _ _ => 0, fun _ _ => 0, fun _ _ => none)
def jd_Pure : Prop := ∀ (L : Nat) (xs : Nat → Int32), L ≤ 3072 → ∃ σ', m_law L xs jd_s0 = some (1, σ') ∧ σ'.1.length ≤ 601024 + 32 ∧ jd_z σ' ≤ 7293033 + jd_z jd_s0
theorem jw_room {p : Program} {l : Launch} {e : Env} {R R' : Room} {s : State} {m : MethodId} {args : Array Value} {below : List Frame} {meth : Method} {c : Code} {H : Heap} {locs : List Loc} {cells slots : Nat} {Q : State → Prop} {g : JFrame} (h1 : R'.frames ≤ R.frames) (h2 : R'.cells ≤ R.cells) (h3 : R'.slots ≤ R.slots) (h4 : R'.locals ≤ R.locals) (k : W p l e R' s m args below meth c H locs cells slots Q g) : W p l e R s m args below meth c H locs cells slots Q g := by
  intro T hT X
  refine k T hT { X with room := ?_ }
  have h := X.room
  simp only [State.hasRoom, Bool.and_eq_true, decide_eq_true_eq] at h ⊢
  obtain ⟨⟨⟨⟨q1, q2, q3, q4, q5, q6⟩, q7⟩, q8⟩, q9⟩ := h
  exact ⟨⟨⟨⟨by omega, by omega, by omega, by omega, by omega, q6⟩, by omega⟩, by omega⟩, q9⟩
theorem jw_arr {s : State} {A0 : Array Value} {ty : FieldType} (hc : (match ty with | .object _ => false | _ => true) = true) (h : (Cond.arrayClass ty).before A0 s = true) : ∃ cA : ClassId, ArrOfT s cA ty ∧ va_RA s cA ty := by
  obtain ⟨cA, k, comp, h1, h2, h3⟩ := Cond.arrayClass_spec h
  refine ⟨cA, fun n z => ⟨fun k h => (by cases h), k, h2, comp, h3⟩, ?_⟩
  cases ty <;> first | exact h1 | (simp at hc)
theorem jw_arrO {s : State} {A0 : Array Value} {C : String} (h : (Cond.arrayOver (.object C)).before A0 s = true) : ∃ cA : ClassId, ArrOfT s cA (.object C) ∧ va_RA s cA (.object C) := by
  obtain ⟨comp, cA, k, h1, -, h3, h4, h5⟩ := Cond.arrayOver_spec h
  exact ⟨cA, fun n z => ⟨fun k h => (by cases h), k, h3, comp, h4⟩, k, comp, h3, h4, h1, h5⟩
theorem jw_F {s : State} {A0 : Array Value} (hts : ∀ w ∈ lw_tbl, w.before A0 s = true) (hgv : (Jvm.Cond.and given_1 narrow_1).before A0 s = true) : ∃ G : jd_G, jd_F s G := by
  have hfl := flat_of_before _ hgv
  have hTB : ∀ w ∈ jd_TB, w.before A0 s = true := fun w hw => hts w (List.mem_filter.mp hw).1
  obtain ⟨c0, i0, k0⟩ := u_known (C := RX0) (T := TX0) (N := 4) (n := 4) hTB jd_in0 (hts (.instantiable RX0 4) (List.mem_of_getElem? (i := 394) (by decide +kernel)))
  obtain ⟨c1, i1, k1⟩ := u_known (C := RX1) (T := TX1) (N := 2) (n := 2) hTB jd_in1 (hts (.instantiable RX1 2) (List.mem_of_getElem? (i := 456) (by decide +kernel)))
  obtain ⟨c2, i2, k2⟩ := u_known (C := RX2) (T := TX2) (N := 5) (n := 5) hTB jd_in2 (hts (.instantiable RX2 5) (List.mem_of_getElem? (i := 367) (by decide +kernel)))
  obtain ⟨c3, i3, k3⟩ := u_known (C := RX3) (T := TX3) (N := 2) (n := 2) hTB jd_in3 (hts (.instantiable RX3 2) (List.mem_of_getElem? (i := 469) (by decide +kernel)))
  obtain ⟨c4, i4, k4⟩ := u_known (C := RX4) (T := TX4) (N := 4) (n := 4) hTB jd_in4 (hts (.instantiable RX4 4) (List.mem_of_getElem? (i := 206) (by decide +kernel)))
  obtain ⟨c5, i5, k5⟩ := u_known (C := RX5) (T := TX5) (N := 4) (n := 4) hTB jd_in5 (hts (.instantiable RX5 4) (List.mem_of_getElem? (i := 416) (by decide +kernel)))
  obtain ⟨c6, i6, k6⟩ := u_known (C := RX6) (T := TX6) (N := 8) (n := 8) hTB jd_in6 (hts (.instantiable RX6 8) (List.mem_of_getElem? (i := 200) (by decide +kernel)))
  obtain ⟨c7, i7, k7⟩ := u_known (C := RX7) (T := TX7) (N := 3) (n := 3) hTB jd_in7 (hts (.instantiable RX7 3) (List.mem_of_getElem? (i := 437) (by decide +kernel)))
  obtain ⟨c8, i8, k8⟩ := u_known (C := RX8) (T := TX8) (N := 2) (n := 2) hTB jd_in8 (hts (.instantiable RX8 2) (List.mem_of_getElem? (i := 125) (by decide +kernel)))
  obtain ⟨c9, i9, k9⟩ := u_known (C := RX9) (T := TX9) (N := 16) (n := 16) hTB jd_in9 (hts (.instantiable RX9 16) (List.mem_of_getElem? (i := 141) (by decide +kernel)))
  obtain ⟨c10, i10, k10⟩ := u_known (C := RX10) (T := TX10) (N := 16) (n := 16) hTB jd_in10 (hts (.instantiable RX10 16) (List.mem_of_getElem? (i := 235) (by decide +kernel)))
  obtain ⟨c11, i11, k11⟩ := u_known (C := RX11) (T := TX11) (N := 12) (n := 12) hTB jd_in11 (hts (.instantiable RX11 12) (List.mem_of_getElem? (i := 117) (by decide +kernel)))
  obtain ⟨c12, i12, k12⟩ := u_known (C := RX12) (T := TX12) (N := 20) (n := 20) hTB jd_in12 (hts (.instantiable RX12 20) (List.mem_of_getElem? (i := 1393) (by decide +kernel)))
  obtain ⟨c13, i13, k13⟩ := u_known (C := RX13) (T := TX13) (N := 29) (n := 29) hTB jd_in13 (hts (.instantiable RX13 29) (List.mem_of_getElem? (i := 1283) (by decide +kernel)))
  obtain ⟨a0, ha0, hb0⟩ := jw_arr (ty := .int) rfl (hts (.arrayClass .int) (List.mem_of_getElem? (i := 197) (by decide +kernel)))
  obtain ⟨a1, ha1, hb1⟩ := jw_arr (ty := .byte) rfl (hts (.arrayClass .byte) (List.mem_of_getElem? (i := 139) (by decide +kernel)))
  obtain ⟨a2, ha2, hb2⟩ := jw_arr (ty := .boolean) rfl (hts (.arrayClass .boolean) (List.mem_of_getElem? (i := 198) (by decide +kernel)))
  obtain ⟨a3, ha3, hb3⟩ := jw_arr (ty := .long) rfl (hts (.arrayClass .long) (List.mem_of_getElem? (i := 454) (by decide +kernel)))
  obtain ⟨a4, ha4, hb4⟩ := jw_arrO (C := RX4) (hts (.arrayOver (.object RX4)) (List.mem_of_getElem? (i := 373) (by decide +kernel)))
  have hst : ∀ i : Nat, ∃ q : Nat, i < 18 → (jd_tm i).eval A0 s none [] s = some (.ref q) := by
    intro i
    by_cases hi : i < 18
    · obtain ⟨a, c, cA, kA, q1, -⟩ := Cond.exactly_spec (args := A0) (first := s) (o := none) (s := s) (idx := []) (t := jd_tm i) (cls := "java/lang/String") (hfl _ (jd_sw1 i hi).1)
      exact ⟨a, fun _ => q1⟩
    · exact ⟨0, fun h => absurd h hi⟩
  obtain ⟨sa, hsa⟩ := Classical.axiomOfChoice hst
  refine ⟨(s.heap.size, (fun k => match k with
    | 0 => c0
    | 1 => c1
    | 2 => c2
    | 3 => c3
    | 4 => c4
    | 5 => c5
    | 6 => c6
    | 7 => c7
    | 8 => c8
    | 9 => c9
    | 10 => c10
    | 11 => c11
    | 12 => c12
    | _ => c13, fun k => match k with
    | 0 => i0
    | 1 => i1
    | 2 => i2
    | 3 => i3
    | 4 => i4
    | 5 => i5
    | 6 => i6
    | 7 => i7
    | 8 => i8
    | 9 => i9
    | 10 => i10
    | 11 => i11
    | 12 => i12
    | _ => i13), fun a => if a < 32 then sa a else s.heap.size + (a - 32), fun k => match k with
    | 0 => a0
    | 1 => a1
    | 2 => a2
    | 3 => a3
    | _ => a4), ⟨A0, hts, hgv, fun i hi => ?_⟩, ⟨fun ci q hq => ?_, fun k q hq => ?_⟩, fun a ha => ?_, rfl⟩
  · show (jd_tm i).eval A0 s none [] s = some (.ref (if i < 32 then sa i else s.heap.size + (i - 32)))
    rw [if_pos (by omega)]
    exact hsa i hi
  · match ci, hq with
    | 0, hq => cases hq; exact k0
    | 1, hq => cases hq; exact k1
    | 2, hq => cases hq; exact k2
    | 3, hq => cases hq; exact k3
    | 4, hq => cases hq; exact k4
    | 5, hq => cases hq; exact k5
    | 6, hq => cases hq; exact k6
    | 7, hq => cases hq; exact k7
    | 8, hq => cases hq; exact k8
    | 9, hq => cases hq; exact k9
    | 10, hq => cases hq; exact k10
    | 11, hq => cases hq; exact k11
    | 12, hq => cases hq; exact k12
    | 13, hq => cases hq; exact k13
    | n + 14, hq => simp [jd_cl] at hq
  · match k, hq with
    | 0, hq => cases hq; exact ⟨ha0, hb0⟩
    | 1, hq => cases hq; exact ⟨ha1, hb1⟩
    | 2, hq => cases hq; exact ⟨ha2, hb2⟩
    | 3, hq => cases hq; exact ⟨ha3, hb3⟩
    | 4, hq => cases hq; exact ⟨ha4, hb4⟩
    | n + 5, hq => simp [jd_tys] at hq
  · show (if a < 32 then sa a else s.heap.size + (a - 32)) + 32 = s.heap.size + a
    rw [if_neg (by omega)]
    omega
theorem jw_H (G : jd_G) {H : Heap} (h : H.size = G.1) : jd_H G jd_s0 H := by
  have hl : jd_s0.1.length = 32 := by simp [jd_s0]
  refine ⟨by rw [hl]; exact Nat.le_refl _, by rw [hl, h], fun a x ha hx => ?_, fun a x e hx he => ?_⟩
  · have : x = (31, 0) := by
      have h1 : (List.replicate 32 (31, 0))[a]? = some x := hx
      rw [List.getElem?_replicate, if_pos ha] at h1
      exact (Option.some.inj h1).symm
    rw [this]
    decide
  · have : x = (31, 0) := by
      have h1 : (List.replicate 32 (31, 0))[a]? = some x := hx
      have ha : a < 32 := by
        have := (List.getElem?_eq_some_iff.mp h1).1
        simpa using this
      rw [List.getElem?_replicate, if_pos ha] at h1
      exact (Option.some.inj h1).symm
    rw [this] at he
    simp [jd_e] at he
theorem whole_from (hpure : jd_Pure) {p : Program} {e : Env} {s : State} {m : MethodId} {below : List Frame} {meth : Method} {c : Code} (l : Launch) (hflags : l.flags = flags0) {b L : Nat} {xs : Nat → Int32} (hL : L ≤ 3072) (C0 : lw_At p s m meth c b L xs) : W p l e room_1 s m #[Value.ref b] below meth c s.heap [] 0 0 (lw_Z below #[Value.ref b] s) (entryFrame m ([Value.ref b] : List Value).toArray 7) := by
  obtain ⟨hx, hb, hr, hml, hown, hts, hX, hbl, hlocks, hgv⟩ := C0
  obtain ⟨G, hF⟩ := jw_F hts hgv
  have hG : G.1 = s.heap.size := hF.2.2.2
  obtain ⟨σ', hm, hc1, hs1⟩ := hpure L xs hL
  have hst : l.stackTraces = false := by
    unfold Launch.stackTraces
    rw [hflags]
    decide +kernel
  have hlen0 : jd_s0.1.length = 32 := by simp [jd_s0]
  have hA : ¬ jd_A G b := fun q => by
    have q : G.1 ≤ b := q
    omega
  have key := w_law (nm := meth.name) jd_s0 b L xs (p, l, e, s, m, #[Value.ref b], below, meth, c, s, G, 40, 601024, 7293033) rfl hst ⟨hX, hbl, hA⟩ ⟨hx, hb, hml, hown, hr, hlocks, rfl, State.WarmedH.refl s, Nat.le_of_eq hG, fun q _ => rfl, hF⟩ 1 σ' (by rw [jd_b_K0]; exact hm)
  obtain ⟨hp, hw⟩ := key
  have hl := lv_entry [Value.ref b] (n := 7) (by simp [lg_sl, Value.category])
  rw [lg_entry_eq]
  refine jw_room (R' := jd_rm 40 601024 7293033) (Nat.le_of_ble_eq_true rfl) (Nat.le_refl _) (Nat.le_refl _) (Nat.le_of_ble_eq_true rfl) ?_
  have hW := hw _ s.heap [] 0 0 ⟨by rw [hml]; rfl, by rw [hml]; exact hl⟩ (jw_H G hG.symm) va_S.rf (by rw [hlen0]; omega) (by omega)
  intro T hT XT
  obtain ⟨t, a1, o, b1, b2, ⟨b3, -, -⟩, Ls, ⟨b4, b5, b6⟩, b7⟩ := hW T hT XT
  refine ⟨t, a1, o, b1, b2, ?_, b4, b5, ?_⟩
  · exact b3
  · refine b6.weaken (fun y hy hlt => ?_) (Nat.le_refl _) (Nat.le_refl _)
    have h9 : G.1 ≤ y.base := b7 y hy
    rw [hG] at h9
    exact absurd hlt (Nat.not_lt.mpr h9)

