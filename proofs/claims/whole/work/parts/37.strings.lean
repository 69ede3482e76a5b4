theorem dJ0_length_8abf5_0 : decode cJ0_length_8abf5 0 = .ok (.aload_n 0, 1) := by decide +kernel
theorem dJ0_length_8abf5_1 : decode cJ0_length_8abf5 1 = .ok (.getfield 9, 3) := by decide +kernel
theorem dJ0_length_8abf5_4 : decode cJ0_length_8abf5 4 = .ok (.arraylength, 1) := by decide +kernel
theorem dJ0_length_8abf5_5 : decode cJ0_length_8abf5 5 = .ok (.aload_n 0, 1) := by decide +kernel
theorem dJ0_length_8abf5_6 : decode cJ0_length_8abf5 6 = .ok (.invokevirtual 335, 3) := by decide +kernel
theorem dJ0_length_8abf5_9 : decode cJ0_length_8abf5 9 = .ok (.ishr, 1) := by decide +kernel
theorem dJ0_length_8abf5_10 : decode cJ0_length_8abf5 10 = .ok (.ireturn, 1) := by decide +kernel
theorem dJ0_charAt_5068e_0 : decode cJ0_charAt_5068e 0 = .ok (.aload_n 0, 1) := by decide +kernel
theorem dJ0_charAt_5068e_1 : decode cJ0_charAt_5068e 1 = .ok (.invokevirtual 492, 3) := by decide +kernel
theorem dJ0_charAt_5068e_4 : decode cJ0_charAt_5068e 4 = .ok (.ifCond .eq 12, 3) := by decide +kernel
theorem dJ0_charAt_5068e_7 : decode cJ0_charAt_5068e 7 = .ok (.aload_n 0, 1) := by decide +kernel
theorem dJ0_charAt_5068e_8 : decode cJ0_charAt_5068e 8 = .ok (.getfield 9, 3) := by decide +kernel
theorem dJ0_charAt_5068e_11 : decode cJ0_charAt_5068e 11 = .ok (.iload_n 1, 1) := by decide +kernel
theorem dJ0_charAt_5068e_12 : decode cJ0_charAt_5068e 12 = .ok (.invokestatic 495, 3) := by decide +kernel
theorem dJ0_charAt_5068e_15 : decode cJ0_charAt_5068e 15 = .ok (.ireturn, 1) := by decide +kernel
theorem dJ0_charAt_5068e_16 : decode cJ0_charAt_5068e 16 = .ok (.aload_n 0, 1) := by decide +kernel
theorem dJ0_charAt_5068e_17 : decode cJ0_charAt_5068e 17 = .ok (.getfield 9, 3) := by decide +kernel
theorem dJ0_charAt_5068e_20 : decode cJ0_charAt_5068e 20 = .ok (.iload_n 1, 1) := by decide +kernel
theorem dJ0_charAt_5068e_21 : decode cJ0_charAt_5068e 21 = .ok (.invokestatic 498, 3) := by decide +kernel
theorem dJ0_charAt_5068e_24 : decode cJ0_charAt_5068e 24 = .ok (.ireturn, 1) := by decide +kernel
theorem dJ0_coder_7d493_0 : decode cJ0_coder_7d493 0 = .ok (.getstatic 38, 3) := by decide +kernel
theorem dJ0_coder_7d493_3 : decode cJ0_coder_7d493 3 = .ok (.ifCond .eq 10, 3) := by decide +kernel
theorem dJ0_coder_7d493_6 : decode cJ0_coder_7d493 6 = .ok (.aload_n 0, 1) := by decide +kernel
theorem dJ0_coder_7d493_7 : decode cJ0_coder_7d493 7 = .ok (.getfield 15, 3) := by decide +kernel
theorem dJ0_coder_7d493_10 : decode cJ0_coder_7d493 10 = .ok (.goto 4, 3) := by decide +kernel
theorem dJ0_coder_7d493_13 : decode cJ0_coder_7d493 13 = .ok (.iconst 1, 1) := by decide +kernel
theorem dJ0_coder_7d493_14 : decode cJ0_coder_7d493 14 = .ok (.ireturn, 1) := by decide +kernel
theorem dJ0_isLatin1_aae02_0 : decode cJ0_isLatin1_aae02 0 = .ok (.getstatic 38, 3) := by decide +kernel
theorem dJ0_isLatin1_aae02_3 : decode cJ0_isLatin1_aae02 3 = .ok (.ifCond .eq 14, 3) := by decide +kernel
theorem dJ0_isLatin1_aae02_6 : decode cJ0_isLatin1_aae02 6 = .ok (.aload_n 0, 1) := by decide +kernel
theorem dJ0_isLatin1_aae02_7 : decode cJ0_isLatin1_aae02 7 = .ok (.getfield 15, 3) := by decide +kernel
theorem dJ0_isLatin1_aae02_10 : decode cJ0_isLatin1_aae02 10 = .ok (.ifCond .ne 7, 3) := by decide +kernel
theorem dJ0_isLatin1_aae02_13 : decode cJ0_isLatin1_aae02 13 = .ok (.iconst 1, 1) := by decide +kernel
theorem dJ0_isLatin1_aae02_14 : decode cJ0_isLatin1_aae02 14 = .ok (.goto 4, 3) := by decide +kernel
theorem dJ0_isLatin1_aae02_17 : decode cJ0_isLatin1_aae02 17 = .ok (.iconst 0, 1) := by decide +kernel
theorem dJ0_isLatin1_aae02_18 : decode cJ0_isLatin1_aae02 18 = .ok (.ireturn, 1) := by decide +kernel
theorem dJ0_checkIndex_df160_0 : decode cJ0_checkIndex_df160 0 = .ok (.iload_n 0, 1) := by decide +kernel
theorem dJ0_checkIndex_df160_1 : decode cJ0_checkIndex_df160 1 = .ok (.iload_n 1, 1) := by decide +kernel
theorem dJ0_checkIndex_df160_2 : decode cJ0_checkIndex_df160 2 = .ok (.getstatic 1053, 3) := by decide +kernel
theorem dJ0_checkIndex_df160_5 : decode cJ0_checkIndex_df160 5 = .ok (.invokestatic 1059, 3) := by decide +kernel
theorem dJ0_checkIndex_df160_8 : decode cJ0_checkIndex_df160 8 = .ok (.pop, 1) := by decide +kernel
theorem dJ0_checkIndex_df160_9 : decode cJ0_checkIndex_df160 9 = .ok (.return_, 1) := by decide +kernel
theorem dJ1_charAt_3b067_0 : decode cJ1_charAt_3b067 0 = .ok (.iload_n 1, 1) := by decide +kernel
theorem dJ1_charAt_3b067_1 : decode cJ1_charAt_3b067 1 = .ok (.aload_n 0, 1) := by decide +kernel
theorem dJ1_charAt_3b067_2 : decode cJ1_charAt_3b067 2 = .ok (.arraylength, 1) := by decide +kernel
theorem dJ1_charAt_3b067_3 : decode cJ1_charAt_3b067 3 = .ok (.invokestatic 9, 3) := by decide +kernel
theorem dJ1_charAt_3b067_6 : decode cJ1_charAt_3b067 6 = .ok (.aload_n 0, 1) := by decide +kernel
theorem dJ1_charAt_3b067_7 : decode cJ1_charAt_3b067 7 = .ok (.iload_n 1, 1) := by decide +kernel
theorem dJ1_charAt_3b067_8 : decode cJ1_charAt_3b067 8 = .ok (.baload, 1) := by decide +kernel
theorem dJ1_charAt_3b067_9 : decode cJ1_charAt_3b067 9 = .ok (.sipush 255, 3) := by decide +kernel
theorem dJ1_charAt_3b067_12 : decode cJ1_charAt_3b067 12 = .ok (.iand, 1) := by decide +kernel
theorem dJ1_charAt_3b067_13 : decode cJ1_charAt_3b067 13 = .ok (.i2c, 1) := by decide +kernel
theorem dJ1_charAt_3b067_14 : decode cJ1_charAt_3b067 14 = .ok (.ireturn, 1) := by decide +kernel
theorem dJ3_checkIndex_8e157_0 : decode cJ3_checkIndex_8e157 0 = .ok (.iload_n 0, 1) := by decide +kernel
theorem dJ3_checkIndex_8e157_1 : decode cJ3_checkIndex_8e157 1 = .ok (.ifCond .lt 8, 3) := by decide +kernel
theorem dJ3_checkIndex_8e157_4 : decode cJ3_checkIndex_8e157 4 = .ok (.iload_n 0, 1) := by decide +kernel
theorem dJ3_checkIndex_8e157_5 : decode cJ3_checkIndex_8e157 5 = .ok (.iload_n 1, 1) := by decide +kernel
theorem dJ3_checkIndex_8e157_6 : decode cJ3_checkIndex_8e157 6 = .ok (.if_icmp .lt 10, 3) := by decide +kernel
theorem dJ3_checkIndex_8e157_9 : decode cJ3_checkIndex_8e157 9 = .ok (.aload_n 2, 1) := by decide +kernel
theorem dJ3_checkIndex_8e157_10 : decode cJ3_checkIndex_8e157 10 = .ok (.iload_n 0, 1) := by decide +kernel
theorem dJ3_checkIndex_8e157_11 : decode cJ3_checkIndex_8e157 11 = .ok (.iload_n 1, 1) := by decide +kernel
theorem dJ3_checkIndex_8e157_12 : decode cJ3_checkIndex_8e157 12 = .ok (.invokestatic 95, 3) := by decide +kernel
theorem dJ3_checkIndex_8e157_15 : decode cJ3_checkIndex_8e157 15 = .ok (.athrow, 1) := by decide +kernel
theorem dJ3_checkIndex_8e157_16 : decode cJ3_checkIndex_8e157 16 = .ok (.iload_n 0, 1) := by decide +kernel
theorem dJ3_checkIndex_8e157_17 : decode cJ3_checkIndex_8e157 17 = .ok (.ireturn, 1) := by decide +kernel
/-! JD (8): Strings -/
def jd_sn : List Nat := [5, 6, 4, 6, 5, 5, 5, 5, 4, 5, 6, 6, 7, 5, 2, 7, 2, 3]
def jd_sb : List (List Int32) := [[98, 101, 97, 99, 104], [112, 101, 114, 115, 111, 110], [112, 111, 115, 116], [109, 97, 110, 110, 101, 100], [107, 110, 111, 119, 115], [119, 97, 118, 101, 100], [115, 116, 105, 108, 108], [108, 105, 109, 105, 116], [104, 101, 97, 116], [115, 108, 105, 112, 115], [114, 101, 97, 100, 101, 114], [116, 97, 108, 107, 101, 114], [115, 108, 101, 101, 112, 101, 114], [99, 104, 105, 108, 100], [97, 116], [116, 104, 111, 117, 103, 104, 116], [98, 121], [111, 102, 102]]
def jd_A (G : jd_G) : Nat → Prop := fun q => G.1 ≤ q
set_option maxRecDepth 100000 in
theorem jd_sw1 : ∀ i, i < 18 → Cond.exactly (jd_tm i) "java/lang/String" ∈ flatC (Jvm.Cond.and given_1 narrow_1) ∧ Cond.eq (.field (jd_tm i) "java/lang/String" "coder" "B") (.int 0) ∈ flatC (Jvm.Cond.and given_1 narrow_1) ∧ Cond.arrayOf (.field (jd_tm i) "java/lang/String" "value" "[B") .byte ∈ flatC (Jvm.Cond.and given_1 narrow_1) ∧ Cond.eq (.length (.field (jd_tm i) "java/lang/String" "value" "[B")) (.int (Int32.ofNat (jd_sn.getD i 0))) ∈ flatC (Jvm.Cond.and given_1 narrow_1) ∧ jd_sn.getD i 0 < 9 ∧ ∀ j, j < jd_sn.getD i 0 → Cond.eq (.elem (.field (jd_tm i) "java/lang/String" "value" "[B") (.int (Int32.ofNat j))) (.int ((jd_sb.getD i []).getD j 0)) ∈ flatC (Jvm.Cond.and given_1 narrow_1) := by decide +kernel
/-- a String constant: its coder, its bytes -/
theorem jd_str {s0 : State} {G : jd_G} (hF : jd_F s0 G) {i : Nat} (hi : i < 18) : ∃ v : Nat, va_O "java/lang/String" (G.2.2.1 i) (jd_A G) s0 s0.heap ∧ va_OF "java/lang/String" "coder" "B" (.int 0) (G.2.2.1 i) (jd_A G) s0 s0.heap ∧ va_OF "java/lang/String" "value" "[B" (.ref v) (G.2.2.1 i) (jd_A G) s0 s0.heap ∧ va_T .byte v (jd_sn.getD i 0) (fun j => .int ((jd_sb.getD i []).getD j 0)) (jd_A G) s0 s0.heap := by
  obtain ⟨⟨A0, -, hn, ht⟩, -, -, hB⟩ := hF
  obtain ⟨w1, w2, w3, w4, w5, w6⟩ := jd_sw1 i hi
  have hfl := flat_of_before _ hn
  have hA : ∀ a : Nat, a < s0.heap.size → ¬ jd_A G a := fun a h q => by
    have q : G.1 ≤ a := q
    omega
  obtain ⟨a, c, cA, kA, q1, q2, q3, q4, q5, q6, -⟩ := Cond.exactly_spec (args := A0) (first := s0) (o := none) (s := s0) (idx := []) (t := jd_tm i) (cls := "java/lang/String") (hfl _ w1)
  have ea : a = G.2.2.1 i := by
    have := (ht i hi).symm.trans q1
    injection this with this
    injection this with this
    exact this.symm
  subst ea
  obtain ⟨t, htt, hT⟩ := va_Tof (f := fun j => .int ((jd_sb.getD i []).getD j 0)) (A := jd_A G) (by omega) (hfl _ w3) (va_eqt (hfl _ w4)) (fun j hj => va_eqt (hfl _ (w6 j hj))) hA
  exact ⟨t, ⟨cA, q3, q5, by rw [q6]; exact q2, hA _ (Array.getElem?_eq_some_iff.mp q3).1⟩, vk_OFof q1 (va_eqt (hfl _ w2)) hA, vk_OFof q1 htt hA, hT⟩
def jd_es (X : jd_X) : State := X.2.2.2.1
theorem jd_cs {s0 : State} {G : jd_G} (hF : jd_F s0 G) : va_Z "java/lang/String" "COMPACT_STRINGS" "Z" (.int 1) (jd_A G) s0 s0.heap := by
  obtain ⟨⟨A0, h0, hn, -⟩, -, -, hB⟩ := hF
  have hfl := flat_of_before _ hn
  exact va_Zof (h0 _ (List.mem_of_getElem? (i := 585) (by decide +kernel))) (h0 _ (List.mem_of_getElem? (i := 106) (by decide +kernel))) (va_eqi (hfl _ (show Cond.eq (.static "java/lang/String" "COMPACT_STRINGS" "Z") (.int 1) ∈ _ by decide +kernel))) (fun a h q => by
    have q : G.1 ≤ a := q
    omega)
theorem jd_sf {s0 : State} {G : jd_G} (hF : jd_F s0 G) : ∃ v : Value, v.category = 1 ∧ va_Z "jdk/internal/util/Preconditions" "SIOOBE_FORMATTER" "Ljava/util/function/BiFunction;" v (jd_A G) s0 s0.heap := by
  obtain ⟨⟨A0, h0, hn, -⟩, -, -, hB⟩ := hF
  have hfl := flat_of_before _ hn
  have hA : ∀ a : Nat, a < s0.heap.size → ¬ jd_A G a := fun a h q => by
    have q : G.1 ≤ a := q
    omega
  have hl := h0 _ (List.mem_of_getElem? (l := lw_tbl) (i := 601) (a := Cond.laysStatic "jdk/internal/util/Preconditions" "SIOOBE_FORMATTER" "Ljava/util/function/BiFunction;") (by decide +kernel))
  have hini := h0 _ (List.mem_of_getElem? (l := lw_tbl) (i := 108) (a := Cond.initialized "jdk/internal/util/Preconditions") (by decide +kernel))
  have hr : (Cond.isRef (.static "jdk/internal/util/Preconditions" "SIOOBE_FORMATTER" "Ljava/util/function/BiFunction;")).before A0 s0 = true := hfl _ (by decide +kernel)
  rcases va_Zqof hl hini hr hA with h | ⟨t, h⟩
  · exact ⟨.null, rfl, h⟩
  · exact ⟨.ref t, rfl, h⟩
section JD8
variable {R τ : Type} {X : jd_X} {emb : R → Option Value} {own nm : String} {cc : ByteArray} {nL : Nat} {ret : Option FieldType} {pc : Nat} {lv : List (Option Value)} {st : List Value} {σ : jd_Hp} {cm : Option (R × jd_Hp)} {K : τ → jd_Hp → Option (R × jd_Hp)}
theorem jd_old (hX : jd_C X own nm cc nL ret) : ∀ a : Nat, a < (jd_gs X).heap.size → ¬ jd_A (jd_gG X) a → (jd_es X).heap[a]? = (jd_gs X).heap[a]? := by
  obtain ⟨p, l, e, s, m, args, below, meth, c, s0, G, d, mc, ms⟩ := X
  obtain ⟨hx, hb, -, hown, -, -, -, hW, hge, hold, hF⟩ := hX
  intro a h1 h2
  exact hold a (Nat.not_le.mp h2)
theorem jd_alike (hX : jd_C X own nm cc nL ret) : (jd_gs X).vm.Alike (jd_es X).vm := by
  obtain ⟨p, l, e, s, m, args, below, meth, c, s0, G, d, mc, ms⟩ := X
  exact hX.2.2.2.2.2.2.2.1.alike
theorem jd_strX (hX : jd_C X own nm cc nL ret) {i : Nat} (hi : i < 18) : ∃ v : Nat, va_O "java/lang/String" ((jd_gG X).2.2.1 i) (jd_A (jd_gG X)) (jd_es X) (jd_es X).heap ∧ va_OF "java/lang/String" "coder" "B" (.int 0) ((jd_gG X).2.2.1 i) (jd_A (jd_gG X)) (jd_es X) (jd_es X).heap ∧ va_OF "java/lang/String" "value" "[B" (.ref v) ((jd_gG X).2.2.1 i) (jd_A (jd_gG X)) (jd_es X) (jd_es X).heap ∧ va_T .byte v (jd_sn.getD i 0) (fun j => .int ((jd_sb.getD i []).getD j 0)) (jd_A (jd_gG X)) (jd_es X) (jd_es X).heap := by
  obtain ⟨v, h1, h2, h3, h4⟩ := jd_str hX.F hi
  have hq := jd_old hX
  have hv := jd_alike hX
  exact ⟨v, (va_O.moved hv h1).kept hq, (va_OF.moved hv h2).kept hq, (va_OF.moved hv h3).kept hq, (va_T.moved hv h4).kept hq⟩
theorem jd_csX (hX : jd_C X own nm cc nL ret) : va_Z "java/lang/String" "COMPACT_STRINGS" "Z" (.int 1) (jd_A (jd_gG X)) (jd_es X) (jd_es X).heap := (va_Z.moved (jd_alike hX) (jd_cs hX.F)).kept (jd_old hX)
theorem jd_sfX (hX : jd_C X own nm cc nL ret) : ∃ v : Value, v.category = 1 ∧ va_Z "jdk/internal/util/Preconditions" "SIOOBE_FORMATTER" "Ljava/util/function/BiFunction;" v (jd_A (jd_gG X)) (jd_es X) (jd_es X).heap := by
  obtain ⟨v, hc, h⟩ := jd_sf hX.F
  exact ⟨v, hc, (va_Z.moved (jd_alike hX) h).kept (jd_old hX)⟩
/-- an instruction that reads what is old -/
theorem jd_rdO {pc' : Nat} {st' : List Value} (h : match X with
  | (p, l, e, s, m, args, below, meth, c, _, G, d, mc, ms) => ∀ (ls : Array Slot) (H : Heap) (locs : List Loc) (cells slots : Nat) (Q : State → Prop), jd_L ls c.maxLocals lv → va_S (jd_A G) s.heap H locs → W p l e (jd_rm d mc ms) s m args below meth c H locs cells slots Q (F0 m pc' ls st') → W p l e (jd_rm d mc ms) s m args below meth c H locs cells slots Q (F0 m pc ls st)) (k : jd_S X emb pc' lv st' σ cm) : jd_S X emb pc lv st σ cm := by
  obtain ⟨p, l, e, s, m, args, below, meth, c, s0, G, d, mc, ms⟩ := X
  intro v σ' hv
  obtain ⟨h1, h2⟩ := k v σ' hv
  exact ⟨h1, fun ls H locs cells slots a b c d f => h ls H locs cells slots _ a c (h2 ls H locs cells slots a b c d f)⟩
theorem jr_sget (hX : jd_C X own nm cc nL ret) {n d : String} {v : Value} {q idx : Nat} (hE : va_OF "java/lang/String" n d v q (jd_A (jd_gG X)) (jd_es X) (jd_es X).heap) (hw : Cond.fieldLink own idx "java/lang/String" n d ∈ jd_TB) (hd : decode cc pc = .ok (.getfield idx, 3)) (k : jd_S X emb (pc + 3) lv (v :: st) σ cm) : jd_S X emb pc lv (.ref q :: st) σ cm := by
  obtain ⟨p, l, e, s, m, args, below, meth, c, s0, G, d, mc, ms⟩ := X
  have hts : ∀ w ∈ jd_TB, w.before args s = true := jd_words hX
  exact jd_rdO (fun ls H locs cells slots Q _ hS w => vk_getf (ref := "java/lang/String") hX.1 hX.2.1 hE hS hX.2.2.2.1 (hts _ hw) (fun _ h => h) hd w) k
theorem jr_gets (hX : jd_C X own nm cc nL ret) {C n d : String} {v : Value} {idx : Nat} (hZ : va_Z C n d v (jd_A (jd_gG X)) (jd_es X) (jd_es X).heap) (hw : Cond.fieldLink own idx C n d ∈ jd_TB) (hd : decode cc pc = .ok (.getstatic idx, 3)) (k : jd_S X emb (pc + 3) lv (v :: st) σ cm) : jd_S X emb pc lv st σ cm := by
  obtain ⟨p, l, e, s, m, args, below, meth, c, s0, G, d, mc, ms⟩ := X
  have hts : ∀ w ∈ jd_TB, w.before args s = true := jd_words hX
  exact jd_rdO (fun ls H locs cells slots Q _ hS w => va_gets (ref := C) hX.1 hX.2.1 hZ hS hX.2.2.2.1 (hts _ hw) (fun _ h => h) hd w) k
theorem jr_tlen (hX : jd_C X own nm cc nL ret) {t n : Nat} {f : Nat → Value} (hT : va_T .byte t n f (jd_A (jd_gG X)) (jd_es X) (jd_es X).heap) (hd : decode cc pc = .ok (.arraylength, 1)) (k : jd_S X emb (pc + 1) lv (.int (Int32.ofNat n) :: st) σ cm) : jd_S X emb pc lv (.ref t :: st) σ cm := by
  obtain ⟨p, l, e, s, m, args, below, meth, c, s0, G, d, mc, ms⟩ := X
  exact jd_rdO (fun ls H locs cells slots Q _ hS w => va_tlen hX.1 hX.2.1 hT hS rfl hd w) k
theorem jr_tbld (hX : jd_C X own nm cc nL ret) {t n : Nat} {f : Nat → Value} {i : Int32} (hT : va_T .byte t n f (jd_A (jd_gG X)) (jd_es X) (jd_es X).heap) (hi : vp_in i n) (hd : decode cc pc = .ok (.baload, 1)) (k : jd_S X emb (pc + 1) lv (f i.toNatClampNeg :: st) σ cm) : jd_S X emb pc lv (.int i :: .ref t :: st) σ cm := by
  obtain ⟨p, l, e, s, m, args, below, meth, c, s0, G, d, mc, ms⟩ := X
  exact jd_rdO (fun ls H locs cells slots Q _ hS w => va_tb hX.1 hX.2.1 hT hS hi rfl hd w) k
theorem jr_rld0 (hX : jd_C X own nm cc nL ret) {t : List (Option Value)} {x : Nat} (hd : decode cc pc = .ok (.aload_n 0, 1)) (k : jd_S X emb (pc + 1) (some (.ref x) :: t) (.ref x :: st) σ cm) : jd_S X emb pc (some (.ref x) :: t) st σ cm := by
  obtain ⟨p, l, e, s, m, args, below, meth, c, s0, G, d, mc, ms⟩ := X
  exact jd_pure (fun ls H locs cells slots Q h w => lv_aload_n hX.1 hX.2.1 hd rfl (jd_at h (i := 0) rfl) w) k
theorem jr_ifeqF (hX : jd_C X own nm cc nL ret) {x : Int32} {off : Int} (tgt : Nat) (hx : ¬ x = 0) (hd : decode cc pc = .ok (.ifCond .eq off, 3)) (ht : (pc : Int) + off = (tgt : Int)) (k : jd_S X emb (pc + 3) lv st σ cm) : jd_S X emb pc lv (.int x :: st) σ cm := by
  obtain ⟨p, l, e, s, m, args, below, meth, c, s0, G, d, mc, ms⟩ := X
  exact jd_pure (fun ls H locs cells slots Q h w => lv_if_eq hX.1 hX.2.1 hd ht (fun q => absurd q hx) (fun _ => w)) k
theorem jr_ifneF (hX : jd_C X own nm cc nL ret) {x : Int32} {off : Int} (tgt : Nat) (hx : x = 0) (hd : decode cc pc = .ok (.ifCond .ne off, 3)) (ht : (pc : Int) + off = (tgt : Int)) (k : jd_S X emb (pc + 3) lv st σ cm) : jd_S X emb pc lv (.int x :: st) σ cm := by
  obtain ⟨p, l, e, s, m, args, below, meth, c, s0, G, d, mc, ms⟩ := X
  exact jd_pure (fun ls H locs cells slots Q h w => lv_if_ne hX.1 hX.2.1 hd ht (fun q => absurd hx q) (fun _ => w)) k
theorem jr_ifltF (hX : jd_C X own nm cc nL ret) {x : Int32} {off : Int} (tgt : Nat) (hx : ¬ x < 0) (hd : decode cc pc = .ok (.ifCond .lt off, 3)) (ht : (pc : Int) + off = (tgt : Int)) (k : jd_S X emb (pc + 3) lv st σ cm) : jd_S X emb pc lv (.int x :: st) σ cm := by
  obtain ⟨p, l, e, s, m, args, below, meth, c, s0, G, d, mc, ms⟩ := X
  exact jd_pure (fun ls H locs cells slots Q h w => lv_if_lt hX.1 hX.2.1 hd ht (fun q => absurd q hx) (fun _ => w)) k
theorem jr_icltT (hX : jd_C X own nm cc nL ret) {x y : Int32} {off : Int} (tgt : Nat) (hx : x < y) (hd : decode cc pc = .ok (.if_icmp .lt off, 3)) (ht : (pc : Int) + off = (tgt : Int)) (k : jd_S X emb tgt lv st σ cm) : jd_S X emb pc lv (.int y :: .int x :: st) σ cm := by
  obtain ⟨p, l, e, s, m, args, below, meth, c, s0, G, d, mc, ms⟩ := X
  exact jd_pure (fun ls H locs cells slots Q h w => lv_icmp_lt hX.1 hX.2.1 hd ht (fun _ => w) (fun q => absurd hx q)) k
theorem jr_none : jd_S X emb pc lv st σ (jd_b (none : Option (τ × jd_Hp)) K) := by
  obtain ⟨p, l, e, s, m, args, below, meth, c, s0, G, d, mc, ms⟩ := X
  intro v σ' hv
  cases hv
theorem jr_nret {ty : FieldType} (hX : jd_C X own nm cc nL (some ty)) {v : Int32} {cm : Option (Int32 × jd_Hp)} (hn : narrow ty (.int v) = .int v) (hd : decode cc pc = .ok (.ireturn, 1)) (hcm : cm = some (v, σ)) : jd_S X je_i pc lv [.int v] σ cm := by
  obtain ⟨p, l, e, s, m, args, below, meth, c, s0, G, d, mc, ms⟩ := X
  refine jd_end hcm (fun ls H locs hq hf => ?_)
  exact W.zret hX.1 hX.2.1 hX.2.2.2.2.1 hn hq hf hd hX.2.2.2.2.2.1
/-- a virtual call of a String's method -/
def jd_mvs (own : String) (idx : Nat) (y : MethodName) (cc' : ByteArray) (nL' : Nat) (ret' : Option FieldType) (n : Nat) : Prop := y.cls = "java/lang/String" ∧ Cond.methodLink own idx y ∈ jd_TB ∧ Cond.instanceMethod y ∈ jd_TB ∧ Cond.selects "java/lang/String" y y ∈ jd_TB ∧ Cond.initialized "java/lang/String" ∈ jd_TB ∧ Cond.code y cc' nL' ret' ∈ jd_TB ∧ jd_ds y n ∧ nL' ≤ 45
theorem jd_cVs {R' : Type} {emb' : R' → Option Value} {rest : List Value} {A : R' → jd_Hp → Option (τ × jd_Hp)} {c1 : Option (R' × jd_Hp)} {y : MethodName} {cc' : ByteArray} {nL' d' : Nat} {ret' : Option FieldType} (hX : jd_C X own nm cc nL ret) {idx i : Nat} {As : List Value} (hf : jd_mvs own idx y cc' nL' ret' As.length) (hi : i < 18) (hM : jd_M (jd_gl X) (jd_gs X) (jd_gG X) y cc' nL' ret' d' emb' (jd_v (jd_gG X) (some i) :: As) σ c1) (hdd : d' + 1 ≤ jd_dp X) (hr : (rest.map fun v => v.category).sum ≤ 8) (hd : decode cc pc = .ok (.invokevirtual idx, 3)) (hst : st = As.reverse ++ jd_v (jd_gG X) (some i) :: rest)
    (k : ∀ r σ1, jd_p σ σ1 → jd_S X emb (pc + 3) lv ((emb' r).toList ++ rest) σ1 (jd_b (A r σ1) K)) : jd_S X emb pc lv st σ (jd_b (jd_b c1 A) K) := by
  obtain ⟨hyC, hlk, w1, w2, w3, w4, hds, hnl⟩ := hf
  refine jd_call hX w4 hM hdd hnl ?_ k
  obtain ⟨p, l, e, s, m, args, below, meth, c, s0, G, d, mc, ms⟩ := X
  intro mc1 ms1 Qc ls H locs cells slots hMet hL hH hPc hws hts hc1 hs1 hd1 hd2
  obtain ⟨hx, hb, hml, hown, hret, hlk2, hnm, hW, hge, hold, hF⟩ := hX
  obtain ⟨v, hO, -⟩ := jd_str hF hi
  have hPU := hPc { s with heap := H } rfl (State.WarmedH.refl s)
  obtain ⟨cell, q1, q2, q3, q4⟩ := va_O.moved hW.alike hO
  have hlt : G.2.2.1 i < G.1 := Nat.not_le.mp q4
  have hlen : ∀ sig, parseMethodDescriptor y.desc = some sig → As.length = sig.parameters.length := fun sig h => by
    have h2 := hds.2.2
    rw [h] at h2
    exact (Option.some.inj h2).symm
  have hrecv : ∃ cellB : Cell, H[G.2.2.1 i]? = some cellB ∧ cellB.vm.isStatics = false ∧ s.vm.findClass y.cls = some cellB.cls := ⟨cell, by
    have := hPU.2.2.2.1 _ hlt
    exact this.trans q1, q2, by rw [hyC]; exact q3⟩
  have hpre : PreV s H y.cls (G.2.2.1 i) (jd_Pc s0 G (jd_v G (some i) :: As) σ) As := ⟨jd_blind, hrecv, hPc⟩
  have hW8 : 2 * (F0 m pc ls st).monitorRoom + (rest.map fun v => v.category).sum ≤ 8 := lv_room hr
  rw [← hyC] at w2 w3
  exact va_runV (g := F0 m pc ls st) (As := As) (n := As.length) (nL := nL) (Ts := jd_TB) ⟨hx, hb, hml, hown, hts⟩ hMet ⟨⟨rfl, rfl, hd1, hd2, hws, List.mem_singleton.mpr rfl, hts _ w4, hts _ w3, ⟨hds.1, hds.2.1⟩, hlen, hts _ hlk⟩, hts _ w1, hts _ w2⟩ hpre rfl rfl (hL.2.1.trans hml) hst hW8 hd ⟨hc1, hs1⟩
/-- the same, of a method that leaves the heap -/
theorem jd_cVs' {R' : Type} {emb' : R' → Option Value} {rest : List Value} {A : R' → Option (τ × jd_Hp)} {r0 : R'} {y : MethodName} {cc' : ByteArray} {nL' d' : Nat} {ret' : Option FieldType} (hX : jd_C X own nm cc nL ret) {idx i : Nat} {As : List Value} (hf : jd_mvs own idx y cc' nL' ret' As.length) (hi : i < 18) (hM : jd_M (jd_gl X) (jd_gs X) (jd_gG X) y cc' nL' ret' d' emb' (jd_v (jd_gG X) (some i) :: As) σ (some (r0, σ))) (hdd : d' + 1 ≤ jd_dp X) (hr : (rest.map fun v => v.category).sum ≤ 8) (hd : decode cc pc = .ok (.invokevirtual idx, 3)) (hst : st = As.reverse ++ jd_v (jd_gG X) (some i) :: rest)
    (k : ∀ r, jd_S X emb (pc + 3) lv ((emb' r).toList ++ rest) σ (jd_b (A r) K)) : jd_S X emb pc lv st σ (jd_b (jd_b (some (r0, σ)) (fun r _ => A r)) K) := by
  rw [show jd_b (some (r0, σ)) (fun r _ => A r) = jd_b (some (r0, σ)) (fun r σ1 => @ite _ (σ1 = σ) (Classical.propDecidable _) (A r) none) by simp [jd_b]]
  refine jd_cVs hX hf hi hM hdd hr hd hst (fun r σ1 _ => ?_)
  by_cases h : σ1 = σ
  · rw [if_pos h]
    subst h
    exact k r
  · rw [if_neg h]
    exact jr_none
end JD8
theorem ts_w1 : Cond.fieldLink "java/lang/String" 9 "java/lang/String" "value" "[B" ∈ jd_TB := jd_mem 1977 (by decide +kernel) (by decide +kernel)
theorem ts_w2 : Cond.fieldLink "java/lang/String" 15 "java/lang/String" "coder" "B" ∈ jd_TB := jd_mem 1978 (by decide +kernel) (by decide +kernel)
theorem ts_w3 : Cond.fieldLink "java/lang/String" 38 "java/lang/String" "COMPACT_STRINGS" "Z" ∈ jd_TB := jd_mem 584 (by decide +kernel) (by decide +kernel)
theorem ts_w4 : Cond.fieldLink "java/lang/String" 1053 "jdk/internal/util/Preconditions" "SIOOBE_FORMATTER" "Ljava/util/function/BiFunction;" ∈ jd_TB := jd_mem 600 (by decide +kernel) (by decide +kernel)
theorem ts_l1 : jd_mvs "java/lang/String" 335 yJ0_coder_7d493 cJ0_coder_7d493 1 (some .byte) 0 := ⟨rfl, jd_mem 580 (by decide +kernel) (by decide +kernel), jd_mem 581 (by decide +kernel) (by decide +kernel), jd_mem 582 (by decide +kernel) (by decide +kernel), jd_mem 106 (by decide +kernel) (by decide +kernel), jd_mem 583 (by decide +kernel) (by decide +kernel), ⟨by decide, by decide, by decide +kernel⟩, by decide⟩
theorem ts_l2 : jd_mvs "java/lang/String" 492 yJ0_isLatin1_aae02 cJ0_isLatin1_aae02 1 (some .boolean) 0 := ⟨rfl, jd_mem 590 (by decide +kernel) (by decide +kernel), jd_mem 591 (by decide +kernel) (by decide +kernel), jd_mem 592 (by decide +kernel) (by decide +kernel), jd_mem 106 (by decide +kernel) (by decide +kernel), jd_mem 593 (by decide +kernel) (by decide +kernel), ⟨by decide, by decide, by decide +kernel⟩, by decide⟩
theorem ts_l3 : jd_st "java/lang/String" 495 yJ1_charAt_3b067 cJ1_charAt_3b067 2 (some .char) 2 := ⟨Or.inl (jd_mem 594 (by decide +kernel) (by decide +kernel)), jd_mem 595 (by decide +kernel) (by decide +kernel), jd_mem 107 (by decide +kernel) (by decide +kernel), jd_mem 596 (by decide +kernel) (by decide +kernel), ⟨by decide, by decide, by decide +kernel⟩, by decide⟩
theorem ts_l4 : jd_st "java/lang/StringLatin1" 9 yJ0_checkIndex_df160 cJ0_checkIndex_df160 2 none 2 := ⟨Or.inl (jd_mem 597 (by decide +kernel) (by decide +kernel)), jd_mem 598 (by decide +kernel) (by decide +kernel), jd_mem 106 (by decide +kernel) (by decide +kernel), jd_mem 599 (by decide +kernel) (by decide +kernel), ⟨by decide, by decide, by decide +kernel⟩, by decide⟩
theorem ts_l5 : jd_st "java/lang/String" 1059 yJ3_checkIndex_8e157 cJ3_checkIndex_8e157 3 (some .int) 3 := ⟨Or.inl (jd_mem 602 (by decide +kernel) (by decide +kernel)), jd_mem 603 (by decide +kernel) (by decide +kernel), jd_mem 108 (by decide +kernel) (by decide +kernel), jd_mem 604 (by decide +kernel) (by decide +kernel), ⟨by decide, by decide, by decide +kernel⟩, by decide⟩
theorem c_coder {l : Launch} {s0 : State} {G : jd_G} (hF : jd_F s0 G) (σ : jd_Hp) (i : Nat) (hi : i < 18) : jd_M l s0 G yJ0_coder_7d493 cJ0_coder_7d493 1 (some .byte) 0 je_i [jd_v G (some i)] σ (some (0, σ)) := by
  refine jd_enter hF (by decide) (fun G => [some (jd_v G (some i))]) rfl (by simp [lv_args, jd_al, jd_v_cat, jd_cti]) (by simp [lg_sl, jd_v_cat, jd_cti]) (fun X hD hX => ?_)
  have hX : jd_C X "java/lang/String" "coder" cJ0_coder_7d493 1 (some .byte) := hX
  obtain ⟨v, hO, hc, hv, hT⟩ := jd_strX hX hi
  refine jr_gets hX (jd_csX hX) ts_w3 dJ0_coder_7d493_0 ?_
  refine jr_ifeqF hX 13 (by decide) dJ0_coder_7d493_3 (by decide) ?_
  refine jr_ald0 hX dJ0_coder_7d493_6 ?_
  refine jr_sget hX hc ts_w2 dJ0_coder_7d493_7 ?_
  refine jr_goto hX 14 dJ0_coder_7d493_10 (by decide) ?_
  exact jr_nret hX (by decide) dJ0_coder_7d493_14 rfl
theorem c_isLatin1 {l : Launch} {s0 : State} {G : jd_G} (hF : jd_F s0 G) (σ : jd_Hp) (i : Nat) (hi : i < 18) : jd_M l s0 G yJ0_isLatin1_aae02 cJ0_isLatin1_aae02 1 (some .boolean) 0 je_i [jd_v G (some i)] σ (some (1, σ)) := by
  refine jd_enter hF (by decide) (fun G => [some (jd_v G (some i))]) rfl (by simp [lv_args, jd_al, jd_v_cat, jd_cti]) (by simp [lg_sl, jd_v_cat, jd_cti]) (fun X hD hX => ?_)
  have hX : jd_C X "java/lang/String" "isLatin1" cJ0_isLatin1_aae02 1 (some .boolean) := hX
  obtain ⟨v, hO, hc, hv, hT⟩ := jd_strX hX hi
  refine jr_gets hX (jd_csX hX) ts_w3 dJ0_isLatin1_aae02_0 ?_
  refine jr_ifeqF hX 17 (by decide) dJ0_isLatin1_aae02_3 (by decide) ?_
  refine jr_ald0 hX dJ0_isLatin1_aae02_6 ?_
  refine jr_sget hX hc ts_w2 dJ0_isLatin1_aae02_7 ?_
  refine jr_ifneF hX 17 rfl dJ0_isLatin1_aae02_10 (by decide) ?_
  refine jr_iconst hX 1 rfl dJ0_isLatin1_aae02_13 ?_
  refine jr_goto hX 18 dJ0_isLatin1_aae02_14 (by decide) ?_
  exact jr_nret hX (by decide) dJ0_isLatin1_aae02_18 rfl
theorem c_pcheck {l : Launch} {s0 : State} {G : jd_G} (hF : jd_F s0 G) (σ : jd_Hp) (x y : Int32) (v : Value) (hv : v.category = 1) (h0 : ¬ x < 0) (h1 : x < y) : jd_M l s0 G yJ3_checkIndex_8e157 cJ3_checkIndex_8e157 3 (some .int) 0 je_i [.int x, .int y, v] σ (some (x, σ)) := by
  refine jd_enter hF (by decide) (fun G => [some (.int x), some (.int y), some v]) rfl (by simp [lv_args, jd_al, hv, jd_cti]) (by simp [lg_sl, hv, jd_cti]) (fun X hD hX => ?_)
  have hX : jd_C X "jdk/internal/util/Preconditions" "checkIndex" cJ3_checkIndex_8e157 3 (some .int) := hX
  refine jr_ild0 hX dJ3_checkIndex_8e157_0 ?_
  refine jr_ifltF hX 9 h0 dJ3_checkIndex_8e157_1 (by decide) ?_
  refine jr_ild0 hX dJ3_checkIndex_8e157_4 ?_
  refine jr_ild1 hX dJ3_checkIndex_8e157_5 ?_
  refine jr_icltT hX 16 h1 dJ3_checkIndex_8e157_6 (by decide) ?_
  refine jr_ild0 hX dJ3_checkIndex_8e157_16 ?_
  exact jr_iret hX dJ3_checkIndex_8e157_17 rfl
theorem c_checkIndex {l : Launch} {s0 : State} {G : jd_G} (hF : jd_F s0 G) (σ : jd_Hp) (x y : Int32) (h0 : ¬ x < 0) (h1 : x < y) : jd_M l s0 G yJ0_checkIndex_df160 cJ0_checkIndex_df160 2 none 1 je_v [.int x, .int y] σ (some ((), σ)) := by
  refine jd_enter hF (by decide) (fun G => [some (.int x), some (.int y)]) rfl (by simp [lv_args, jd_al, jd_v_cat, jd_cti]) (by simp [lg_sl, jd_v_cat, jd_cti]) (fun X hD hX => ?_)
  have hX : jd_C X "java/lang/String" "checkIndex" cJ0_checkIndex_df160 2 none := hX
  obtain ⟨v, hv, hZ⟩ := jd_sfX hX
  rw [show jd_b (some ((), σ)) jd_K0 = jd_b (jd_b (some (x, σ)) (fun _ σ1 => some ((), σ1))) jd_K0 from rfl]
  refine jr_ild0 hX dJ0_checkIndex_df160_0 ?_
  refine jr_ild1 hX dJ0_checkIndex_df160_1 ?_
  refine jr_gets hX hZ ts_w4 dJ0_checkIndex_df160_2 ?_
  refine jr_cS3i hX ts_l5 (c_pcheck hX.F σ x y v hv h0 h1) (jd_dd hD rfl) (Nat.le_of_ble_eq_true rfl) dJ0_checkIndex_df160_5 (fun r σ1 p1 => ?_)
  refine jr_pop hX rfl dJ0_checkIndex_df160_8 ?_
  exact jr_vret hX dJ0_checkIndex_df160_9 rfl
/-- the char at a place -/
def jd_ch (i k : Nat) : Int32 := (jd_sb.getD i []).getD k 0
theorem jd_ch_ok : ∀ i, i < 18 → ∀ k, k < jd_sn.getD i 0 → ((((jd_sb.getD i []).getD k 0) &&& 255).toUInt32 % 65536).toInt32 = jd_ch i k ∧ narrow .char (.int (jd_ch i k)) = .int (jd_ch i k) := by decide +kernel
theorem jd_enter2 {l : Launch} {s0 : State} {G : jd_G} (hF : jd_F s0 G) {y : MethodName} {cc : ByteArray} {nL : Nat} {ret : Option FieldType} {d : Nat} {R : Type} {emb : R → Option Value} {av : List Value} {σ : jd_Hp} {cm : Option (R × jd_Hp)} (hp : plainName y.cls = true) (lvf : jd_G → List (Option Value)) (hlv : (lvf G).length = nL) (hal : jd_al 0 (lvf G) = lv_args 0 av) (hlen : (lg_sl av).length ≤ nL) (hpp : ∀ v σ', cm = some (v, σ') → jd_p σ σ')
    (k : ∀ X : jd_X, jd_gG X = G → jd_gs X = s0 → jd_gl X = l → jd_dp X = d → jd_C X y.cls y.name cc nL ret → jd_S X emb 0 (lvf (jd_gG X)) [] σ (jd_b cm jd_K0)) : jd_M l s0 G y cc nL ret d emb av σ cm := by
  intro v σ' hv
  have hb0 : jd_b cm jd_K0 = some (v, σ') := by rw [jd_b_K0]; exact hv
  refine ⟨fun X h1 h2 => hpp v σ' hv, ?_⟩
  refine Met.ofW (cc := cc) (maxL := nL) (ret := ret) hp rfl ?_
  intro p e s m args below meth c s₁ B hml hPc
  obtain ⟨rfl, hW, hge, hold, hH⟩ := hPc
  have hK := k (p, l, e, s, m, av.toArray, below, meth, c, s0, G, d, σ'.1.length - σ.1.length, jd_z σ' - jd_z σ) rfl rfl rfl rfl ⟨B.exec, B.bytes, hml, findClass_of_methodNamed B.named, B.returns, B.notSynchronized, (name_of_methodNamed B.named B.method).1, hW, hge, hold, hF⟩ v σ' hb0
  have hl := lv_entry av (n := nL) hlen
  rw [lg_entry_eq]
  have l1 := hK.1.len
  have z1 := hK.1.z
  refine hK.2 _ s.heap [] 0 0 ⟨?_, ?_⟩ hH va_S.rf (by omega) (by omega)
  · rw [hml]; exact hlv
  · rw [hml]
    show lv_has _ nL (jd_al 0 (lvf G))
    rw [hal]
    exact hl
theorem c_lcharAt {l : Launch} {s0 : State} {G : jd_G} (hF : jd_F s0 G) (σ : jd_Hp) (i k t : Nat) (hi : i < 18) (hk : k < jd_sn.getD i 0) (hT : va_T .byte t (jd_sn.getD i 0) (fun j => .int ((jd_sb.getD i []).getD j 0)) (jd_A G) s0 s0.heap) : jd_M l s0 G yJ1_charAt_3b067 cJ1_charAt_3b067 2 (some .char) 2 je_i [.ref t, .int (nI k)] σ (some (jd_ch i k, σ)) := by
  refine jd_enter2 hF (by decide) (fun G => [some (.ref t), some (.int (nI k))]) rfl (by simp [lv_args, jd_al, jd_cti, Value.category]) (by simp [lg_sl, jd_cti, Value.category]) (fun v σ' h => by cases h; exact jd_p.rf σ) (fun X hG hs hl hD hX => ?_)
  subst hG; subst hs
  have hX : jd_C X "java/lang/StringLatin1" "charAt" cJ1_charAt_3b067 2 (some .char) := hX
  have h9 := (jd_sw1 i hi).2.2.2.2.1
  have hT := (va_T.moved (jd_alike hX) hT).kept (jd_old hX)
  have hcl : (nI k).toNatClampNeg = k := nI_clamp (by omega)
  obtain ⟨hc1, hc2⟩ := jd_ch_ok i hi k hk
  rw [show jd_b (some (jd_ch i k, σ)) jd_K0 = jd_b (jd_b (some ((), σ)) (fun _ σ1 => some (jd_ch i k, σ1))) jd_K0 from rfl]
  refine jr_ild1 hX dJ1_charAt_3b067_0 ?_
  refine jr_rld0 hX dJ1_charAt_3b067_1 ?_
  refine jr_tlen hX hT dJ1_charAt_3b067_2 ?_
  refine jr_cS2v hX ts_l4 (c_checkIndex hX.F σ (nI k) (Int32.ofNat (jd_sn.getD i 0)) (nI_pos (by omega)) (nI_lt hk (by omega))) (jd_dd hD rfl) (Nat.le_of_ble_eq_true rfl) dJ1_charAt_3b067_3 (fun r σ1 p1 => ?_)
  refine jr_rld0 hX dJ1_charAt_3b067_6 ?_
  refine jr_ild1 hX dJ1_charAt_3b067_7 ?_
  refine jr_tbld hX hT (vp_in_nI hk (by omega)) dJ1_charAt_3b067_8 ?_
  rw [hcl]
  refine jr_sipush hX 255 rfl dJ1_charAt_3b067_9 ?_
  refine jr_iand hX dJ1_charAt_3b067_12 ?_
  refine jr_i2c hX dJ1_charAt_3b067_13 ?_
  rw [hc1]
  exact jr_nret hX hc2 dJ1_charAt_3b067_14 rfl
theorem c_charAt {l : Launch} {s0 : State} {G : jd_G} (hF : jd_F s0 G) (σ : jd_Hp) (i k : Nat) (hi : i < 18) (hk : k < jd_sn.getD i 0) : jd_M l s0 G yJ0_charAt_5068e cJ0_charAt_5068e 2 (some .char) 3 je_i [jd_v G (some i), .int (nI k)] σ (some (jd_ch i k, σ)) := by
  refine jd_enter hF (by decide) (fun G => [some (jd_v G (some i)), some (.int (nI k))]) rfl (by simp [lv_args, jd_al, jd_v_cat, jd_cti]) (by simp [lg_sl, jd_v_cat, jd_cti]) (fun X hD hX => ?_)
  have hX : jd_C X "java/lang/String" "charAt" cJ0_charAt_5068e 2 (some .char) := hX
  obtain ⟨v, h1, h2, h3, h4⟩ := jd_str hX.F hi
  have hv := (va_OF.moved (jd_alike hX) h3).kept (jd_old hX)
  obtain ⟨hc1, hc2⟩ := jd_ch_ok i hi k hk
  rw [show jd_b (some (jd_ch i k, σ)) jd_K0 = jd_b (jd_b (some ((1 : Int32), σ)) (fun r σ1 => jd_if (r = 0) none (jd_b (some (jd_ch i k, σ1)) (fun r σ2 => jd_if (r = jd_ch i k) (some (r, σ2)) none)))) jd_K0 by simp [jd_b, jd_if]]
  refine jr_ald0 hX dJ0_charAt_5068e_0 ?_
  refine jd_cVs (As := []) (emb' := je_i) hX ts_l2 hi (c_isLatin1 hX.F σ i hi) (jd_dd hD rfl) (rest := []) (Nat.le_of_ble_eq_true rfl) dJ0_charAt_5068e_1 rfl (fun r σ1 p1 => ?_)
  refine jr_ifeq (pc := 4) hX 16 dJ0_charAt_5068e_4 (by decide) jr_none ?_
  refine jr_ald0 hX dJ0_charAt_5068e_7 ?_
  refine jr_sget hX hv ts_w1 dJ0_charAt_5068e_8 ?_
  refine jr_ild1 hX dJ0_charAt_5068e_11 ?_
  refine jr_cS2i hX ts_l3 (c_lcharAt hX.F σ1 i k v hi hk h4) (jd_dd hD rfl) (Nat.le_of_ble_eq_true rfl) dJ0_charAt_5068e_12 (fun r σ2 p2 => ?_)
  by_cases hr : r = jd_ch i k
  · subst hr
    exact jr_nret hX hc2 dJ0_charAt_5068e_15 (by simp [jd_b, jd_if, jd_K0])
  · rw [show jd_if (r = jd_ch i k) (some (r, σ2)) none = none from if_neg hr]
    exact jr_none
theorem jd_ln_ok : ∀ i, i < 18 → Int32.ofNat (jd_sn.getD i 0) >>> ((0 : Int32) &&& 31) = nI (jd_sn.getD i 0) := by decide +kernel
theorem c_length {l : Launch} {s0 : State} {G : jd_G} (hF : jd_F s0 G) (σ : jd_Hp) (i : Nat) (hi : i < 18) : jd_M l s0 G yJ0_length_8abf5 cJ0_length_8abf5 1 (some .int) 1 je_i [jd_v G (some i)] σ (some (nI (jd_sn.getD i 0), σ)) := by
  refine jd_enter hF (by decide) (fun G => [some (jd_v G (some i))]) rfl (by simp [lv_args, jd_al, jd_v_cat, jd_cti]) (by simp [lg_sl, jd_v_cat, jd_cti]) (fun X hD hX => ?_)
  have hX : jd_C X "java/lang/String" "length" cJ0_length_8abf5 1 (some .int) := hX
  obtain ⟨v, hO, hc, hv, hT⟩ := jd_strX hX hi
  rw [show jd_b (some (nI (jd_sn.getD i 0), σ)) jd_K0 = jd_b (jd_b (some ((0 : Int32), σ)) (fun r σ1 => some (Int32.ofNat (jd_sn.getD i 0) >>> (r &&& 31), σ1))) jd_K0 by rw [← jd_ln_ok i hi]; rfl]
  refine jr_ald0 hX dJ0_length_8abf5_0 ?_
  refine jr_sget hX hv ts_w1 dJ0_length_8abf5_1 ?_
  refine jr_tlen hX hT dJ0_length_8abf5_4 ?_
  refine jr_ald0 hX dJ0_length_8abf5_5 ?_
  refine jd_cVs (As := []) (emb' := je_i) hX ts_l1 hi (c_coder hX.F σ i hi) (jd_dd hD rfl) (rest := [.int (Int32.ofNat (jd_sn.getD i 0))]) (Nat.le_of_ble_eq_true rfl) dJ0_length_8abf5_6 rfl (fun r σ1 p1 => ?_)
  refine jr_ishr hX dJ0_length_8abf5_9 ?_
  exact jr_iret hX dJ0_length_8abf5_10 rfl
/-! what the walks use of Strings -/
def jd_sr (own : String) (idx i : Nat) : Prop := i < 18 ∧ (∃ tx, Cond.stringRef own idx tx ∈ lw_tbl) ∧ (Term.string own idx = jd_tm i ∨ Cond.eq (jd_tm i) (.string own idx) ∈ flatC (Jvm.Cond.and given_1 narrow_1))
theorem jd_sr_of (own : String) (idx i : Nat) (tx : String) (pl : Nat) (h1 : lw_tbl[pl]? = some (Cond.stringRef own idx tx)) (h2 : i < 18 ∧ (Term.string own idx = jd_tm i ∨ Cond.eq (jd_tm i) (.string own idx) ∈ flatC (Jvm.Cond.and given_1 narrow_1))) : jd_sr own idx i := ⟨h2.1, ⟨tx, List.mem_of_getElem? h1⟩, h2.2⟩
def jd_sl {α : Type} (_ : jd_Hp) (o : Option Nat) (A : Int32 → Option (α × jd_Hp)) : Option (α × jd_Hp) := match o with
  | some i => if i < 18 then A (nI (jd_sn.getD i 0)) else none
  | none => none
def jd_sc {α : Type} (_ : jd_Hp) (o : Option Nat) (x : Int32) (A : Int32 → Option (α × jd_Hp)) : Option (α × jd_Hp) := match o with
  | some i => if i < 18 ∧ ¬ x < 0 ∧ x.toNatClampNeg < jd_sn.getD i 0 then A (jd_ch i x.toNatClampNeg) else none
  | none => none
abbrev jd_sl_ok (own : String) (idx : Nat) : Prop := Cond.methodLink own idx yJ0_length_8abf5 ∈ jd_TB
abbrev jd_sc_ok (own : String) (idx : Nat) : Prop := Cond.methodLink own idx yJ0_charAt_5068e ∈ jd_TB
theorem ts_q1 : Cond.instanceMethod yJ0_length_8abf5 ∈ jd_TB ∧ Cond.selects "java/lang/String" yJ0_length_8abf5 yJ0_length_8abf5 ∈ jd_TB ∧ Cond.initialized "java/lang/String" ∈ jd_TB ∧ Cond.code yJ0_length_8abf5 cJ0_length_8abf5 1 (some .int) ∈ jd_TB ∧ jd_ds yJ0_length_8abf5 0 := ⟨jd_mem 577 (by decide +kernel) (by decide +kernel), jd_mem 578 (by decide +kernel) (by decide +kernel), jd_mem 106 (by decide +kernel) (by decide +kernel), jd_mem 579 (by decide +kernel) (by decide +kernel), ⟨by decide, by decide, by decide +kernel⟩⟩
theorem ts_q2 : Cond.instanceMethod yJ0_charAt_5068e ∈ jd_TB ∧ Cond.selects "java/lang/String" yJ0_charAt_5068e yJ0_charAt_5068e ∈ jd_TB ∧ Cond.initialized "java/lang/String" ∈ jd_TB ∧ Cond.code yJ0_charAt_5068e cJ0_charAt_5068e 2 (some .char) ∈ jd_TB ∧ jd_ds yJ0_charAt_5068e 1 := ⟨jd_mem 587 (by decide +kernel) (by decide +kernel), jd_mem 588 (by decide +kernel) (by decide +kernel), jd_mem 106 (by decide +kernel) (by decide +kernel), jd_mem 589 (by decide +kernel) (by decide +kernel), ⟨by decide, by decide, by decide +kernel⟩⟩
theorem jd_eqr {A0 : Array Value} {s : State} {t u : Term} {q : Nat} (h : (Cond.eq t u).before A0 s = true) (ht : t.eval A0 s none [] s = some (.ref q)) : u.eval A0 s none [] s = some (.ref q) := by
  cases hv : u.eval A0 s none [] s with
  | none => simp [Cond.before, Cond.holds, Cond.value, ht, hv] at h
  | some w =>
    simp only [Cond.before, Cond.holds, Cond.value, ht, hv] at h
    cases w <;> simp_all
section JD8b
variable {R τ : Type} {X : jd_X} {emb : R → Option Value} {own nm : String} {cc : ByteArray} {nL : Nat} {ret : Option FieldType} {pc : Nat} {lv : List (Option Value)} {st : List Value} {σ : jd_Hp} {cm : Option (R × jd_Hp)} {K : τ → jd_Hp → Option (R × jd_Hp)}
theorem jr_ldcS (hX : jd_C X own nm cc nL ret) {idx i : Nat} (hf : jd_sr own idx i) (hd : decode cc pc = .ok (.ldc idx, 2)) (k : jd_S X emb (pc + 2) lv (jd_v (jd_gG X) (some i) :: st) σ cm) : jd_S X emb pc lv st σ cm := by
  obtain ⟨p, l, e, s, m, args, below, meth, c, s0, G, d, mc, ms⟩ := X
  obtain ⟨hx, hb, -, hown, -, -, -, hW, -, -, hF⟩ := hX
  obtain ⟨⟨A0, h0, hn, ht⟩, -⟩ := hF
  obtain ⟨hi, ⟨tx, hw⟩, hor⟩ := hf
  have hev : (Term.string own idx).eval A0 s0 none [] s0 = some (.ref (G.2.2.1 i)) := by
    rcases hor with h | h
    · rw [h]; exact ht i hi
    · exact jd_eqr (flat_of_before _ hn _ h) (ht i hi)
  have hR : vk_R own idx tx (G.2.2.1 i) s := vk_R.warm hW (vk_R.of (h0 _ hw) hev)
  exact jd_pure (fun ls H locs cells slots Q _ w => va_ldcS hx hb hown hR hd w) k
theorem jr_slen (hX : jd_C X own nm cc nL ret) {idx : Nat} {o : Option Nat} {A : Int32 → Option (τ × jd_Hp)} (hw : jd_sl_ok own idx) (hdd : 5 + 1 ≤ jd_dp X) (hr : (st.map fun v => v.category).sum ≤ 8) (hd : decode cc pc = .ok (.invokevirtual idx, 3)) (k : ∀ n, jd_S X emb (pc + 3) lv (.int n :: st) σ (jd_b (A n) K)) : jd_S X emb pc lv (jd_v (jd_gG X) o :: st) σ (jd_b (jd_sl σ o A) K) := by
  cases o with
  | none => exact jr_none
  | some i =>
    by_cases hi : i < 18
    · rw [show jd_sl σ (some i) A = jd_b (some (nI (jd_sn.getD i 0), σ)) (fun n _ => A n) by simp [jd_sl, hi, jd_b]]
      refine jd_cVs' (As := []) (emb' := je_i) hX ⟨rfl, hw, ts_q1.1, ts_q1.2.1, ts_q1.2.2.1, ts_q1.2.2.2.1, ts_q1.2.2.2.2, by decide⟩ hi (c_length hX.F σ i hi) (by omega) hr hd rfl (fun r => k r)
    · simp only [jd_sl, hi, if_false]
      exact jr_none
theorem jr_schr (hX : jd_C X own nm cc nL ret) {idx : Nat} {o : Option Nat} {x : Int32} {A : Int32 → Option (τ × jd_Hp)} (hw : jd_sc_ok own idx) (hdd : 5 + 1 ≤ jd_dp X) (hr : (st.map fun v => v.category).sum ≤ 8) (hd : decode cc pc = .ok (.invokevirtual idx, 3)) (k : ∀ n, jd_S X emb (pc + 3) lv (.int n :: st) σ (jd_b (A n) K)) : jd_S X emb pc lv (.int x :: jd_v (jd_gG X) o :: st) σ (jd_b (jd_sc σ o x A) K) := by
  cases o with
  | none => exact jr_none
  | some i =>
    by_cases hi : i < 18 ∧ ¬ x < 0 ∧ x.toNatClampNeg < jd_sn.getD i 0
    · rw [show jd_sc σ (some i) x A = jd_b (some (jd_ch i x.toNatClampNeg, σ)) (fun n _ => A n) by simp only [jd_sc, jd_b]; exact if_pos hi]
      obtain ⟨j, hj, rfl⟩ := nI_of hi.2.1
      rw [nI_clamp hj] at hi ⊢
      refine jd_cVs' (As := [.int (nI j)]) (emb' := je_i) hX ⟨rfl, hw, ts_q2.1, ts_q2.2.1, ts_q2.2.2.1, ts_q2.2.2.2.1, ts_q2.2.2.2.2, by decide⟩ hi.1 (c_charAt hX.F σ i j hi.1 hi.2.2) (by omega) hr hd rfl (fun r => k r)
    · simp only [jd_sc]
      rw [if_neg hi]
      exact jr_none
end JD8b

