theorem nX13_154 : jd_cr RX13 154 12 20 := ⟨_, _, rfl, by decide, jd_mem 1392 (by decide +kernel) (by decide +kernel), jd_mem 1393 (by decide +kernel) (by decide +kernel), jd_mem 111 (by decide +kernel) (by decide +kernel)⟩
theorem qX12_init : Cond.instanceMethod yX12_init ∈ jd_TB ∧ Cond.initialized yX12_init.cls ∈ jd_TB ∧ Cond.code yX12_init cX12_init 1 none ∈ jd_TB ∧ jd_ds yX12_init 0 := ⟨jd_mem 1395 (by decide +kernel) (by decide +kernel), jd_mem 111 (by decide +kernel) (by decide +kernel), jd_mem 1396 (by decide +kernel) (by decide +kernel), ⟨by decide, by decide, by decide +kernel⟩⟩
theorem lX13_285 : jd_sp RX13 285 yX12_init cX12_init 1 0 := ⟨Or.inr ⟨"ShoreGuardsModel", List.mem_of_getElem? (i := 1394) (by decide +kernel)⟩, qX12_init.1, qX12_init.2.1, qX12_init.2.2.1, qX12_init.2.2.2, by decide, rfl⟩
theorem qX13_readAll : Cond.instanceMethod yX13_readAll ∈ jd_TB ∧ Cond.selects RX13 yX13_readAll yX13_readAll ∈ jd_TB ∧ Cond.initialized RX13 ∈ jd_TB ∧ Cond.code yX13_readAll cX13_readAll 2 none ∈ jd_TB ∧ jd_ds yX13_readAll 0 := ⟨jd_mem 1488 (by decide +kernel) (by decide +kernel), jd_mem 37 (by decide +kernel) (by decide +kernel), jd_mem 104 (by decide +kernel) (by decide +kernel), jd_mem 1489 (by decide +kernel) (by decide +kernel), ⟨by decide, by decide, by decide +kernel⟩⟩
theorem lX13_286 : jd_mv RX13 286 13 29 yX13_readAll cX13_readAll 2 none 0 := ⟨_, _, rfl, by decide, rfl, Or.inl (jd_mem 1486 (by decide +kernel) (by decide +kernel)), qX13_readAll.1, qX13_readAll.2.1, qX13_readAll.2.2.1, qX13_readAll.2.2.2.1, qX13_readAll.2.2.2.2, by decide⟩
theorem dX13_beach_0 : decode cX13_beach 0 = .ok (.aload_n 0, 1) := by decide +kernel
theorem dX13_beach_1 : decode cX13_beach 1 = .ok (.iconst 0, 1) := by decide +kernel
theorem dX13_beach_2 : decode cX13_beach 2 = .ok (.putfield 48, 3) := by decide +kernel
theorem dX13_beach_5 : decode cX13_beach 5 = .ok (.iload_n 1, 1) := by decide +kernel
theorem dX13_beach_6 : decode cX13_beach 6 = .ok (.ifCond .lt 11, 3) := by decide +kernel
theorem dX13_beach_9 : decode cX13_beach 9 = .ok (.iload_n 1, 1) := by decide +kernel
theorem dX13_beach_10 : decode cX13_beach 10 = .ok (.aload_n 0, 1) := by decide +kernel
theorem dX13_beach_11 : decode cX13_beach 11 = .ok (.getfield 282, 3) := by decide +kernel
theorem dX13_beach_14 : decode cX13_beach 14 = .ok (.if_icmp .le 9, 3) := by decide +kernel
theorem dX13_beach_17 : decode cX13_beach 17 = .ok (.aload_n 0, 1) := by decide +kernel
theorem dX13_beach_18 : decode cX13_beach 18 = .ok (.iconst 2, 1) := by decide +kernel
theorem dX13_beach_19 : decode cX13_beach 19 = .ok (.invokevirtual 54, 3) := by decide +kernel
theorem dX13_beach_22 : decode cX13_beach 22 = .ok (.ireturn, 1) := by decide +kernel
theorem dX13_beach_23 : decode cX13_beach 23 = .ok (.aload_n 0, 1) := by decide +kernel
theorem dX13_beach_24 : decode cX13_beach 24 = .ok (.iload_n 1, 1) := by decide +kernel
theorem dX13_beach_25 : decode cX13_beach 25 = .ok (.putfield 65, 3) := by decide +kernel
theorem dX13_beach_28 : decode cX13_beach 28 = .ok (.aload_n 0, 1) := by decide +kernel
theorem dX13_beach_29 : decode cX13_beach 29 = .ok (.iconst 0, 1) := by decide +kernel
theorem dX13_beach_30 : decode cX13_beach 30 = .ok (.putfield 282, 3) := by decide +kernel
theorem dX13_beach_33 : decode cX13_beach 33 = .ok (.aload_n 0, 1) := by decide +kernel
theorem dX13_beach_34 : decode cX13_beach 34 = .ok (.iconst 0, 1) := by decide +kernel
theorem dX13_beach_35 : decode cX13_beach 35 = .ok (.putfield 83, 3) := by decide +kernel
theorem dX13_beach_38 : decode cX13_beach 38 = .ok (.aload_n 0, 1) := by decide +kernel
theorem dX13_beach_39 : decode cX13_beach 39 = .ok (.iconst 0, 1) := by decide +kernel
theorem dX13_beach_40 : decode cX13_beach 40 = .ok (.putfield 106, 3) := by decide +kernel
theorem dX13_beach_43 : decode cX13_beach 43 = .ok (.aload_n 0, 1) := by decide +kernel
theorem dX13_beach_44 : decode cX13_beach 44 = .ok (.new 154, 3) := by decide +kernel
theorem dX13_beach_47 : decode cX13_beach 47 = .ok (.dup, 1) := by decide +kernel
theorem dX13_beach_48 : decode cX13_beach 48 = .ok (.invokespecial 285, 3) := by decide +kernel
theorem dX13_beach_51 : decode cX13_beach 51 = .ok (.putfield 149, 3) := by decide +kernel
theorem dX13_beach_54 : decode cX13_beach 54 = .ok (.aload_n 0, 1) := by decide +kernel
theorem dX13_beach_55 : decode cX13_beach 55 = .ok (.iconst 0, 1) := by decide +kernel
theorem dX13_beach_56 : decode cX13_beach 56 = .ok (.putfield 80, 3) := by decide +kernel
theorem dX13_beach_59 : decode cX13_beach 59 = .ok (.aload_n 0, 1) := by decide +kernel
theorem dX13_beach_60 : decode cX13_beach 60 = .ok (.invokevirtual 116, 3) := by decide +kernel
theorem dX13_beach_63 : decode cX13_beach 63 = .ok (.aload_n 0, 1) := by decide +kernel
theorem dX13_beach_64 : decode cX13_beach 64 = .ok (.invokevirtual 286, 3) := by decide +kernel
theorem dX13_beach_67 : decode cX13_beach 67 = .ok (.aload_n 0, 1) := by decide +kernel
theorem dX13_beach_68 : decode cX13_beach 68 = .ok (.getfield 106, 3) := by decide +kernel
theorem dX13_beach_71 : decode cX13_beach 71 = .ok (.ifCond .le 18, 3) := by decide +kernel
theorem dX13_beach_74 : decode cX13_beach 74 = .ok (.aload_n 0, 1) := by decide +kernel
theorem dX13_beach_75 : decode cX13_beach 75 = .ok (.iconst 4, 1) := by decide +kernel
theorem dX13_beach_76 : decode cX13_beach 76 = .ok (.putfield 51, 3) := by decide +kernel
theorem dX13_beach_79 : decode cX13_beach 79 = .ok (.aload_n 0, 1) := by decide +kernel
theorem dX13_beach_80 : decode cX13_beach 80 = .ok (.aload_n 0, 1) := by decide +kernel
theorem dX13_beach_81 : decode cX13_beach 81 = .ok (.getfield 109, 3) := by decide +kernel
theorem dX13_beach_84 : decode cX13_beach 84 = .ok (.putfield 9, 3) := by decide +kernel
theorem dX13_beach_87 : decode cX13_beach 87 = .ok (.iconst (-1), 1) := by decide +kernel
theorem dX13_beach_88 : decode cX13_beach 88 = .ok (.ireturn, 1) := by decide +kernel
theorem dX13_beach_89 : decode cX13_beach 89 = .ok (.aload_n 0, 1) := by decide +kernel
theorem dX13_beach_90 : decode cX13_beach 90 = .ok (.aload_n 0, 1) := by decide +kernel
theorem dX13_beach_91 : decode cX13_beach 91 = .ok (.getfield 149, 3) := by decide +kernel
theorem dX13_beach_94 : decode cX13_beach 94 = .ok (.putfield 289, 3) := by decide +kernel
theorem dX13_beach_97 : decode cX13_beach 97 = .ok (.iconst 0, 1) := by decide +kernel
theorem dX13_beach_98 : decode cX13_beach 98 = .ok (.istore_n 2, 1) := by decide +kernel
theorem dX13_beach_99 : decode cX13_beach 99 = .ok (.iload_n 2, 1) := by decide +kernel
theorem dX13_beach_100 : decode cX13_beach 100 = .ok (.bipush 6, 2) := by decide +kernel
theorem dX13_beach_102 : decode cX13_beach 102 = .ok (.if_icmp .ge 24, 3) := by decide +kernel
theorem dX13_beach_105 : decode cX13_beach 105 = .ok (.aload_n 0, 1) := by decide +kernel
theorem dX13_beach_106 : decode cX13_beach 106 = .ok (.getfield 17, 3) := by decide +kernel
theorem dX13_beach_109 : decode cX13_beach 109 = .ok (.iload_n 2, 1) := by decide +kernel
theorem dX13_beach_110 : decode cX13_beach 110 = .ok (.aload_n 0, 1) := by decide +kernel
theorem dX13_beach_111 : decode cX13_beach 111 = .ok (.getfield 289, 3) := by decide +kernel
theorem dX13_beach_114 : decode cX13_beach 114 = .ok (.getfield 247, 3) := by decide +kernel
theorem dX13_beach_117 : decode cX13_beach 117 = .ok (.iload_n 2, 1) := by decide +kernel
theorem dX13_beach_118 : decode cX13_beach 118 = .ok (.iaload, 1) := by decide +kernel
theorem dX13_beach_119 : decode cX13_beach 119 = .ok (.iastore, 1) := by decide +kernel
theorem dX13_beach_120 : decode cX13_beach 120 = .ok (.iinc 2 1, 3) := by decide +kernel
theorem dX13_beach_123 : decode cX13_beach 123 = .ok (.goto (-24), 3) := by decide +kernel
theorem dX13_beach_126 : decode cX13_beach 126 = .ok (.aload_n 0, 1) := by decide +kernel
theorem dX13_beach_127 : decode cX13_beach 127 = .ok (.getfield 17, 3) := by decide +kernel
theorem dX13_beach_130 : decode cX13_beach 130 = .ok (.bipush 6, 2) := by decide +kernel
theorem dX13_beach_132 : decode cX13_beach 132 = .ok (.aload_n 0, 1) := by decide +kernel
theorem dX13_beach_133 : decode cX13_beach 133 = .ok (.getfield 289, 3) := by decide +kernel
theorem dX13_beach_136 : decode cX13_beach 136 = .ok (.getfield 265, 3) := by decide +kernel
theorem dX13_beach_139 : decode cX13_beach 139 = .ok (.iastore, 1) := by decide +kernel
theorem dX13_beach_140 : decode cX13_beach 140 = .ok (.aload_n 0, 1) := by decide +kernel
theorem dX13_beach_141 : decode cX13_beach 141 = .ok (.getfield 17, 3) := by decide +kernel
theorem dX13_beach_144 : decode cX13_beach 144 = .ok (.bipush 7, 2) := by decide +kernel
theorem dX13_beach_146 : decode cX13_beach 146 = .ok (.iconst 0, 1) := by decide +kernel
theorem dX13_beach_147 : decode cX13_beach 147 = .ok (.iastore, 1) := by decide +kernel
theorem dX13_beach_148 : decode cX13_beach 148 = .ok (.aload_n 0, 1) := by decide +kernel
theorem dX13_beach_149 : decode cX13_beach 149 = .ok (.getfield 17, 3) := by decide +kernel
theorem dX13_beach_152 : decode cX13_beach 152 = .ok (.bipush 8, 2) := by decide +kernel
theorem dX13_beach_154 : decode cX13_beach 154 = .ok (.iconst 0, 1) := by decide +kernel
theorem dX13_beach_155 : decode cX13_beach 155 = .ok (.iastore, 1) := by decide +kernel
theorem dX13_beach_156 : decode cX13_beach 156 = .ok (.aload_n 0, 1) := by decide +kernel
theorem dX13_beach_157 : decode cX13_beach 157 = .ok (.iconst 0, 1) := by decide +kernel
theorem dX13_beach_158 : decode cX13_beach 158 = .ok (.putfield 291, 3) := by decide +kernel
theorem dX13_beach_161 : decode cX13_beach 161 = .ok (.aload_n 0, 1) := by decide +kernel
theorem dX13_beach_162 : decode cX13_beach 162 = .ok (.iconst 0, 1) := by decide +kernel
theorem dX13_beach_163 : decode cX13_beach 163 = .ok (.putfield 294, 3) := by decide +kernel
theorem dX13_beach_166 : decode cX13_beach 166 = .ok (.aload_n 0, 1) := by decide +kernel
theorem dX13_beach_167 : decode cX13_beach 167 = .ok (.aload_n 0, 1) := by decide +kernel
theorem dX13_beach_168 : decode cX13_beach 168 = .ok (.getfield 289, 3) := by decide +kernel
theorem dX13_beach_171 : decode cX13_beach 171 = .ok (.getfield 185, 3) := by decide +kernel
theorem dX13_beach_174 : decode cX13_beach 174 = .ok (.invokevirtual 58, 3) := by decide +kernel
theorem dX13_beach_177 : decode cX13_beach 177 = .ok (.ireturn, 1) := by decide +kernel
def m_X13_beach (t : Nat) (x0p : Int32) (σ : jd_Hp) : Option (Int32 × jd_Hp) :=
jd_li (jd_pi σ t 0 0) fun τ1 =>
jd_if (x0p < 0) (
jd_b (m_X13_refused t 2 τ1) fun r2 σ2 =>
some (r2, σ2)) (
jd_if (x0p ≤ (τ1.2.1 t 6)) (
jd_li (jd_pi τ1 t 7 x0p) fun τ3 =>
jd_li (jd_pi τ3 t 6 0) fun τ4 =>
jd_li (jd_pi τ4 t 8 0) fun τ5 =>
jd_li (jd_pi τ5 t 12 0) fun τ6 =>
jd_li (jd_new τ6 (12, 20)) fun τ7 =>
jd_b (m_X12_init τ6.1.length τ7) fun r8 σ8 =>
jd_li (jd_pr σ8 t 4 (some τ6.1.length)) fun τ9 =>
jd_li (jd_pi τ9 t 9 0) fun τ10 =>
jd_b (m_X13_goesOn t τ10) fun r11 σ11 =>
jd_b (m_X13_readAll t σ11) fun r12 σ12 =>
jd_if ((σ12.2.1 t 12) ≤ 0) (
jd_li (jd_pr σ12 t 3 (σ12.2.2.2 t 4)) fun τ13 =>
jd_b (jd_lp (S := Int32) (T := Unit) (fun s14 σ14 =>
jd_if (6 ≤ s14) (
some ((Sum.inr ()), σ14)) (
jd_o σ14 (13, 29) (some t) fun a16 =>
jd_o σ14 (12, 20) (σ14.2.2.2 a16 3) fun a17 =>
jd_ia σ14 20 (σ14.2.2.2 a17 10) s14 fun a18 j18 =>
jd_ia σ14 20 (σ14.2.2.2 a16 15) s14 fun a19 j19 =>
jd_li (jd_pi σ14 a19 j19 (σ14.2.1 a18 j18)) fun τ20 =>
some (Sum.inl (s14 + 1), τ20))) jd_fu 0 τ13) fun t15 σ15 =>
jd_o σ15 (13, 29) (some t) fun a21 =>
jd_o σ15 (12, 20) (σ15.2.2.2 a21 3) fun a22 =>
jd_ia σ15 20 (σ15.2.2.2 a21 15) 6 fun a23 j23 =>
jd_li (jd_pi σ15 a23 j23 (σ15.2.1 a22 5)) fun τ24 =>
jd_ia τ24 20 (τ24.2.2.2 a21 15) 7 fun a25 j25 =>
jd_li (jd_pi τ24 a25 j25 0) fun τ26 =>
jd_ia τ26 20 (τ26.2.2.2 a21 15) 8 fun a27 j27 =>
jd_li (jd_pi τ26 a27 j27 0) fun τ28 =>
jd_li (jd_pi τ28 a21 19 0) fun τ29 =>
jd_li (jd_pi τ29 a21 20 0) fun τ30 =>
jd_o τ30 (12, 20) (τ30.2.2.2 a21 3) fun a31 =>
jd_b (m_X13_good a21 (τ30.2.1 a31 3) τ30) fun r32 σ32 =>
some (r32, σ32)) (
jd_li (jd_pi σ12 t 1 4) fun τ33 =>
jd_li (jd_pi τ33 t 2 (τ33.2.1 t 13)) fun τ34 =>
some ((-1), τ34))) (
jd_b (m_X13_refused t 2 τ1) fun r35 σ35 =>
some (r35, σ35)))
set_option maxHeartbeats 4000000 in
set_option maxRecDepth 20000 in
theorem c_X13_beach {l : Launch} {s0 : State} {G : jd_G} (hF : jd_F s0 G) (σ : jd_Hp) (t : Nat) (ht : σ.1[t]? = some (13, 29)) (x0p : Int32) : jd_M l s0 G yX13_beach cX13_beach 3 (some .int) 14 je_i [jd_v G (some t), .int x0p] σ (m_X13_beach t x0p σ) := by
  refine jd_enter hF (by decide) (fun G => [some (jd_v G (some t)), some (.int x0p), none]) rfl (by simp [lv_args, jd_al, jd_v_cat, jd_cti, jd_ctl]) (by simp [lg_sl, jd_v_cat, jd_cti, jd_ctl]) (fun X hD hX => ?_)
  have hX : jd_C X RX13 "beach" cX13_beach 3 (some .int) := hX
  unfold m_X13_beach
  refine jr_ald0 (pc := 0) hX dX13_beach_0 ?_
  refine jr_iconst (pc := 1) hX 0 rfl dX13_beach_1 ?_
  refine jr_puti (pc := 2) hX fX13_48 rfl dX13_beach_2 ht ?_
  refine jr_li ?_
  refine jr_ild1 (pc := 5) hX dX13_beach_5 ?_
  refine jr_iflt (pc := 6) hX 17 dX13_beach_6 (by decide) ?_ ?_
  · refine jr_ald0 (pc := 17) hX dX13_beach_17 ?_
    refine jr_iconst (pc := 18) hX 2 rfl dX13_beach_18 ?_
    refine jr_cV1i (pc := 19) hX lX13_54 (c_X13_refused hX.F (jd_pi σ t 0 0) t ht _) (jd_dd hD rfl) (Nat.le_of_ble_eq_true rfl) dX13_beach_19 ht (fun r2 σ2 p2 => ?_)
    exact jr_iret (pc := 22) hX dX13_beach_22 rfl
  · refine jr_ild1 (pc := 9) hX dX13_beach_9 ?_
    refine jr_ald0 (pc := 10) hX dX13_beach_10 ?_
    refine jr_geti (pc := 11) hX fX13_282 rfl dX13_beach_11 ht ?_
    refine jr_icle (pc := 14) hX 23 dX13_beach_14 (by decide) ?_ ?_
    · refine jr_ald0 (pc := 23) hX dX13_beach_23 ?_
      refine jr_ild1 (pc := 24) hX dX13_beach_24 ?_
      refine jr_puti (pc := 25) hX fX13_65 rfl dX13_beach_25 ht ?_
      refine jr_li ?_
      refine jr_ald0 (pc := 28) hX dX13_beach_28 ?_
      refine jr_iconst (pc := 29) hX 0 rfl dX13_beach_29 ?_
      refine jr_puti (pc := 30) hX fX13_282 rfl dX13_beach_30 ht ?_
      refine jr_li ?_
      refine jr_ald0 (pc := 33) hX dX13_beach_33 ?_
      refine jr_iconst (pc := 34) hX 0 rfl dX13_beach_34 ?_
      refine jr_puti (pc := 35) hX fX13_83 rfl dX13_beach_35 ht ?_
      refine jr_li ?_
      refine jr_ald0 (pc := 38) hX dX13_beach_38 ?_
      refine jr_iconst (pc := 39) hX 0 rfl dX13_beach_39 ?_
      refine jr_puti (pc := 40) hX fX13_106 rfl dX13_beach_40 ht ?_
      refine jr_li ?_
      refine jr_ald0 (pc := 43) hX dX13_beach_43 ?_
      refine jr_new (pc := 44) hX nX13_154 dX13_beach_44 ?_
      refine jr_li ?_
      refine jr_dup (pc := 47) hX (jd_v_cat _ _) dX13_beach_47 ?_
      refine jr_cI0 (pc := 48) hX lX13_285 (c_X12_init hX.F (jd_new (jd_pi (jd_pi (jd_pi (jd_pi (jd_pi σ t 0 0) t 7 x0p) t 6 0) t 8 0) t 12 0) (12, 20)) (jd_pi (jd_pi (jd_pi (jd_pi (jd_pi σ t 0 0) t 7 x0p) t 6 0) t 8 0) t 12 0).1.length (jd_nw (σ := (jd_pi (jd_pi (jd_pi (jd_pi (jd_pi σ t 0 0) t 7 x0p) t 6 0) t 8 0) t 12 0)) (x := (12, 20)) :)) (jd_dd hD rfl) (by simp [jd_v_cat, jd_cti, jd_ctl]) dX13_beach_48 (fun r8 σ8 p8 => ?_)
      refine jr_putr (pc := 51) hX fX13_149 rfl dX13_beach_51 (p8.at ((jd_p.new (jd_pi (jd_pi (jd_pi (jd_pi (jd_pi σ t 0 0) t 7 x0p) t 6 0) t 8 0) t 12 0) (12, 20)).at ht :) :) ?_
      refine jr_li ?_
      refine jr_ald0 (pc := 54) hX dX13_beach_54 ?_
      refine jr_iconst (pc := 55) hX 0 rfl dX13_beach_55 ?_
      refine jr_puti (pc := 56) hX fX13_80 rfl dX13_beach_56 (p8.at ((jd_p.new (jd_pi (jd_pi (jd_pi (jd_pi (jd_pi σ t 0 0) t 7 x0p) t 6 0) t 8 0) t 12 0) (12, 20)).at ht :) :) ?_
      refine jr_li ?_
      refine jr_ald0 (pc := 59) hX dX13_beach_59 ?_
      refine jr_cV0v (pc := 60) hX lX13_116 (c_X13_goesOn hX.F (jd_pi (jd_pr σ8 t 4 (some (jd_pi (jd_pi (jd_pi (jd_pi (jd_pi σ t 0 0) t 7 x0p) t 6 0) t 8 0) t 12 0).1.length)) t 9 0) t (p8.at ((jd_p.new (jd_pi (jd_pi (jd_pi (jd_pi (jd_pi σ t 0 0) t 7 x0p) t 6 0) t 8 0) t 12 0) (12, 20)).at ht :) :)) (jd_dd hD rfl) (Nat.le_of_ble_eq_true rfl) dX13_beach_60 (p8.at ((jd_p.new (jd_pi (jd_pi (jd_pi (jd_pi (jd_pi σ t 0 0) t 7 x0p) t 6 0) t 8 0) t 12 0) (12, 20)).at ht :) :) (fun r11 σ11 p11 => ?_)
      refine jr_ald0 (pc := 63) hX dX13_beach_63 ?_
      refine jr_cV0v (pc := 64) hX lX13_286 (c_X13_readAll hX.F σ11 t (p11.at (p8.at ((jd_p.new (jd_pi (jd_pi (jd_pi (jd_pi (jd_pi σ t 0 0) t 7 x0p) t 6 0) t 8 0) t 12 0) (12, 20)).at ht :) :) :)) (jd_dd hD rfl) (Nat.le_of_ble_eq_true rfl) dX13_beach_64 (p11.at (p8.at ((jd_p.new (jd_pi (jd_pi (jd_pi (jd_pi (jd_pi σ t 0 0) t 7 x0p) t 6 0) t 8 0) t 12 0) (12, 20)).at ht :) :) :) (fun r12 σ12 p12 => ?_)
      refine jr_ald0 (pc := 67) hX dX13_beach_67 ?_
      refine jr_geti (pc := 68) hX fX13_106 rfl dX13_beach_68 (p12.at (p11.at (p8.at ((jd_p.new (jd_pi (jd_pi (jd_pi (jd_pi (jd_pi σ t 0 0) t 7 x0p) t 6 0) t 8 0) t 12 0) (12, 20)).at ht :) :) :) :) ?_
      refine jr_ifle (pc := 71) hX 89 dX13_beach_71 (by decide) ?_ ?_
      · refine jr_ald0 (pc := 89) hX dX13_beach_89 ?_
        refine jr_ald0 (pc := 90) hX dX13_beach_90 ?_
        refine jr_getr (pc := 91) hX fX13_149 rfl dX13_beach_91 (p12.at (p11.at (p8.at ((jd_p.new (jd_pi (jd_pi (jd_pi (jd_pi (jd_pi σ t 0 0) t 7 x0p) t 6 0) t 8 0) t 12 0) (12, 20)).at ht :) :) :) :) ?_
        refine jr_putr (pc := 94) hX fX13_289 rfl dX13_beach_94 (p12.at (p11.at (p8.at ((jd_p.new (jd_pi (jd_pi (jd_pi (jd_pi (jd_pi σ t 0 0) t 7 x0p) t 6 0) t 8 0) t 12 0) (12, 20)).at ht :) :) :) :) ?_
        refine jr_li ?_
        refine jr_iconst (pc := 97) hX 0 rfl dX13_beach_97 ?_
        refine jr_ist2 (pc := 98) hX (jn_i _) dX13_beach_98 ?_
        refine jr_wk [true, false, true] ?_
        refine jr_loop (pc := 99) (fun (s14 : Int32) => [some (jd_v (jd_gG X) (some t)), none, some (.int s14)]) (fun (t15 : Unit) => [some (jd_v (jd_gG X) (some t)), none, none]) 126 0 (fun t15 σ15 => ?_) (fun K14 bk14 ex14 s14 σ14 => ?_)
        · refine jr_ald0 (pc := 126) hX dX13_beach_126 ?_
          refine jr_ck0 (fun a21 e21 h21 => ?_)
          refine jr_getr (pc := 127) hX fX13_17 rfl dX13_beach_127 h21 ?_
          refine jr_bipush (pc := 130) hX 6 rfl dX13_beach_130 ?_
          refine jr_ald0 (pc := 132) hX dX13_beach_132 ?_
          refine jr_ek0 e21 ?_
          refine jr_getr (pc := 133) hX fX13_289 rfl dX13_beach_133 h21 ?_
          refine jr_ck0 (fun a22 e22 h22 => ?_)
          refine jr_getiN (pc := 136) hX fX13_265 rfl dX13_beach_136 h22 ?_
          refine jr_iaS (pc := 139) hX dX13_beach_139 (fun a23 n23 e23 h23 => ?_)
          refine jr_li ?_
          refine jr_ald0 (pc := 140) hX dX13_beach_140 ?_
          refine jr_ek0 e21 ?_
          refine jr_getr (pc := 141) hX fX13_17 rfl dX13_beach_141 h21 ?_
          refine jr_bipush (pc := 144) hX 7 rfl dX13_beach_144 ?_
          refine jr_iconst (pc := 146) hX 0 rfl dX13_beach_146 ?_
          refine jr_iaS (pc := 147) hX dX13_beach_147 (fun a25 n25 e25 h25 => ?_)
          refine jr_li ?_
          refine jr_ald0 (pc := 148) hX dX13_beach_148 ?_
          refine jr_ek0 e21 ?_
          refine jr_getr (pc := 149) hX fX13_17 rfl dX13_beach_149 h21 ?_
          refine jr_bipush (pc := 152) hX 8 rfl dX13_beach_152 ?_
          refine jr_iconst (pc := 154) hX 0 rfl dX13_beach_154 ?_
          refine jr_iaS (pc := 155) hX dX13_beach_155 (fun a27 n27 e27 h27 => ?_)
          refine jr_li ?_
          refine jr_ald0 (pc := 156) hX dX13_beach_156 ?_
          refine jr_iconst (pc := 157) hX 0 rfl dX13_beach_157 ?_
          refine jr_ek1 e21 ?_
          refine jr_puti (pc := 158) hX fX13_291 rfl dX13_beach_158 h21 ?_
          refine jr_li ?_
          refine jr_ald0 (pc := 161) hX dX13_beach_161 ?_
          refine jr_iconst (pc := 162) hX 0 rfl dX13_beach_162 ?_
          refine jr_ek1 e21 ?_
          refine jr_puti (pc := 163) hX fX13_294 rfl dX13_beach_163 h21 ?_
          refine jr_li ?_
          refine jr_ald0 (pc := 166) hX dX13_beach_166 ?_
          refine jr_ald0 (pc := 167) hX dX13_beach_167 ?_
          refine jr_ek0 e21 ?_
          refine jr_getr (pc := 168) hX fX13_289 rfl dX13_beach_168 h21 ?_
          refine jr_ck0 (fun a31 e31 h31 => ?_)
          refine jr_getiN (pc := 171) hX fX13_185 rfl dX13_beach_171 h31 ?_
          refine jr_ek1 e21 ?_
          refine jr_cV1i (pc := 174) hX lX13_58 (c_X13_good hX.F (jd_pi (jd_pi (jd_pi (jd_pi (jd_pi σ15 a23 ((6 : Int32).toNatClampNeg) (σ15.2.1 a22 5)) a25 ((7 : Int32).toNatClampNeg) 0) a27 ((8 : Int32).toNatClampNeg) 0) a21 19 0) a21 20 0) a21 h21 _) (jd_dd hD rfl) (Nat.le_of_ble_eq_true rfl) dX13_beach_174 h21 (fun r32 σ32 p32 => ?_)
          exact jr_iret (pc := 177) hX dX13_beach_177 rfl
        · refine jr_ild2 (pc := 99) hX dX13_beach_99 ?_
          refine jr_bipush (pc := 100) hX 6 rfl dX13_beach_100 ?_
          refine jr_icge (pc := 102) hX 126 dX13_beach_102 (by decide) ?_ ?_
          · refine jr_wk [true, true, false] ?_
            exact ex14 () _
          · refine jr_ald0 (pc := 105) hX dX13_beach_105 ?_
            refine jr_ck0 (fun a16 e16 h16 => ?_)
            refine jr_getr (pc := 106) hX fX13_17 rfl dX13_beach_106 h16 ?_
            refine jr_ild2 (pc := 109) hX dX13_beach_109 ?_
            refine jr_ald0 (pc := 110) hX dX13_beach_110 ?_
            refine jr_ek0 e16 ?_
            refine jr_getr (pc := 111) hX fX13_289 rfl dX13_beach_111 h16 ?_
            refine jr_ck0 (fun a17 e17 h17 => ?_)
            refine jr_getrN (pc := 114) hX fX13_247 rfl dX13_beach_114 h17 ?_
            refine jr_ild2 (pc := 117) hX dX13_beach_117 ?_
            refine jr_iaC (pc := 118) hX dX13_beach_118 (fun a18 n18 e18 h18 => ?_)
            refine jr_iaS (pc := 119) hX dX13_beach_119 (fun a19 n19 e19 h19 => ?_)
            refine jr_li ?_
            refine jr_inc2 (pc := 120) hX 1 rfl jn_n dX13_beach_120 ?_
            refine jr_goto (pc := 123) hX 99 dX13_beach_123 (by decide) ?_
            exact bk14 (s14 + 1) _
      · refine jr_ald0 (pc := 74) hX dX13_beach_74 ?_
        refine jr_iconst (pc := 75) hX 4 rfl dX13_beach_75 ?_
        refine jr_puti (pc := 76) hX fX13_51 rfl dX13_beach_76 (p12.at (p11.at (p8.at ((jd_p.new (jd_pi (jd_pi (jd_pi (jd_pi (jd_pi σ t 0 0) t 7 x0p) t 6 0) t 8 0) t 12 0) (12, 20)).at ht :) :) :) :) ?_
        refine jr_li ?_
        refine jr_ald0 (pc := 79) hX dX13_beach_79 ?_
        refine jr_ald0 (pc := 80) hX dX13_beach_80 ?_
        refine jr_geti (pc := 81) hX fX13_109 rfl dX13_beach_81 (p12.at (p11.at (p8.at ((jd_p.new (jd_pi (jd_pi (jd_pi (jd_pi (jd_pi σ t 0 0) t 7 x0p) t 6 0) t 8 0) t 12 0) (12, 20)).at ht :) :) :) :) ?_
        refine jr_puti (pc := 84) hX fX13_9 rfl dX13_beach_84 (p12.at (p11.at (p8.at ((jd_p.new (jd_pi (jd_pi (jd_pi (jd_pi (jd_pi σ t 0 0) t 7 x0p) t 6 0) t 8 0) t 12 0) (12, 20)).at ht :) :) :) :) ?_
        refine jr_li ?_
        refine jr_iconst (pc := 87) hX (-1) rfl dX13_beach_87 ?_
        exact jr_iret (pc := 88) hX dX13_beach_88 rfl
    · refine jr_ald0 (pc := 17) hX dX13_beach_17 ?_
      refine jr_iconst (pc := 18) hX 2 rfl dX13_beach_18 ?_
      refine jr_cV1i (pc := 19) hX lX13_54 (c_X13_refused hX.F (jd_pi σ t 0 0) t ht _) (jd_dd hD rfl) (Nat.le_of_ble_eq_true rfl) dX13_beach_19 ht (fun r35 σ35 p35 => ?_)
      exact jr_iret (pc := 22) hX dX13_beach_22 rfl
