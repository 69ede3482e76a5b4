def m_law (L : Nat) (xs : Nat → Int32) (σ : jd_Hp) : Option (Int32 × jd_Hp) :=
jd_li (jd_new σ (11, 12)) fun τ1 =>
jd_b (m_X11_init σ.1.length τ1) fun r2 σ2 =>
jd_li (jd_new σ2 (13, 29)) fun τ3 =>
jd_b (m_X13_init σ2.1.length τ3) fun r4 σ4 =>
jd_li (jd_new σ4 (23, 1)) fun τ5 =>
jd_b (jd_lp (S := Int32) (T := (Unit) ⊕ Int32) (fun s6 σ6 =>
jd_if (((Int32.ofNat L) - 6) < s6) (
some ((Sum.inr (Sum.inl ())), σ6)) (
jd_sx L s6 fun j8 =>
jd_sw ((xs j8) &&& 63) 0 [
jd_sx L (s6 + 1) fun j9 =>
jd_sx L (s6 + 2) fun j10 =>
jd_sx L (s6 + 3) fun j11 =>
jd_sx L (s6 + 4) fun j12 =>
jd_sx L (s6 + 5) fun j13 =>
jd_o σ6 (11, 12) (some σ.1.length) fun a14 =>
jd_b (m_X11_feed a14 (xs j9) (xs j10) (xs j11) (xs j12) (xs j13) σ6) fun r15 σ15 =>
jd_sx L (s6 + 1) fun j16 =>
jd_sx L (s6 + 2) fun j17 =>
jd_sx L (s6 + 3) fun j18 =>
jd_sx L (s6 + 4) fun j19 =>
jd_sx L (s6 + 5) fun j20 =>
jd_o σ15 (13, 29) (some σ2.1.length) fun a21 =>
jd_b (m_X13_feed a21 (xs j16) (xs j17) (xs j18) (xs j19) (xs j20) σ15) fun r22 σ22 =>
jd_if (r15 = r22) (
some (Sum.inl (s6 + 6), σ22)) (
some (Sum.inr (Sum.inr 0), σ22)),
jd_sx L (s6 + 1) fun j23 =>
jd_o σ6 (11, 12) (some σ.1.length) fun a24 =>
jd_b (m_X11_beach a24 (xs j23) σ6) fun r25 σ25 =>
jd_sx L (s6 + 1) fun j26 =>
jd_o σ25 (13, 29) (some σ2.1.length) fun a27 =>
jd_b (m_X13_beach a27 (xs j26) σ25) fun r28 σ28 =>
jd_if (r25 = r28) (
some (Sum.inl (s6 + 6), σ28)) (
some (Sum.inr (Sum.inr 0), σ28)),
jd_o σ6 (11, 12) (some σ.1.length) fun a29 =>
jd_b (m_X11_fault a29 σ6) fun r30 σ30 =>
jd_o σ30 (13, 29) (some σ2.1.length) fun a31 =>
jd_b (m_X13_fault a31 σ30) fun r32 σ32 =>
jd_if (r30 = r32) (
some (Sum.inl (s6 + 6), σ32)) (
some (Sum.inr (Sum.inr 0), σ32)),
jd_o σ6 (11, 12) (some σ.1.length) fun a33 =>
jd_b (m_X11_where a33 σ6) fun r34 σ34 =>
jd_o σ34 (13, 29) (some σ2.1.length) fun a35 =>
jd_b (m_X13_where a35 σ34) fun r36 σ36 =>
jd_if (r34 = r36) (
some (Sum.inl (s6 + 6), σ36)) (
some (Sum.inr (Sum.inr 0), σ36)),
jd_sx L (s6 + 1) fun j37 =>
jd_sx L (s6 + 2) fun j38 =>
jd_o σ6 (11, 12) (some σ.1.length) fun a39 =>
jd_b (m_X11_person a39 (xs j37) (xs j38) σ6) fun r40 σ40 =>
jd_sx L (s6 + 1) fun j41 =>
jd_sx L (s6 + 2) fun j42 =>
jd_o σ40 (13, 29) (some σ2.1.length) fun a43 =>
jd_b (m_X13_person a43 (xs j41) (xs j42) σ40) fun r44 σ44 =>
jd_if (r40 = r44) (
some (Sum.inl (s6 + 6), σ44)) (
some (Sum.inr (Sum.inr 0), σ44)),
jd_sx L (s6 + 1) fun j45 =>
jd_sx L (s6 + 2) fun j46 =>
jd_o σ6 (11, 12) (some σ.1.length) fun a47 =>
jd_b (m_X11_post a47 (xs j45) (xs j46) σ6) fun r48 σ48 =>
jd_sx L (s6 + 1) fun j49 =>
jd_sx L (s6 + 2) fun j50 =>
jd_o σ48 (13, 29) (some σ2.1.length) fun a51 =>
jd_b (m_X13_post a51 (xs j49) (xs j50) σ48) fun r52 σ52 =>
jd_if (r48 = r52) (
some (Sum.inl (s6 + 6), σ52)) (
some (Sum.inr (Sum.inr 0), σ52)),
jd_sx L (s6 + 1) fun j53 =>
jd_sx L (s6 + 2) fun j54 =>
jd_o σ6 (11, 12) (some σ.1.length) fun a55 =>
jd_b (m_X11_time a55 (xs j53) (xs j54) σ6) fun r56 σ56 =>
jd_sx L (s6 + 1) fun j57 =>
jd_sx L (s6 + 2) fun j58 =>
jd_o σ56 (13, 29) (some σ2.1.length) fun a59 =>
jd_b (m_X13_time a59 (xs j57) (xs j58) σ56) fun r60 σ60 =>
jd_if (r56 = r60) (
some (Sum.inl (s6 + 6), σ60)) (
some (Sum.inr (Sum.inr 0), σ60)),
jd_o σ6 (11, 12) (some σ.1.length) fun a61 =>
jd_b (m_X11_sinkers a61 σ6) fun r62 σ62 =>
jd_o σ62 (13, 29) (some σ2.1.length) fun a63 =>
jd_b (m_X13_sinkers a63 σ62) fun r64 σ64 =>
jd_if (r62 = r64) (
some (Sum.inl (s6 + 6), σ64)) (
some (Sum.inr (Sum.inr 0), σ64)),
jd_o σ6 (11, 12) (some σ.1.length) fun a65 =>
jd_b (m_X11_first a65 σ6) fun r66 σ66 =>
jd_o σ66 (13, 29) (some σ2.1.length) fun a67 =>
jd_b (m_X13_first a67 σ66) fun r68 σ68 =>
jd_if (r66 = r68) (
some (Sum.inl (s6 + 6), σ68)) (
some (Sum.inr (Sum.inr 0), σ68)),
jd_sx L (s6 + 1) fun j69 =>
jd_o σ6 (11, 12) (some σ.1.length) fun a70 =>
jd_b (m_X11_under a70 (xs j69) σ6) fun r71 σ71 =>
jd_sx L (s6 + 1) fun j72 =>
jd_o σ71 (13, 29) (some σ2.1.length) fun a73 =>
jd_b (m_X13_under a73 (xs j72) σ71) fun r74 σ74 =>
jd_if (r71 = r74) (
some (Sum.inl (s6 + 6), σ74)) (
some (Sum.inr (Sum.inr 0), σ74)),
jd_sx L (s6 + 1) fun j75 =>
jd_o σ6 (11, 12) (some σ.1.length) fun a76 =>
jd_b (m_X11_lost a76 (xs j75) σ6) fun r77 σ77 =>
jd_sx L (s6 + 1) fun j78 =>
jd_o σ77 (13, 29) (some σ2.1.length) fun a79 =>
jd_b (m_X13_lost a79 (xs j78) σ77) fun r80 σ80 =>
jd_if (r77 = r80) (
some (Sum.inl (s6 + 6), σ80)) (
some (Sum.inr (Sum.inr 0), σ80)),
jd_o σ6 (11, 12) (some σ.1.length) fun a81 =>
jd_b (m_X11_worstMinute a81 σ6) fun r82 σ82 =>
jd_o σ82 (13, 29) (some σ2.1.length) fun a83 =>
jd_b (m_X13_worstMinute a83 σ82) fun r84 σ84 =>
jd_if (r82 = r84) (
some (Sum.inl (s6 + 6), σ84)) (
some (Sum.inr (Sum.inr 0), σ84)),
jd_o σ6 (11, 12) (some σ.1.length) fun a85 =>
jd_b (m_X11_reached a85 σ6) fun r86 σ86 =>
jd_o σ86 (13, 29) (some σ2.1.length) fun a87 =>
jd_b (m_X13_reached a87 σ86) fun r88 σ88 =>
jd_if (r86 = r88) (
some (Sum.inl (s6 + 6), σ88)) (
some (Sum.inr (Sum.inr 0), σ88)),
jd_sx L (s6 + 1) fun j89 =>
jd_o σ6 (11, 12) (some σ.1.length) fun a90 =>
jd_b (m_X11_nearest a90 (xs j89) σ6) fun r91 σ91 =>
jd_sx L (s6 + 1) fun j92 =>
jd_o σ91 (13, 29) (some σ2.1.length) fun a93 =>
jd_b (m_X13_nearest a93 (xs j92) σ91) fun r94 σ94 =>
jd_if (r91 = r94) (
some (Sum.inl (s6 + 6), σ94)) (
some (Sum.inr (Sum.inr 0), σ94)),
jd_o σ6 (11, 12) (some σ.1.length) fun a95 =>
jd_b (m_X11_cover a95 σ6) fun r96 σ96 =>
jd_o σ96 (13, 29) (some σ2.1.length) fun a97 =>
jd_b (m_X13_cover a97 σ96) fun r98 σ98 =>
jd_if (r96 = r98) (
some (Sum.inl (s6 + 6), σ98)) (
some (Sum.inr (Sum.inr 0), σ98)),
jd_o σ6 (11, 12) (some σ.1.length) fun a99 =>
jd_b (m_X11_covers a99 σ6) fun r100 σ100 =>
jd_o σ100 (13, 29) (some σ2.1.length) fun a101 =>
jd_b (m_X13_covers a101 σ100) fun r102 σ102 =>
jd_if (r100 = r102) (
some (Sum.inl (s6 + 6), σ102)) (
some (Sum.inr (Sum.inr 0), σ102)),
jd_o σ6 (11, 12) (some σ.1.length) fun a103 =>
jd_b (m_X11_bestPost a103 σ6) fun r104 σ104 =>
jd_o σ104 (13, 29) (some σ2.1.length) fun a105 =>
jd_b (m_X13_bestPost a105 σ104) fun r106 σ106 =>
jd_if (r104 = r106) (
some (Sum.inl (s6 + 6), σ106)) (
some (Sum.inr (Sum.inr 0), σ106)),
jd_sx L (s6 + 1) fun j107 =>
jd_o σ6 (11, 12) (some σ.1.length) fun a108 =>
jd_b (m_X11_bestPlace a108 (xs j107) σ6) fun r109 σ109 =>
jd_sx L (s6 + 1) fun j110 =>
jd_o σ109 (13, 29) (some σ2.1.length) fun a111 =>
jd_b (m_X13_bestPlace a111 (xs j110) σ109) fun r112 σ112 =>
jd_if (r109 = r112) (
some (Sum.inl (s6 + 6), σ112)) (
some (Sum.inr (Sum.inr 0), σ112)),
jd_o σ6 (11, 12) (some σ.1.length) fun a113 =>
jd_b (m_X11_limitFor a113 σ6) fun r114 σ114 =>
jd_o σ114 (13, 29) (some σ2.1.length) fun a115 =>
jd_b (m_X13_limitFor a115 σ114) fun r116 σ116 =>
jd_if (r114 = r116) (
some (Sum.inl (s6 + 6), σ116)) (
some (Sum.inr (Sum.inr 0), σ116)),
jd_sx L (s6 + 1) fun j117 =>
jd_o σ6 (11, 12) (some σ.1.length) fun a118 =>
jd_b (m_X11_alone a118 (xs j117) σ6) fun r119 σ119 =>
jd_sx L (s6 + 1) fun j120 =>
jd_o σ119 (13, 29) (some σ2.1.length) fun a121 =>
jd_b (m_X13_alone a121 (xs j120) σ119) fun r122 σ122 =>
jd_if (r119 = r122) (
some (Sum.inl (s6 + 6), σ122)) (
some (Sum.inr (Sum.inr 0), σ122)),
jd_sx L (s6 + 1) fun j123 =>
jd_sx L (s6 + 2) fun j124 =>
jd_o σ6 (11, 12) (some σ.1.length) fun a125 =>
jd_b (m_X11_aloneAt a125 (xs j123) (xs j124) σ6) fun r126 σ126 =>
jd_sx L (s6 + 1) fun j127 =>
jd_sx L (s6 + 2) fun j128 =>
jd_o σ126 (13, 29) (some σ2.1.length) fun a129 =>
jd_b (m_X13_aloneAt a129 (xs j127) (xs j128) σ126) fun r130 σ130 =>
jd_if (r126 = r130) (
some (Sum.inl (s6 + 6), σ130)) (
some (Sum.inr (Sum.inr 0), σ130)),
jd_sx L (s6 + 1) fun j131 =>
jd_o σ6 (11, 12) (some σ.1.length) fun a132 =>
jd_b (m_X11_aloneFree a132 (xs j131) σ6) fun r133 σ133 =>
jd_sx L (s6 + 1) fun j134 =>
jd_o σ133 (13, 29) (some σ2.1.length) fun a135 =>
jd_b (m_X13_aloneFree a135 (xs j134) σ133) fun r136 σ136 =>
jd_if (r133 = r136) (
some (Sum.inl (s6 + 6), σ136)) (
some (Sum.inr (Sum.inr 0), σ136)),
jd_o σ6 (11, 12) (some σ.1.length) fun a137 =>
jd_b (m_X11_bestAlone a137 σ6) fun r138 σ138 =>
jd_o σ138 (13, 29) (some σ2.1.length) fun a139 =>
jd_b (m_X13_bestAlone a139 σ138) fun r140 σ140 =>
jd_if (r138 = r140) (
some (Sum.inl (s6 + 6), σ140)) (
some (Sum.inr (Sum.inr 0), σ140)),
jd_o σ6 (11, 12) (some σ.1.length) fun a141 =>
jd_b (m_X11_seats a141 σ6) fun r142 σ142 =>
jd_o σ142 (13, 29) (some σ2.1.length) fun a143 =>
jd_b (m_X13_seats a143 σ142) fun r144 σ144 =>
jd_if (r142 = r144) (
some (Sum.inl (s6 + 6), σ144)) (
some (Sum.inr (Sum.inr 0), σ144)),
jd_sx L (s6 + 1) fun j145 =>
jd_o σ6 (11, 12) (some σ.1.length) fun a146 =>
jd_b (m_X11_seatOf a146 (xs j145) σ6) fun r147 σ147 =>
jd_sx L (s6 + 1) fun j148 =>
jd_o σ147 (13, 29) (some σ2.1.length) fun a149 =>
jd_b (m_X13_seatOf a149 (xs j148) σ147) fun r150 σ150 =>
jd_if (r147 = r150) (
some (Sum.inl (s6 + 6), σ150)) (
some (Sum.inr (Sum.inr 0), σ150)),
jd_sx L (s6 + 1) fun j151 =>
jd_o σ6 (11, 12) (some σ.1.length) fun a152 =>
jd_b (m_X11_company a152 (xs j151) σ6) fun r153 σ153 =>
jd_sx L (s6 + 1) fun j154 =>
jd_o σ153 (13, 29) (some σ2.1.length) fun a155 =>
jd_b (m_X13_company a155 (xs j154) σ153) fun r156 σ156 =>
jd_if (r153 = r156) (
some (Sum.inl (s6 + 6), σ156)) (
some (Sum.inr (Sum.inr 0), σ156)),
jd_sx L (s6 + 1) fun j157 =>
jd_sx L (s6 + 2) fun j158 =>
jd_b (α := Int32) (
jd_if ((xs j158) = 0) (
some (0, σ6)) (
some (1, σ6))) fun t159 σ159 =>
jd_o σ159 (11, 12) (some σ.1.length) fun a160 =>
jd_b (m_X11_odds a160 (xs j157) t159 σ159) fun r161 σ161 =>
jd_sx L (s6 + 1) fun j162 =>
jd_sx L (s6 + 2) fun j163 =>
jd_b (α := Int32) (
jd_if ((xs j163) = 0) (
some (0, σ161)) (
some (1, σ161))) fun t164 σ164 =>
jd_o σ164 (13, 29) (some σ2.1.length) fun a165 =>
jd_b (m_X13_odds a165 (xs j162) t164 σ164) fun r166 σ166 =>
jd_if ((lg_cmp r161 r166) = 0) (
some (Sum.inl (s6 + 6), σ166)) (
some (Sum.inr (Sum.inr 0), σ166)),
jd_o σ6 (11, 12) (some σ.1.length) fun a167 =>
jd_b (m_X11_likeliest a167 σ6) fun r168 σ168 =>
jd_o σ168 (13, 29) (some σ2.1.length) fun a169 =>
jd_b (m_X13_likeliest a169 σ168) fun r170 σ170 =>
jd_if (r168 = r170) (
some (Sum.inl (s6 + 6), σ170)) (
some (Sum.inr (Sum.inr 0), σ170)),
jd_sx L (s6 + 1) fun j171 =>
jd_sx L (s6 + 2) fun j172 =>
jd_b (α := Int32) (
jd_if ((xs j172) = 0) (
some (0, σ6)) (
some (1, σ6))) fun t173 σ173 =>
jd_o σ173 (11, 12) (some σ.1.length) fun a174 =>
jd_b (m_X11_among a174 (xs j171) t173 σ173) fun r175 σ175 =>
jd_sx L (s6 + 1) fun j176 =>
jd_sx L (s6 + 2) fun j177 =>
jd_b (α := Int32) (
jd_if ((xs j177) = 0) (
some (0, σ175)) (
some (1, σ175))) fun t178 σ178 =>
jd_o σ178 (13, 29) (some σ2.1.length) fun a179 =>
jd_b (m_X13_among a179 (xs j176) t178 σ178) fun r180 σ180 =>
jd_if ((lg_cmp r175 r180) = 0) (
some (Sum.inl (s6 + 6), σ180)) (
some (Sum.inr (Sum.inr 0), σ180)),
jd_o σ6 (11, 12) (some σ.1.length) fun a181 =>
jd_b (m_X11_suspects a181 σ6) fun r182 σ182 =>
jd_o σ182 (13, 29) (some σ2.1.length) fun a183 =>
jd_b (m_X13_suspects a183 σ182) fun r184 σ184 =>
jd_if (r182 = r184) (
some (Sum.inl (s6 + 6), σ184)) (
some (Sum.inr (Sum.inr 0), σ184)),
jd_sx L (s6 + 1) fun j185 =>
jd_o σ6 (11, 12) (some σ.1.length) fun a186 =>
jd_b (m_X11_flag a186 (xs j185) σ6) fun r187 σ187 =>
jd_sx L (s6 + 1) fun j188 =>
jd_o σ187 (13, 29) (some σ2.1.length) fun a189 =>
jd_b (m_X13_flag a189 (xs j188) σ187) fun r190 σ190 =>
jd_if (r187 = r190) (
some (Sum.inl (s6 + 6), σ190)) (
some (Sum.inr (Sum.inr 0), σ190)),
jd_o σ6 (11, 12) (some σ.1.length) fun a191 =>
jd_b (m_X11_teach a191 σ6) fun r192 σ192 =>
jd_o σ192 (13, 29) (some σ2.1.length) fun a193 =>
jd_b (m_X13_teach a193 σ192) fun r194 σ194 =>
jd_if (r192 = r194) (
some (Sum.inl (s6 + 6), σ194)) (
some (Sum.inr (Sum.inr 0), σ194)),
jd_sx L (s6 + 1) fun j195 =>
jd_o σ6 (11, 12) (some σ.1.length) fun a196 =>
jd_b (m_X11_hears a196 (xs j195) σ6) fun r197 σ197 =>
jd_sx L (s6 + 1) fun j198 =>
jd_o σ197 (13, 29) (some σ2.1.length) fun a199 =>
jd_b (m_X13_hears a199 (xs j198) σ197) fun r200 σ200 =>
jd_if (r197 = r200) (
some (Sum.inl (s6 + 6), σ200)) (
some (Sum.inr (Sum.inr 0), σ200)),
jd_sx L (s6 + 1) fun j201 =>
jd_sx L (s6 + 2) fun j202 =>
jd_b (α := Int32) (
jd_if ((xs j202) = 0) (
some (0, σ6)) (
some (1, σ6))) fun t203 σ203 =>
jd_sx L (s6 + 3) fun j204 =>
jd_b (α := Int32) (
jd_if ((xs j204) = 0) (
some (0, σ203)) (
some (1, σ203))) fun t205 σ205 =>
jd_sx L (s6 + 4) fun j206 =>
jd_b (α := Int32) (
jd_if ((xs j206) = 0) (
some (0, σ205)) (
some (1, σ205))) fun t207 σ207 =>
jd_o σ207 (11, 12) (some σ.1.length) fun a208 =>
jd_b (m_X11_looks a208 (xs j201) t203 t205 t207 σ207) fun r209 σ209 =>
jd_sx L (s6 + 1) fun j210 =>
jd_sx L (s6 + 2) fun j211 =>
jd_b (α := Int32) (
jd_if ((xs j211) = 0) (
some (0, σ209)) (
some (1, σ209))) fun t212 σ212 =>
jd_sx L (s6 + 3) fun j213 =>
jd_b (α := Int32) (
jd_if ((xs j213) = 0) (
some (0, σ212)) (
some (1, σ212))) fun t214 σ214 =>
jd_sx L (s6 + 4) fun j215 =>
jd_if ((xs j215) = 0) (
jd_o σ214 (13, 29) (some σ2.1.length) fun a216 =>
jd_b (m_X13_looks a216 (xs j210) t212 t214 0 σ214) fun r217 σ217 =>
jd_if (r209 = r217) (
some (Sum.inl (s6 + 6), σ217)) (
some (Sum.inr (Sum.inr 0), σ217))) (
jd_o σ214 (13, 29) (some σ2.1.length) fun a218 =>
jd_b (m_X13_looks a218 (xs j210) t212 t214 1 σ214) fun r219 σ219 =>
jd_if (r209 = r219) (
some (Sum.inl (s6 + 6), σ219)) (
some (Sum.inr (Sum.inr 0), σ219))),
jd_sx L (s6 + 1) fun j220 =>
jd_o σ6 (11, 12) (some σ.1.length) fun a221 =>
jd_b (m_X11_rests a221 (xs j220) σ6) fun r222 σ222 =>
jd_sx L (s6 + 1) fun j223 =>
jd_o σ222 (13, 29) (some σ2.1.length) fun a224 =>
jd_b (m_X13_rests a224 (xs j223) σ222) fun r225 σ225 =>
jd_if (r222 = r225) (
some (Sum.inl (s6 + 6), σ225)) (
some (Sum.inr (Sum.inr 0), σ225)),
jd_sx L (s6 + 1) fun j226 =>
jd_o σ6 (11, 12) (some σ.1.length) fun a227 =>
jd_b (m_X11_rest a227 (xs j226) σ6) fun r228 σ228 =>
jd_sx L (s6 + 1) fun j229 =>
jd_o σ228 (13, 29) (some σ2.1.length) fun a230 =>
jd_b (m_X13_rest a230 (xs j229) σ228) fun r231 σ231 =>
jd_if (r228 = r231) (
some (Sum.inl (s6 + 6), σ231)) (
some (Sum.inr (Sum.inr 0), σ231)),
jd_sx L (s6 + 1) fun j232 =>
jd_b (α := Int32) (
jd_if ((xs j232) = 0) (
some (0, σ6)) (
some (1, σ6))) fun t233 σ233 =>
jd_o σ233 (11, 12) (some σ.1.length) fun a234 =>
jd_b (m_X11_safe a234 t233 σ233) fun r235 σ235 =>
jd_sx L (s6 + 1) fun j236 =>
jd_b (α := Int32) (
jd_if ((xs j236) = 0) (
some (0, σ235)) (
some (1, σ235))) fun t237 σ237 =>
jd_o σ237 (13, 29) (some σ2.1.length) fun a238 =>
jd_b (m_X13_safe a238 t237 σ237) fun r239 σ239 =>
jd_if ((lg_cmp r235 r239) = 0) (
some (Sum.inl (s6 + 6), σ239)) (
some (Sum.inr (Sum.inr 0), σ239)),
jd_sx L (s6 + 1) fun j240 =>
jd_sx L (s6 + 2) fun j241 =>
jd_b (α := Int32) (
jd_if ((xs j241) = 0) (
some (0, σ6)) (
some (1, σ6))) fun t242 σ242 =>
jd_o σ242 (11, 12) (some σ.1.length) fun a243 =>
jd_b (m_X11_sinking a243 (xs j240) t242 σ242) fun r244 σ244 =>
jd_sx L (s6 + 1) fun j245 =>
jd_sx L (s6 + 2) fun j246 =>
jd_b (α := Int32) (
jd_if ((xs j246) = 0) (
some (0, σ244)) (
some (1, σ244))) fun t247 σ247 =>
jd_o σ247 (13, 29) (some σ2.1.length) fun a248 =>
jd_b (m_X13_sinking a248 (xs j245) t247 σ247) fun r249 σ249 =>
jd_if ((lg_cmp r244 r249) = 0) (
some (Sum.inl (s6 + 6), σ249)) (
some (Sum.inr (Sum.inr 0), σ249)),
jd_sx L (s6 + 1) fun j250 =>
jd_b (α := Int32) (
jd_if ((xs j250) = 0) (
some (0, σ6)) (
some (1, σ6))) fun t251 σ251 =>
jd_o σ251 (11, 12) (some σ.1.length) fun a252 =>
jd_b (m_X11_mean a252 t251 σ251) fun r253 σ253 =>
jd_sx L (s6 + 1) fun j254 =>
jd_b (α := Int32) (
jd_if ((xs j254) = 0) (
some (0, σ253)) (
some (1, σ253))) fun t255 σ255 =>
jd_o σ255 (13, 29) (some σ2.1.length) fun a256 =>
jd_b (m_X13_mean a256 t255 σ255) fun r257 σ257 =>
jd_if ((lg_cmp r253 r257) = 0) (
some (Sum.inl (s6 + 6), σ257)) (
some (Sum.inr (Sum.inr 0), σ257)),
jd_sx L (s6 + 1) fun j258 =>
jd_sx L (s6 + 2) fun j259 =>
jd_sx L (s6 + 3) fun j260 =>
jd_o σ6 (11, 12) (some σ.1.length) fun a261 =>
jd_b (m_X11_afternoons a261 (xs j258) (xs j259) (xs j260) σ6) fun r262 σ262 =>
jd_sx L (s6 + 1) fun j263 =>
jd_sx L (s6 + 2) fun j264 =>
jd_sx L (s6 + 3) fun j265 =>
jd_o σ262 (13, 29) (some σ2.1.length) fun a266 =>
jd_b (m_X13_afternoons a266 (xs j263) (xs j264) (xs j265) σ262) fun r267 σ267 =>
jd_if (r262 = r267) (
some (Sum.inl (s6 + 6), σ267)) (
some (Sum.inr (Sum.inr 0), σ267)),
jd_sx L (s6 + 1) fun j268 =>
jd_sx L (s6 + 2) fun j269 =>
jd_o σ6 (11, 12) (some σ.1.length) fun a270 =>
jd_b (m_X11_worst a270 (xs j268) (xs j269) σ6) fun r271 σ271 =>
jd_sx L (s6 + 1) fun j272 =>
jd_sx L (s6 + 2) fun j273 =>
jd_o σ271 (13, 29) (some σ2.1.length) fun a274 =>
jd_b (m_X13_worst a274 (xs j272) (xs j273) σ271) fun r275 σ275 =>
jd_if (r271 = r275) (
some (Sum.inl (s6 + 6), σ275)) (
some (Sum.inr (Sum.inr 0), σ275)),
jd_sx L (s6 + 1) fun j276 =>
jd_o σ6 (11, 12) (some σ.1.length) fun a277 =>
jd_b (m_X11_man a277 (xs j276) σ6) fun r278 σ278 =>
jd_sx L (s6 + 1) fun j279 =>
jd_o σ278 (13, 29) (some σ2.1.length) fun a280 =>
jd_b (m_X13_man a280 (xs j279) σ278) fun r281 σ281 =>
jd_if (r278 = r281) (
some (Sum.inl (s6 + 6), σ281)) (
some (Sum.inr (Sum.inr 0), σ281)),
jd_sx L (s6 + 1) fun j282 =>
jd_o σ6 (11, 12) (some σ.1.length) fun a283 =>
jd_b (m_X11_leave a283 (xs j282) σ6) fun r284 σ284 =>
jd_sx L (s6 + 1) fun j285 =>
jd_o σ284 (13, 29) (some σ2.1.length) fun a286 =>
jd_b (m_X13_leave a286 (xs j285) σ284) fun r287 σ287 =>
jd_if (r284 = r287) (
some (Sum.inl (s6 + 6), σ287)) (
some (Sum.inr (Sum.inr 0), σ287)),
jd_sx L (s6 + 1) fun j288 =>
jd_sx L (s6 + 2) fun j289 =>
jd_o σ6 (11, 12) (some σ.1.length) fun a290 =>
jd_b (m_X11_seat a290 (xs j288) (xs j289) σ6) fun r291 σ291 =>
jd_sx L (s6 + 1) fun j292 =>
jd_sx L (s6 + 2) fun j293 =>
jd_o σ291 (13, 29) (some σ2.1.length) fun a294 =>
jd_b (m_X13_seat a294 (xs j292) (xs j293) σ291) fun r295 σ295 =>
jd_if (r291 = r295) (
some (Sum.inl (s6 + 6), σ295)) (
some (Sum.inr (Sum.inr 0), σ295)),
jd_sx L (s6 + 1) fun j296 =>
jd_o σ6 (11, 12) (some σ.1.length) fun a297 =>
jd_b (m_X11_minute a297 (xs j296) σ6) fun r298 σ298 =>
jd_sx L (s6 + 1) fun j299 =>
jd_o σ298 (13, 29) (some σ2.1.length) fun a300 =>
jd_b (m_X13_minute a300 (xs j299) σ298) fun r301 σ301 =>
jd_if (r298 = r301) (
some (Sum.inl (s6 + 6), σ301)) (
some (Sum.inr (Sum.inr 0), σ301)),
jd_sx L (s6 + 1) fun j302 =>
jd_o σ6 (11, 12) (some σ.1.length) fun a303 =>
jd_b (m_X11_lift a303 (xs j302) σ6) fun r304 σ304 =>
jd_sx L (s6 + 1) fun j305 =>
jd_o σ304 (13, 29) (some σ2.1.length) fun a306 =>
jd_b (m_X13_lift a306 (xs j305) σ304) fun r307 σ307 =>
jd_if (r304 = r307) (
some (Sum.inl (s6 + 6), σ307)) (
some (Sum.inr (Sum.inr 0), σ307)),
jd_o σ6 (11, 12) (some σ.1.length) fun a308 =>
jd_b (m_X11_undo a308 σ6) fun r309 σ309 =>
jd_o σ309 (13, 29) (some σ2.1.length) fun a310 =>
jd_b (m_X13_undo a310 σ309) fun r311 σ311 =>
jd_if (r309 = r311) (
some (Sum.inl (s6 + 6), σ311)) (
some (Sum.inr (Sum.inr 0), σ311)),
jd_o σ6 (11, 12) (some σ.1.length) fun a312 =>
jd_b (m_X11_image a312 σ6) fun r313 σ313 =>
jd_o σ313 (13, 29) (some σ2.1.length) fun a314 =>
jd_b (m_X13_image a314 σ313) fun r315 σ315 =>
jd_if (r313 = r315) (
some (Sum.inl (s6 + 6), σ315)) (
some (Sum.inr (Sum.inr 0), σ315)),
jd_sx L (s6 + 1) fun j316 =>
jd_o σ6 (11, 12) (some σ.1.length) fun a317 =>
jd_b (m_X11_back a317 (xs j316) σ6) fun r318 σ318 =>
jd_sx L (s6 + 1) fun j319 =>
jd_o σ318 (13, 29) (some σ2.1.length) fun a320 =>
jd_b (m_X13_back a320 (xs j319) σ318) fun r321 σ321 =>
jd_if (r318 = r321) (
some (Sum.inl (s6 + 6), σ321)) (
some (Sum.inr (Sum.inr 0), σ321)),
jd_sx L (s6 + 1) fun j322 =>
jd_b (m_L_led (some σ.1.length) (xs j322) (some σ4.1.length) σ6) fun r323 σ323 =>
jd_sx L (s6 + 1) fun j324 =>
jd_o σ323 (13, 29) (some σ2.1.length) fun a325 =>
jd_b (m_X13_led a325 (xs j324) σ323) fun r326 σ326 =>
jd_b (m_X13_thrown a325 σ326) fun r327 σ327 =>
jd_if (r327 = r323) (
jd_if (¬ r323 = 0) (
some (Sum.inl (s6 + 6), σ327)) (
jd_ia σ327 23 (some σ4.1.length) 0 fun a328 j328 =>
jd_if ((lg_cmp (σ327.2.2.1 a328 j328) r326.toInt64) = 0) (
some (Sum.inl (s6 + 6), σ327)) (
some (Sum.inr (Sum.inr 0), σ327)))) (
some (Sum.inr (Sum.inr 0), σ327)),
jd_sx L (s6 + 1) fun j329 =>
jd_o σ6 (11, 12) (some σ.1.length) fun a330 =>
jd_b (m_X11_size a330 (xs j329) σ6) fun r331 σ331 =>
jd_sx L (s6 + 1) fun j332 =>
jd_o σ331 (13, 29) (some σ2.1.length) fun a333 =>
jd_b (m_X13_size a333 (xs j332) σ331) fun r334 σ334 =>
jd_if (r331 = r334) (
some (Sum.inl (s6 + 6), σ334)) (
some (Sum.inr (Sum.inr 0), σ334)),
jd_o σ6 (11, 12) (some σ.1.length) fun a335 =>
jd_b (m_X11_trouble a335 σ6) fun r336 σ336 =>
jd_o σ336 (13, 29) (some σ2.1.length) fun a337 =>
jd_b (m_X13_trouble a337 σ336) fun r338 σ338 =>
jd_if (r336 = r338) (
some (Sum.inl (s6 + 6), σ338)) (
some (Sum.inr (Sum.inr 0), σ338))] (
some (Sum.inl (s6 + 6), σ6)))) jd_fu 0 τ5) (jd_q (fun t7 σ7 =>
some (1, σ7)) (fun v6 σ7 => some (v6, σ7)))
set_option maxHeartbeats 40000000 in
set_option maxRecDepth 100000 in
theorem w_law {nm : String} (σ : jd_Hp) (b L : Nat) (xs : Nat → Int32) (X : jd_X) (hD : jd_dp X = 40) (hl : (jd_gl X).stackTraces = false) (hsc : jd_scr X b L xs) (hX : jd_C X RL nm cL_law 7 (some .boolean)) : jd_S X je_i 0 [some (.ref b), none, none, none, none, none, none] [] σ (jd_b (m_law L xs σ) jd_K0) := by
  unfold m_law
  refine jr_new (pc := 0) hX nL_8 dL_law_0 ?_
  refine jr_li ?_
  refine jr_dup (pc := 3) hX (jd_v_cat _ _) dL_law_3 ?_
  refine jr_cI0 (pc := 4) hX lL_15 (c_X11_init hX.F (jd_new σ (11, 12)) σ.1.length (jd_nw (σ := σ) (x := (11, 12)) :)) (jd_dd hD rfl) (by simp [jd_v_cat, jd_cti, jd_ctl]) dL_law_4 (fun r2 σ2 p2 => ?_)
  refine jr_ast1 (pc := 7) hX rfl dL_law_7 ?_
  refine jr_new (pc := 8) hX nL_16 dL_law_8 ?_
  refine jr_li ?_
  refine jr_dup (pc := 11) hX (jd_v_cat _ _) dL_law_11 ?_
  refine jr_cI0 (pc := 12) hX lL_18 (c_X13_init hX.F (jd_new σ2 (13, 29)) σ2.1.length (jd_nw (σ := σ2) (x := (13, 29)) :)) (jd_dd hD rfl) (by simp [jd_v_cat, jd_cti, jd_ctl]) dL_law_12 (fun r4 σ4 p4 => ?_)
  refine jr_ast2 (pc := 15) hX (jn_r _ _) dL_law_15 ?_
  refine jr_iconst (pc := 16) hX 1 rfl dL_law_16 ?_
  refine jr_newal (pc := 17) hX 1 (by decide) (by decide) (by decide) aC_long dL_law_17 ?_
  refine jr_li ?_
  refine jr_ast3 (pc := 19) hX (jn_r _ _) dL_law_19 ?_
  refine jr_iconst (pc := 20) hX 0 rfl dL_law_20 ?_
  refine jr_ist4 (pc := 21) hX (jn_r _ _) dL_law_21 ?_
  refine jr_loopR (pc := 23) (fun (s6 : Int32) => [some (.ref b), some (jd_v (jd_gG X) (some σ.1.length)), some (jd_v (jd_gG X) (some σ2.1.length)), some (jd_v (jd_gG X) (some σ4.1.length)), some (.int s6), none, none]) (fun (t7 : Unit) => [none, none, none, none, none, none, none]) 1734 0 (fun t7 σ7 => ?_) (fun K6 bk6 ex6 wr6 s6 σ6 => ?_)
  · refine jr_iconst (pc := 1734) hX 1 rfl dL_law_1734 ?_
    exact jr_zret (pc := 1735) hX dL_law_1735 (Or.inr rfl) rfl
  · refine jr_ild4 (pc := 23) hX dL_law_23 ?_
    refine jr_rld0 (pc := 25) hX dL_law_25 ?_
    refine jr_slenC (pc := 26) hX hsc dL_law_26 ?_
    refine jr_bipush (pc := 27) hX 6 rfl dL_law_27 ?_
    refine jr_isub (pc := 29) hX dL_law_29 ?_
    refine jr_icgt (pc := 30) hX 1734 dL_law_30 (by decide) ?_ ?_
    · refine jr_wk [false, false, false, false, false, true, true] ?_
      exact ex6 () _
    · refine jr_rld0 (pc := 33) hX dL_law_33 ?_
      refine jr_ild4 (pc := 34) hX dL_law_34 ?_
      refine jr_sldC (pc := 36) hX hsc dL_law_36 ?_
      refine jr_bipush (pc := 37) hX 63 rfl dL_law_37 ?_
      refine jr_iand (pc := 39) hX dL_law_39 ?_
      refine jr_tsw (pc := 40) hX [264, 337, 362, 375, 388, 425, 462, 499, 512, 525, 550, 575, 588, 601, 626, 639, 652, 665, 690, 703, 728, 765, 790, 803, 816, 841, 866, 920, 933, 987, 1000, 1025, 1038, 1063, 1172, 1197, 1222, 1264, 1318, 1360, 1409, 1446, 1471, 1496, 1533, 1558, 1583, 1596, 1609, 1634, 1690, 1715] 1728 dL_law_40 (by decide) rfl (by decide) rfl (fun i t A h1 h2 => ?_) ?_
      · match i, h1, h2 with
        | 0, h1, h2 =>
          cases h1
          cases h2
          refine jr_ald1 (pc := 264) hX dL_law_264 ?_
          refine jr_rld0 (pc := 265) hX dL_law_265 ?_
          refine jr_ild4 (pc := 266) hX dL_law_266 ?_
          refine jr_iconst (pc := 268) hX 1 rfl dL_law_268 ?_
          refine jr_iadd (pc := 269) hX dL_law_269 ?_
          refine jr_sldC (pc := 270) hX hsc dL_law_270 ?_
          refine jr_rld0 (pc := 271) hX dL_law_271 ?_
          refine jr_ild4 (pc := 272) hX dL_law_272 ?_
          refine jr_iconst (pc := 274) hX 2 rfl dL_law_274 ?_
          refine jr_iadd (pc := 275) hX dL_law_275 ?_
          refine jr_sldC (pc := 276) hX hsc dL_law_276 ?_
          refine jr_rld0 (pc := 277) hX dL_law_277 ?_
          refine jr_ild4 (pc := 278) hX dL_law_278 ?_
          refine jr_iconst (pc := 280) hX 3 rfl dL_law_280 ?_
          refine jr_iadd (pc := 281) hX dL_law_281 ?_
          refine jr_sldC (pc := 282) hX hsc dL_law_282 ?_
          refine jr_rld0 (pc := 283) hX dL_law_283 ?_
          refine jr_ild4 (pc := 284) hX dL_law_284 ?_
          refine jr_iconst (pc := 286) hX 4 rfl dL_law_286 ?_
          refine jr_iadd (pc := 287) hX dL_law_287 ?_
          refine jr_sldC (pc := 288) hX hsc dL_law_288 ?_
          refine jr_rld0 (pc := 289) hX dL_law_289 ?_
          refine jr_ild4 (pc := 290) hX dL_law_290 ?_
          refine jr_iconst (pc := 292) hX 5 rfl dL_law_292 ?_
          refine jr_iadd (pc := 293) hX dL_law_293 ?_
          refine jr_sldC (pc := 294) hX hsc dL_law_294 ?_
          refine jr_ck5 (fun a14 e14 h14 => ?_)
          refine jr_cV5i (pc := 295) hX lL_19 (c_X11_feed hX.F σ6 a14 h14 _ _ _ _ _) (jd_dd hD rfl) (Nat.le_of_ble_eq_true rfl) dL_law_295 h14 (fun r15 σ15 p15 => ?_)
          refine jr_ald2 (pc := 298) hX dL_law_298 ?_
          refine jr_rld0 (pc := 299) hX dL_law_299 ?_
          refine jr_ild4 (pc := 300) hX dL_law_300 ?_
          refine jr_iconst (pc := 302) hX 1 rfl dL_law_302 ?_
          refine jr_iadd (pc := 303) hX dL_law_303 ?_
          refine jr_sldC (pc := 304) hX hsc dL_law_304 ?_
          refine jr_rld0 (pc := 305) hX dL_law_305 ?_
          refine jr_ild4 (pc := 306) hX dL_law_306 ?_
          refine jr_iconst (pc := 308) hX 2 rfl dL_law_308 ?_
          refine jr_iadd (pc := 309) hX dL_law_309 ?_
          refine jr_sldC (pc := 310) hX hsc dL_law_310 ?_
          refine jr_rld0 (pc := 311) hX dL_law_311 ?_
          refine jr_ild4 (pc := 312) hX dL_law_312 ?_
          refine jr_iconst (pc := 314) hX 3 rfl dL_law_314 ?_
          refine jr_iadd (pc := 315) hX dL_law_315 ?_
          refine jr_sldC (pc := 316) hX hsc dL_law_316 ?_
          refine jr_rld0 (pc := 317) hX dL_law_317 ?_
          refine jr_ild4 (pc := 318) hX dL_law_318 ?_
          refine jr_iconst (pc := 320) hX 4 rfl dL_law_320 ?_
          refine jr_iadd (pc := 321) hX dL_law_321 ?_
          refine jr_sldC (pc := 322) hX hsc dL_law_322 ?_
          refine jr_rld0 (pc := 323) hX dL_law_323 ?_
          refine jr_ild4 (pc := 324) hX dL_law_324 ?_
          refine jr_iconst (pc := 326) hX 5 rfl dL_law_326 ?_
          refine jr_iadd (pc := 327) hX dL_law_327 ?_
          refine jr_sldC (pc := 328) hX hsc dL_law_328 ?_
          refine jr_ck5 (fun a21 e21 h21 => ?_)
          refine jr_cV5i (pc := 329) hX lL_23 (c_X13_feed hX.F σ15 a21 h21 _ _ _ _ _) (jd_dd hD rfl) (Nat.le_of_ble_eq_true rfl) dL_law_329 h21 (fun r22 σ22 p22 => ?_)
          refine jr_iceq (pc := 332) hX 1728 dL_law_332 (by decide) ?_ ?_
          · refine jr_inc4 (pc := 1728) hX 6 rfl (jn_r _ _) dL_law_1728 ?_
            refine jr_goto (pc := 1731) hX 23 dL_law_1731 (by decide) ?_
            exact bk6 (s6 + 6) _
          · refine jr_iconst (pc := 335) hX 0 rfl dL_law_335 ?_
            exact jr_zret (pc := 336) hX dL_law_336 (Or.inl rfl) ((wr6 _ _).trans rfl)
        | 1, h1, h2 =>
          cases h1
          cases h2
          refine jr_ald1 (pc := 337) hX dL_law_337 ?_
          refine jr_rld0 (pc := 338) hX dL_law_338 ?_
          refine jr_ild4 (pc := 339) hX dL_law_339 ?_
          refine jr_iconst (pc := 341) hX 1 rfl dL_law_341 ?_
          refine jr_iadd (pc := 342) hX dL_law_342 ?_
          refine jr_sldC (pc := 343) hX hsc dL_law_343 ?_
          refine jr_ck1 (fun a24 e24 h24 => ?_)
          refine jr_cV1i (pc := 344) hX lL_24 (c_X11_beach hX.F σ6 a24 h24 _) (jd_dd hD rfl) (Nat.le_of_ble_eq_true rfl) dL_law_344 h24 (fun r25 σ25 p25 => ?_)
          refine jr_ald2 (pc := 347) hX dL_law_347 ?_
          refine jr_rld0 (pc := 348) hX dL_law_348 ?_
          refine jr_ild4 (pc := 349) hX dL_law_349 ?_
          refine jr_iconst (pc := 351) hX 1 rfl dL_law_351 ?_
          refine jr_iadd (pc := 352) hX dL_law_352 ?_
          refine jr_sldC (pc := 353) hX hsc dL_law_353 ?_
          refine jr_ck1 (fun a27 e27 h27 => ?_)
          refine jr_cV1i (pc := 354) hX lL_27 (c_X13_beach hX.F σ25 a27 h27 _) (jd_dd hD rfl) (Nat.le_of_ble_eq_true rfl) dL_law_354 h27 (fun r28 σ28 p28 => ?_)
          refine jr_iceq (pc := 357) hX 1728 dL_law_357 (by decide) ?_ ?_
          · refine jr_inc4 (pc := 1728) hX 6 rfl (jn_r _ _) dL_law_1728 ?_
            refine jr_goto (pc := 1731) hX 23 dL_law_1731 (by decide) ?_
            exact bk6 (s6 + 6) _
          · refine jr_iconst (pc := 360) hX 0 rfl dL_law_360 ?_
            exact jr_zret (pc := 361) hX dL_law_361 (Or.inl rfl) ((wr6 _ _).trans rfl)
        | 2, h1, h2 =>
          cases h1
          cases h2
          refine jr_ald1 (pc := 362) hX dL_law_362 ?_
          refine jr_ck0 (fun a29 e29 h29 => ?_)
          refine jr_cV0i (pc := 363) hX lL_28 (c_X11_fault hX.F σ6 a29 h29) (jd_dd hD rfl) (Nat.le_of_ble_eq_true rfl) dL_law_363 h29 (fun r30 σ30 p30 => ?_)
          refine jr_ald2 (pc := 366) hX dL_law_366 ?_
          refine jr_ck0 (fun a31 e31 h31 => ?_)
          refine jr_cV0i (pc := 367) hX lL_32 (c_X13_fault hX.F σ30 a31 h31) (jd_dd hD rfl) (Nat.le_of_ble_eq_true rfl) dL_law_367 h31 (fun r32 σ32 p32 => ?_)
          refine jr_iceq (pc := 370) hX 1728 dL_law_370 (by decide) ?_ ?_
          · refine jr_inc4 (pc := 1728) hX 6 rfl (jn_r _ _) dL_law_1728 ?_
            refine jr_goto (pc := 1731) hX 23 dL_law_1731 (by decide) ?_
            exact bk6 (s6 + 6) _
          · refine jr_iconst (pc := 373) hX 0 rfl dL_law_373 ?_
            exact jr_zret (pc := 374) hX dL_law_374 (Or.inl rfl) ((wr6 _ _).trans rfl)
        | 3, h1, h2 =>
          cases h1
          cases h2
          refine jr_ald1 (pc := 375) hX dL_law_375 ?_
          refine jr_ck0 (fun a33 e33 h33 => ?_)
          refine jr_cV0i (pc := 376) hX lL_33 (c_X11_where hX.F σ6 a33 h33) (jd_dd hD rfl) (Nat.le_of_ble_eq_true rfl) dL_law_376 h33 (fun r34 σ34 p34 => ?_)
          refine jr_ald2 (pc := 379) hX dL_law_379 ?_
          refine jr_ck0 (fun a35 e35 h35 => ?_)
          refine jr_cV0i (pc := 380) hX lL_36 (c_X13_where hX.F σ34 a35 h35) (jd_dd hD rfl) (Nat.le_of_ble_eq_true rfl) dL_law_380 h35 (fun r36 σ36 p36 => ?_)
          refine jr_iceq (pc := 383) hX 1728 dL_law_383 (by decide) ?_ ?_
          · refine jr_inc4 (pc := 1728) hX 6 rfl (jn_r _ _) dL_law_1728 ?_
            refine jr_goto (pc := 1731) hX 23 dL_law_1731 (by decide) ?_
            exact bk6 (s6 + 6) _
          · refine jr_iconst (pc := 386) hX 0 rfl dL_law_386 ?_
            exact jr_zret (pc := 387) hX dL_law_387 (Or.inl rfl) ((wr6 _ _).trans rfl)
        | 4, h1, h2 =>
          cases h1
          cases h2
          refine jr_ald1 (pc := 388) hX dL_law_388 ?_
          refine jr_rld0 (pc := 389) hX dL_law_389 ?_
          refine jr_ild4 (pc := 390) hX dL_law_390 ?_
          refine jr_iconst (pc := 392) hX 1 rfl dL_law_392 ?_
          refine jr_iadd (pc := 393) hX dL_law_393 ?_
          refine jr_sldC (pc := 394) hX hsc dL_law_394 ?_
          refine jr_rld0 (pc := 395) hX dL_law_395 ?_
          refine jr_ild4 (pc := 396) hX dL_law_396 ?_
          refine jr_iconst (pc := 398) hX 2 rfl dL_law_398 ?_
          refine jr_iadd (pc := 399) hX dL_law_399 ?_
          refine jr_sldC (pc := 400) hX hsc dL_law_400 ?_
          refine jr_ck2 (fun a39 e39 h39 => ?_)
          refine jr_cV2i (pc := 401) hX lL_37 (c_X11_person hX.F σ6 a39 h39 _ _) (jd_dd hD rfl) (Nat.le_of_ble_eq_true rfl) dL_law_401 h39 (fun r40 σ40 p40 => ?_)
          refine jr_ald2 (pc := 404) hX dL_law_404 ?_
          refine jr_rld0 (pc := 405) hX dL_law_405 ?_
          refine jr_ild4 (pc := 406) hX dL_law_406 ?_
          refine jr_iconst (pc := 408) hX 1 rfl dL_law_408 ?_
          refine jr_iadd (pc := 409) hX dL_law_409 ?_
          refine jr_sldC (pc := 410) hX hsc dL_law_410 ?_
          refine jr_rld0 (pc := 411) hX dL_law_411 ?_
          refine jr_ild4 (pc := 412) hX dL_law_412 ?_
          refine jr_iconst (pc := 414) hX 2 rfl dL_law_414 ?_
          refine jr_iadd (pc := 415) hX dL_law_415 ?_
          refine jr_sldC (pc := 416) hX hsc dL_law_416 ?_
          refine jr_ck2 (fun a43 e43 h43 => ?_)
          refine jr_cV2i (pc := 417) hX lL_41 (c_X13_person hX.F σ40 a43 h43 _ _) (jd_dd hD rfl) (Nat.le_of_ble_eq_true rfl) dL_law_417 h43 (fun r44 σ44 p44 => ?_)
          refine jr_iceq (pc := 420) hX 1728 dL_law_420 (by decide) ?_ ?_
          · refine jr_inc4 (pc := 1728) hX 6 rfl (jn_r _ _) dL_law_1728 ?_
            refine jr_goto (pc := 1731) hX 23 dL_law_1731 (by decide) ?_
            exact bk6 (s6 + 6) _
          · refine jr_iconst (pc := 423) hX 0 rfl dL_law_423 ?_
            exact jr_zret (pc := 424) hX dL_law_424 (Or.inl rfl) ((wr6 _ _).trans rfl)
        | 5, h1, h2 =>
          cases h1
          cases h2
          refine jr_ald1 (pc := 425) hX dL_law_425 ?_
          refine jr_rld0 (pc := 426) hX dL_law_426 ?_
          refine jr_ild4 (pc := 427) hX dL_law_427 ?_
          refine jr_iconst (pc := 429) hX 1 rfl dL_law_429 ?_
          refine jr_iadd (pc := 430) hX dL_law_430 ?_
          refine jr_sldC (pc := 431) hX hsc dL_law_431 ?_
          refine jr_rld0 (pc := 432) hX dL_law_432 ?_
          refine jr_ild4 (pc := 433) hX dL_law_433 ?_
          refine jr_iconst (pc := 435) hX 2 rfl dL_law_435 ?_
          refine jr_iadd (pc := 436) hX dL_law_436 ?_
          refine jr_sldC (pc := 437) hX hsc dL_law_437 ?_
          refine jr_ck2 (fun a47 e47 h47 => ?_)
          refine jr_cV2i (pc := 438) hX lL_42 (c_X11_post hX.F σ6 a47 h47 _ _) (jd_dd hD rfl) (Nat.le_of_ble_eq_true rfl) dL_law_438 h47 (fun r48 σ48 p48 => ?_)
          refine jr_ald2 (pc := 441) hX dL_law_441 ?_
          refine jr_rld0 (pc := 442) hX dL_law_442 ?_
          refine jr_ild4 (pc := 443) hX dL_law_443 ?_
          refine jr_iconst (pc := 445) hX 1 rfl dL_law_445 ?_
          refine jr_iadd (pc := 446) hX dL_law_446 ?_
          refine jr_sldC (pc := 447) hX hsc dL_law_447 ?_
          refine jr_rld0 (pc := 448) hX dL_law_448 ?_
          refine jr_ild4 (pc := 449) hX dL_law_449 ?_
          refine jr_iconst (pc := 451) hX 2 rfl dL_law_451 ?_
          refine jr_iadd (pc := 452) hX dL_law_452 ?_
          refine jr_sldC (pc := 453) hX hsc dL_law_453 ?_
          refine jr_ck2 (fun a51 e51 h51 => ?_)
          refine jr_cV2i (pc := 454) hX lL_45 (c_X13_post hX.F σ48 a51 h51 _ _) (jd_dd hD rfl) (Nat.le_of_ble_eq_true rfl) dL_law_454 h51 (fun r52 σ52 p52 => ?_)
          refine jr_iceq (pc := 457) hX 1728 dL_law_457 (by decide) ?_ ?_
          · refine jr_inc4 (pc := 1728) hX 6 rfl (jn_r _ _) dL_law_1728 ?_
            refine jr_goto (pc := 1731) hX 23 dL_law_1731 (by decide) ?_
            exact bk6 (s6 + 6) _
          · refine jr_iconst (pc := 460) hX 0 rfl dL_law_460 ?_
            exact jr_zret (pc := 461) hX dL_law_461 (Or.inl rfl) ((wr6 _ _).trans rfl)
        | 6, h1, h2 =>
          cases h1
          cases h2
          refine jr_ald1 (pc := 462) hX dL_law_462 ?_
          refine jr_rld0 (pc := 463) hX dL_law_463 ?_
          refine jr_ild4 (pc := 464) hX dL_law_464 ?_
          refine jr_iconst (pc := 466) hX 1 rfl dL_law_466 ?_
          refine jr_iadd (pc := 467) hX dL_law_467 ?_
          refine jr_sldC (pc := 468) hX hsc dL_law_468 ?_
          refine jr_rld0 (pc := 469) hX dL_law_469 ?_
          refine jr_ild4 (pc := 470) hX dL_law_470 ?_
          refine jr_iconst (pc := 472) hX 2 rfl dL_law_472 ?_
          refine jr_iadd (pc := 473) hX dL_law_473 ?_
          refine jr_sldC (pc := 474) hX hsc dL_law_474 ?_
          refine jr_ck2 (fun a55 e55 h55 => ?_)
          refine jr_cV2i (pc := 475) hX lL_46 (c_X11_time hX.F σ6 a55 h55 _ _) (jd_dd hD rfl) (Nat.le_of_ble_eq_true rfl) dL_law_475 h55 (fun r56 σ56 p56 => ?_)
          refine jr_ald2 (pc := 478) hX dL_law_478 ?_
          refine jr_rld0 (pc := 479) hX dL_law_479 ?_
          refine jr_ild4 (pc := 480) hX dL_law_480 ?_
          refine jr_iconst (pc := 482) hX 1 rfl dL_law_482 ?_
          refine jr_iadd (pc := 483) hX dL_law_483 ?_
          refine jr_sldC (pc := 484) hX hsc dL_law_484 ?_
          refine jr_rld0 (pc := 485) hX dL_law_485 ?_
          refine jr_ild4 (pc := 486) hX dL_law_486 ?_
          refine jr_iconst (pc := 488) hX 2 rfl dL_law_488 ?_
          refine jr_iadd (pc := 489) hX dL_law_489 ?_
          refine jr_sldC (pc := 490) hX hsc dL_law_490 ?_
          refine jr_ck2 (fun a59 e59 h59 => ?_)
          refine jr_cV2i (pc := 491) hX lL_49 (c_X13_time hX.F σ56 a59 h59 _ _) (jd_dd hD rfl) (Nat.le_of_ble_eq_true rfl) dL_law_491 h59 (fun r60 σ60 p60 => ?_)
          refine jr_iceq (pc := 494) hX 1728 dL_law_494 (by decide) ?_ ?_
          · refine jr_inc4 (pc := 1728) hX 6 rfl (jn_r _ _) dL_law_1728 ?_
            refine jr_goto (pc := 1731) hX 23 dL_law_1731 (by decide) ?_
            exact bk6 (s6 + 6) _
          · refine jr_iconst (pc := 497) hX 0 rfl dL_law_497 ?_
            exact jr_zret (pc := 498) hX dL_law_498 (Or.inl rfl) ((wr6 _ _).trans rfl)
        | 7, h1, h2 =>
          cases h1
          cases h2
          refine jr_ald1 (pc := 499) hX dL_law_499 ?_
          refine jr_ck0 (fun a61 e61 h61 => ?_)
          refine jr_cV0i (pc := 500) hX lL_50 (c_X11_sinkers hX.F σ6 a61 h61) (jd_dd hD rfl) (Nat.le_of_ble_eq_true rfl) dL_law_500 h61 (fun r62 σ62 p62 => ?_)
          refine jr_ald2 (pc := 503) hX dL_law_503 ?_
          refine jr_ck0 (fun a63 e63 h63 => ?_)
          refine jr_cV0i (pc := 504) hX lL_53 (c_X13_sinkers hX.F σ62 a63 h63) (jd_dd hD rfl) (Nat.le_of_ble_eq_true rfl) dL_law_504 h63 (fun r64 σ64 p64 => ?_)
          refine jr_iceq (pc := 507) hX 1728 dL_law_507 (by decide) ?_ ?_
          · refine jr_inc4 (pc := 1728) hX 6 rfl (jn_r _ _) dL_law_1728 ?_
            refine jr_goto (pc := 1731) hX 23 dL_law_1731 (by decide) ?_
            exact bk6 (s6 + 6) _
          · refine jr_iconst (pc := 510) hX 0 rfl dL_law_510 ?_
            exact jr_zret (pc := 511) hX dL_law_511 (Or.inl rfl) ((wr6 _ _).trans rfl)
        | 8, h1, h2 =>
          cases h1
          cases h2
          refine jr_ald1 (pc := 512) hX dL_law_512 ?_
          refine jr_ck0 (fun a65 e65 h65 => ?_)
          refine jr_cV0i (pc := 513) hX lL_54 (c_X11_first hX.F σ6 a65 h65) (jd_dd hD rfl) (Nat.le_of_ble_eq_true rfl) dL_law_513 h65 (fun r66 σ66 p66 => ?_)
          refine jr_ald2 (pc := 516) hX dL_law_516 ?_
          refine jr_ck0 (fun a67 e67 h67 => ?_)
          refine jr_cV0i (pc := 517) hX lL_57 (c_X13_first hX.F σ66 a67 h67) (jd_dd hD rfl) (Nat.le_of_ble_eq_true rfl) dL_law_517 h67 (fun r68 σ68 p68 => ?_)
          refine jr_iceq (pc := 520) hX 1728 dL_law_520 (by decide) ?_ ?_
          · refine jr_inc4 (pc := 1728) hX 6 rfl (jn_r _ _) dL_law_1728 ?_
            refine jr_goto (pc := 1731) hX 23 dL_law_1731 (by decide) ?_
            exact bk6 (s6 + 6) _
          · refine jr_iconst (pc := 523) hX 0 rfl dL_law_523 ?_
            exact jr_zret (pc := 524) hX dL_law_524 (Or.inl rfl) ((wr6 _ _).trans rfl)
        | 9, h1, h2 =>
          cases h1
          cases h2
          refine jr_ald1 (pc := 525) hX dL_law_525 ?_
          refine jr_rld0 (pc := 526) hX dL_law_526 ?_
          refine jr_ild4 (pc := 527) hX dL_law_527 ?_
          refine jr_iconst (pc := 529) hX 1 rfl dL_law_529 ?_
          refine jr_iadd (pc := 530) hX dL_law_530 ?_
          refine jr_sldC (pc := 531) hX hsc dL_law_531 ?_
          refine jr_ck1 (fun a70 e70 h70 => ?_)
          refine jr_cV1i (pc := 532) hX lL_58 (c_X11_under hX.F σ6 a70 h70 _) (jd_dd hD rfl) (Nat.le_of_ble_eq_true rfl) dL_law_532 h70 (fun r71 σ71 p71 => ?_)
          refine jr_ald2 (pc := 535) hX dL_law_535 ?_
          refine jr_rld0 (pc := 536) hX dL_law_536 ?_
          refine jr_ild4 (pc := 537) hX dL_law_537 ?_
          refine jr_iconst (pc := 539) hX 1 rfl dL_law_539 ?_
          refine jr_iadd (pc := 540) hX dL_law_540 ?_
          refine jr_sldC (pc := 541) hX hsc dL_law_541 ?_
          refine jr_ck1 (fun a73 e73 h73 => ?_)
          refine jr_cV1i (pc := 542) hX lL_61 (c_X13_under hX.F σ71 a73 h73 _) (jd_dd hD rfl) (Nat.le_of_ble_eq_true rfl) dL_law_542 h73 (fun r74 σ74 p74 => ?_)
          refine jr_iceq (pc := 545) hX 1728 dL_law_545 (by decide) ?_ ?_
          · refine jr_inc4 (pc := 1728) hX 6 rfl (jn_r _ _) dL_law_1728 ?_
            refine jr_goto (pc := 1731) hX 23 dL_law_1731 (by decide) ?_
            exact bk6 (s6 + 6) _
          · refine jr_iconst (pc := 548) hX 0 rfl dL_law_548 ?_
            exact jr_zret (pc := 549) hX dL_law_549 (Or.inl rfl) ((wr6 _ _).trans rfl)
        | 10, h1, h2 =>
          cases h1
          cases h2
          refine jr_ald1 (pc := 550) hX dL_law_550 ?_
          refine jr_rld0 (pc := 551) hX dL_law_551 ?_
          refine jr_ild4 (pc := 552) hX dL_law_552 ?_
          refine jr_iconst (pc := 554) hX 1 rfl dL_law_554 ?_
          refine jr_iadd (pc := 555) hX dL_law_555 ?_
          refine jr_sldC (pc := 556) hX hsc dL_law_556 ?_
          refine jr_ck1 (fun a76 e76 h76 => ?_)
          refine jr_cV1i (pc := 557) hX lL_62 (c_X11_lost hX.F σ6 a76 h76 _) (jd_dd hD rfl) (Nat.le_of_ble_eq_true rfl) dL_law_557 h76 (fun r77 σ77 p77 => ?_)
          refine jr_ald2 (pc := 560) hX dL_law_560 ?_
          refine jr_rld0 (pc := 561) hX dL_law_561 ?_
          refine jr_ild4 (pc := 562) hX dL_law_562 ?_
          refine jr_iconst (pc := 564) hX 1 rfl dL_law_564 ?_
          refine jr_iadd (pc := 565) hX dL_law_565 ?_
          refine jr_sldC (pc := 566) hX hsc dL_law_566 ?_
          refine jr_ck1 (fun a79 e79 h79 => ?_)
          refine jr_cV1i (pc := 567) hX lL_65 (c_X13_lost hX.F σ77 a79 h79 _) (jd_dd hD rfl) (Nat.le_of_ble_eq_true rfl) dL_law_567 h79 (fun r80 σ80 p80 => ?_)
          refine jr_iceq (pc := 570) hX 1728 dL_law_570 (by decide) ?_ ?_
          · refine jr_inc4 (pc := 1728) hX 6 rfl (jn_r _ _) dL_law_1728 ?_
            refine jr_goto (pc := 1731) hX 23 dL_law_1731 (by decide) ?_
            exact bk6 (s6 + 6) _
          · refine jr_iconst (pc := 573) hX 0 rfl dL_law_573 ?_
            exact jr_zret (pc := 574) hX dL_law_574 (Or.inl rfl) ((wr6 _ _).trans rfl)
        | 11, h1, h2 =>
          cases h1
          cases h2
          refine jr_ald1 (pc := 575) hX dL_law_575 ?_
          refine jr_ck0 (fun a81 e81 h81 => ?_)
          refine jr_cV0i (pc := 576) hX lL_66 (c_X11_worstMinute hX.F σ6 a81 h81) (jd_dd hD rfl) (Nat.le_of_ble_eq_true rfl) dL_law_576 h81 (fun r82 σ82 p82 => ?_)
          refine jr_ald2 (pc := 579) hX dL_law_579 ?_
          refine jr_ck0 (fun a83 e83 h83 => ?_)
          refine jr_cV0i (pc := 580) hX lL_69 (c_X13_worstMinute hX.F σ82 a83 h83) (jd_dd hD rfl) (Nat.le_of_ble_eq_true rfl) dL_law_580 h83 (fun r84 σ84 p84 => ?_)
          refine jr_iceq (pc := 583) hX 1728 dL_law_583 (by decide) ?_ ?_
          · refine jr_inc4 (pc := 1728) hX 6 rfl (jn_r _ _) dL_law_1728 ?_
            refine jr_goto (pc := 1731) hX 23 dL_law_1731 (by decide) ?_
            exact bk6 (s6 + 6) _
          · refine jr_iconst (pc := 586) hX 0 rfl dL_law_586 ?_
            exact jr_zret (pc := 587) hX dL_law_587 (Or.inl rfl) ((wr6 _ _).trans rfl)
        | 12, h1, h2 =>
          cases h1
          cases h2
          refine jr_ald1 (pc := 588) hX dL_law_588 ?_
          refine jr_ck0 (fun a85 e85 h85 => ?_)
          refine jr_cV0i (pc := 589) hX lL_70 (c_X11_reached hX.F σ6 a85 h85) (jd_dd hD rfl) (Nat.le_of_ble_eq_true rfl) dL_law_589 h85 (fun r86 σ86 p86 => ?_)
          refine jr_ald2 (pc := 592) hX dL_law_592 ?_
          refine jr_ck0 (fun a87 e87 h87 => ?_)
          refine jr_cV0i (pc := 593) hX lL_73 (c_X13_reached hX.F σ86 a87 h87) (jd_dd hD rfl) (Nat.le_of_ble_eq_true rfl) dL_law_593 h87 (fun r88 σ88 p88 => ?_)
          refine jr_iceq (pc := 596) hX 1728 dL_law_596 (by decide) ?_ ?_
          · refine jr_inc4 (pc := 1728) hX 6 rfl (jn_r _ _) dL_law_1728 ?_
            refine jr_goto (pc := 1731) hX 23 dL_law_1731 (by decide) ?_
            exact bk6 (s6 + 6) _
          · refine jr_iconst (pc := 599) hX 0 rfl dL_law_599 ?_
            exact jr_zret (pc := 600) hX dL_law_600 (Or.inl rfl) ((wr6 _ _).trans rfl)
        | 13, h1, h2 =>
          cases h1
          cases h2
          refine jr_ald1 (pc := 601) hX dL_law_601 ?_
          refine jr_rld0 (pc := 602) hX dL_law_602 ?_
          refine jr_ild4 (pc := 603) hX dL_law_603 ?_
          refine jr_iconst (pc := 605) hX 1 rfl dL_law_605 ?_
          refine jr_iadd (pc := 606) hX dL_law_606 ?_
          refine jr_sldC (pc := 607) hX hsc dL_law_607 ?_
          refine jr_ck1 (fun a90 e90 h90 => ?_)
          refine jr_cV1i (pc := 608) hX lL_74 (c_X11_nearest hX.F σ6 a90 h90 _) (jd_dd hD rfl) (Nat.le_of_ble_eq_true rfl) dL_law_608 h90 (fun r91 σ91 p91 => ?_)
          refine jr_ald2 (pc := 611) hX dL_law_611 ?_
          refine jr_rld0 (pc := 612) hX dL_law_612 ?_
          refine jr_ild4 (pc := 613) hX dL_law_613 ?_
          refine jr_iconst (pc := 615) hX 1 rfl dL_law_615 ?_
          refine jr_iadd (pc := 616) hX dL_law_616 ?_
          refine jr_sldC (pc := 617) hX hsc dL_law_617 ?_
          refine jr_ck1 (fun a93 e93 h93 => ?_)
          refine jr_cV1i (pc := 618) hX lL_77 (c_X13_nearest hX.F σ91 a93 h93 _) (jd_dd hD rfl) (Nat.le_of_ble_eq_true rfl) dL_law_618 h93 (fun r94 σ94 p94 => ?_)
          refine jr_iceq (pc := 621) hX 1728 dL_law_621 (by decide) ?_ ?_
          · refine jr_inc4 (pc := 1728) hX 6 rfl (jn_r _ _) dL_law_1728 ?_
            refine jr_goto (pc := 1731) hX 23 dL_law_1731 (by decide) ?_
            exact bk6 (s6 + 6) _
          · refine jr_iconst (pc := 624) hX 0 rfl dL_law_624 ?_
            exact jr_zret (pc := 625) hX dL_law_625 (Or.inl rfl) ((wr6 _ _).trans rfl)
        | 14, h1, h2 =>
          cases h1
          cases h2
          refine jr_ald1 (pc := 626) hX dL_law_626 ?_
          refine jr_ck0 (fun a95 e95 h95 => ?_)
          refine jr_cV0i (pc := 627) hX lL_78 (c_X11_cover hX.F σ6 a95 h95) (jd_dd hD rfl) (Nat.le_of_ble_eq_true rfl) dL_law_627 h95 (fun r96 σ96 p96 => ?_)
          refine jr_ald2 (pc := 630) hX dL_law_630 ?_
          refine jr_ck0 (fun a97 e97 h97 => ?_)
          refine jr_cV0i (pc := 631) hX lL_81 (c_X13_cover hX.F σ96 a97 h97) (jd_dd hD rfl) (Nat.le_of_ble_eq_true rfl) dL_law_631 h97 (fun r98 σ98 p98 => ?_)
          refine jr_iceq (pc := 634) hX 1728 dL_law_634 (by decide) ?_ ?_
          · refine jr_inc4 (pc := 1728) hX 6 rfl (jn_r _ _) dL_law_1728 ?_
            refine jr_goto (pc := 1731) hX 23 dL_law_1731 (by decide) ?_
            exact bk6 (s6 + 6) _
          · refine jr_iconst (pc := 637) hX 0 rfl dL_law_637 ?_
            exact jr_zret (pc := 638) hX dL_law_638 (Or.inl rfl) ((wr6 _ _).trans rfl)
        | 15, h1, h2 =>
          cases h1
          cases h2
          refine jr_ald1 (pc := 639) hX dL_law_639 ?_
          refine jr_ck0 (fun a99 e99 h99 => ?_)
          refine jr_cV0i (pc := 640) hX lL_82 (c_X11_covers hX.F σ6 a99 h99) (jd_dd hD rfl) (Nat.le_of_ble_eq_true rfl) dL_law_640 h99 (fun r100 σ100 p100 => ?_)
          refine jr_ald2 (pc := 643) hX dL_law_643 ?_
          refine jr_ck0 (fun a101 e101 h101 => ?_)
          refine jr_cV0i (pc := 644) hX lL_85 (c_X13_covers hX.F σ100 a101 h101) (jd_dd hD rfl) (Nat.le_of_ble_eq_true rfl) dL_law_644 h101 (fun r102 σ102 p102 => ?_)
          refine jr_iceq (pc := 647) hX 1728 dL_law_647 (by decide) ?_ ?_
          · refine jr_inc4 (pc := 1728) hX 6 rfl (jn_r _ _) dL_law_1728 ?_
            refine jr_goto (pc := 1731) hX 23 dL_law_1731 (by decide) ?_
            exact bk6 (s6 + 6) _
          · refine jr_iconst (pc := 650) hX 0 rfl dL_law_650 ?_
            exact jr_zret (pc := 651) hX dL_law_651 (Or.inl rfl) ((wr6 _ _).trans rfl)
        | 16, h1, h2 =>
          cases h1
          cases h2
          refine jr_ald1 (pc := 652) hX dL_law_652 ?_
          refine jr_ck0 (fun a103 e103 h103 => ?_)
          refine jr_cV0i (pc := 653) hX lL_86 (c_X11_bestPost hX.F σ6 a103 h103) (jd_dd hD rfl) (Nat.le_of_ble_eq_true rfl) dL_law_653 h103 (fun r104 σ104 p104 => ?_)
          refine jr_ald2 (pc := 656) hX dL_law_656 ?_
          refine jr_ck0 (fun a105 e105 h105 => ?_)
          refine jr_cV0i (pc := 657) hX lL_89 (c_X13_bestPost hX.F σ104 a105 h105) (jd_dd hD rfl) (Nat.le_of_ble_eq_true rfl) dL_law_657 h105 (fun r106 σ106 p106 => ?_)
          refine jr_iceq (pc := 660) hX 1728 dL_law_660 (by decide) ?_ ?_
          · refine jr_inc4 (pc := 1728) hX 6 rfl (jn_r _ _) dL_law_1728 ?_
            refine jr_goto (pc := 1731) hX 23 dL_law_1731 (by decide) ?_
            exact bk6 (s6 + 6) _
          · refine jr_iconst (pc := 663) hX 0 rfl dL_law_663 ?_
            exact jr_zret (pc := 664) hX dL_law_664 (Or.inl rfl) ((wr6 _ _).trans rfl)
        | 17, h1, h2 =>
          cases h1
          cases h2
          refine jr_ald1 (pc := 665) hX dL_law_665 ?_
          refine jr_rld0 (pc := 666) hX dL_law_666 ?_
          refine jr_ild4 (pc := 667) hX dL_law_667 ?_
          refine jr_iconst (pc := 669) hX 1 rfl dL_law_669 ?_
          refine jr_iadd (pc := 670) hX dL_law_670 ?_
          refine jr_sldC (pc := 671) hX hsc dL_law_671 ?_
          refine jr_ck1 (fun a108 e108 h108 => ?_)
          refine jr_cV1i (pc := 672) hX lL_90 (c_X11_bestPlace hX.F σ6 a108 h108 _) (jd_dd hD rfl) (Nat.le_of_ble_eq_true rfl) dL_law_672 h108 (fun r109 σ109 p109 => ?_)
          refine jr_ald2 (pc := 675) hX dL_law_675 ?_
          refine jr_rld0 (pc := 676) hX dL_law_676 ?_
          refine jr_ild4 (pc := 677) hX dL_law_677 ?_
          refine jr_iconst (pc := 679) hX 1 rfl dL_law_679 ?_
          refine jr_iadd (pc := 680) hX dL_law_680 ?_
          refine jr_sldC (pc := 681) hX hsc dL_law_681 ?_
          refine jr_ck1 (fun a111 e111 h111 => ?_)
          refine jr_cV1i (pc := 682) hX lL_93 (c_X13_bestPlace hX.F σ109 a111 h111 _) (jd_dd hD rfl) (Nat.le_of_ble_eq_true rfl) dL_law_682 h111 (fun r112 σ112 p112 => ?_)
          refine jr_iceq (pc := 685) hX 1728 dL_law_685 (by decide) ?_ ?_
          · refine jr_inc4 (pc := 1728) hX 6 rfl (jn_r _ _) dL_law_1728 ?_
            refine jr_goto (pc := 1731) hX 23 dL_law_1731 (by decide) ?_
            exact bk6 (s6 + 6) _
          · refine jr_iconst (pc := 688) hX 0 rfl dL_law_688 ?_
            exact jr_zret (pc := 689) hX dL_law_689 (Or.inl rfl) ((wr6 _ _).trans rfl)
        | 18, h1, h2 =>
          cases h1
          cases h2
          refine jr_ald1 (pc := 690) hX dL_law_690 ?_
          refine jr_ck0 (fun a113 e113 h113 => ?_)
          refine jr_cV0i (pc := 691) hX lL_94 (c_X11_limitFor hX.F σ6 a113 h113) (jd_dd hD rfl) (Nat.le_of_ble_eq_true rfl) dL_law_691 h113 (fun r114 σ114 p114 => ?_)
          refine jr_ald2 (pc := 694) hX dL_law_694 ?_
          refine jr_ck0 (fun a115 e115 h115 => ?_)
          refine jr_cV0i (pc := 695) hX lL_97 (c_X13_limitFor hX.F σ114 a115 h115) (jd_dd hD rfl) (Nat.le_of_ble_eq_true rfl) dL_law_695 h115 (fun r116 σ116 p116 => ?_)
          refine jr_iceq (pc := 698) hX 1728 dL_law_698 (by decide) ?_ ?_
          · refine jr_inc4 (pc := 1728) hX 6 rfl (jn_r _ _) dL_law_1728 ?_
            refine jr_goto (pc := 1731) hX 23 dL_law_1731 (by decide) ?_
            exact bk6 (s6 + 6) _
          · refine jr_iconst (pc := 701) hX 0 rfl dL_law_701 ?_
            exact jr_zret (pc := 702) hX dL_law_702 (Or.inl rfl) ((wr6 _ _).trans rfl)
        | 19, h1, h2 =>
          cases h1
          cases h2
          refine jr_ald1 (pc := 703) hX dL_law_703 ?_
          refine jr_rld0 (pc := 704) hX dL_law_704 ?_
          refine jr_ild4 (pc := 705) hX dL_law_705 ?_
          refine jr_iconst (pc := 707) hX 1 rfl dL_law_707 ?_
          refine jr_iadd (pc := 708) hX dL_law_708 ?_
          refine jr_sldC (pc := 709) hX hsc dL_law_709 ?_
          refine jr_ck1 (fun a118 e118 h118 => ?_)
          refine jr_cV1i (pc := 710) hX lL_98 (c_X11_alone hX.F σ6 a118 h118 _) (jd_dd hD rfl) (Nat.le_of_ble_eq_true rfl) dL_law_710 h118 (fun r119 σ119 p119 => ?_)
          refine jr_ald2 (pc := 713) hX dL_law_713 ?_
          refine jr_rld0 (pc := 714) hX dL_law_714 ?_
          refine jr_ild4 (pc := 715) hX dL_law_715 ?_
          refine jr_iconst (pc := 717) hX 1 rfl dL_law_717 ?_
          refine jr_iadd (pc := 718) hX dL_law_718 ?_
          refine jr_sldC (pc := 719) hX hsc dL_law_719 ?_
          refine jr_ck1 (fun a121 e121 h121 => ?_)
          refine jr_cV1i (pc := 720) hX lL_101 (c_X13_alone hX.F σ119 a121 h121 _) (jd_dd hD rfl) (Nat.le_of_ble_eq_true rfl) dL_law_720 h121 (fun r122 σ122 p122 => ?_)
          refine jr_iceq (pc := 723) hX 1728 dL_law_723 (by decide) ?_ ?_
          · refine jr_inc4 (pc := 1728) hX 6 rfl (jn_r _ _) dL_law_1728 ?_
            refine jr_goto (pc := 1731) hX 23 dL_law_1731 (by decide) ?_
            exact bk6 (s6 + 6) _
          · refine jr_iconst (pc := 726) hX 0 rfl dL_law_726 ?_
            exact jr_zret (pc := 727) hX dL_law_727 (Or.inl rfl) ((wr6 _ _).trans rfl)
        | 20, h1, h2 =>
          cases h1
          cases h2
          refine jr_ald1 (pc := 728) hX dL_law_728 ?_
          refine jr_rld0 (pc := 729) hX dL_law_729 ?_
          refine jr_ild4 (pc := 730) hX dL_law_730 ?_
          refine jr_iconst (pc := 732) hX 1 rfl dL_law_732 ?_
          refine jr_iadd (pc := 733) hX dL_law_733 ?_
          refine jr_sldC (pc := 734) hX hsc dL_law_734 ?_
          refine jr_rld0 (pc := 735) hX dL_law_735 ?_
          refine jr_ild4 (pc := 736) hX dL_law_736 ?_
          refine jr_iconst (pc := 738) hX 2 rfl dL_law_738 ?_
          refine jr_iadd (pc := 739) hX dL_law_739 ?_
          refine jr_sldC (pc := 740) hX hsc dL_law_740 ?_
          refine jr_ck2 (fun a125 e125 h125 => ?_)
          refine jr_cV2i (pc := 741) hX lL_102 (c_X11_aloneAt hX.F σ6 a125 h125 _ _) (jd_dd hD rfl) (Nat.le_of_ble_eq_true rfl) dL_law_741 h125 (fun r126 σ126 p126 => ?_)
          refine jr_ald2 (pc := 744) hX dL_law_744 ?_
          refine jr_rld0 (pc := 745) hX dL_law_745 ?_
          refine jr_ild4 (pc := 746) hX dL_law_746 ?_
          refine jr_iconst (pc := 748) hX 1 rfl dL_law_748 ?_
          refine jr_iadd (pc := 749) hX dL_law_749 ?_
          refine jr_sldC (pc := 750) hX hsc dL_law_750 ?_
          refine jr_rld0 (pc := 751) hX dL_law_751 ?_
          refine jr_ild4 (pc := 752) hX dL_law_752 ?_
          refine jr_iconst (pc := 754) hX 2 rfl dL_law_754 ?_
          refine jr_iadd (pc := 755) hX dL_law_755 ?_
          refine jr_sldC (pc := 756) hX hsc dL_law_756 ?_
          refine jr_ck2 (fun a129 e129 h129 => ?_)
          refine jr_cV2i (pc := 757) hX lL_105 (c_X13_aloneAt hX.F σ126 a129 h129 _ _) (jd_dd hD rfl) (Nat.le_of_ble_eq_true rfl) dL_law_757 h129 (fun r130 σ130 p130 => ?_)
          refine jr_iceq (pc := 760) hX 1728 dL_law_760 (by decide) ?_ ?_
          · refine jr_inc4 (pc := 1728) hX 6 rfl (jn_r _ _) dL_law_1728 ?_
            refine jr_goto (pc := 1731) hX 23 dL_law_1731 (by decide) ?_
            exact bk6 (s6 + 6) _
          · refine jr_iconst (pc := 763) hX 0 rfl dL_law_763 ?_
            exact jr_zret (pc := 764) hX dL_law_764 (Or.inl rfl) ((wr6 _ _).trans rfl)
        | 21, h1, h2 =>
          cases h1
          cases h2
          refine jr_ald1 (pc := 765) hX dL_law_765 ?_
          refine jr_rld0 (pc := 766) hX dL_law_766 ?_
          refine jr_ild4 (pc := 767) hX dL_law_767 ?_
          refine jr_iconst (pc := 769) hX 1 rfl dL_law_769 ?_
          refine jr_iadd (pc := 770) hX dL_law_770 ?_
          refine jr_sldC (pc := 771) hX hsc dL_law_771 ?_
          refine jr_ck1 (fun a132 e132 h132 => ?_)
          refine jr_cV1i (pc := 772) hX lL_106 (c_X11_aloneFree hX.F σ6 a132 h132 _) (jd_dd hD rfl) (Nat.le_of_ble_eq_true rfl) dL_law_772 h132 (fun r133 σ133 p133 => ?_)
          refine jr_ald2 (pc := 775) hX dL_law_775 ?_
          refine jr_rld0 (pc := 776) hX dL_law_776 ?_
          refine jr_ild4 (pc := 777) hX dL_law_777 ?_
          refine jr_iconst (pc := 779) hX 1 rfl dL_law_779 ?_
          refine jr_iadd (pc := 780) hX dL_law_780 ?_
          refine jr_sldC (pc := 781) hX hsc dL_law_781 ?_
          refine jr_ck1 (fun a135 e135 h135 => ?_)
          refine jr_cV1i (pc := 782) hX lL_109 (c_X13_aloneFree hX.F σ133 a135 h135 _) (jd_dd hD rfl) (Nat.le_of_ble_eq_true rfl) dL_law_782 h135 (fun r136 σ136 p136 => ?_)
          refine jr_iceq (pc := 785) hX 1728 dL_law_785 (by decide) ?_ ?_
          · refine jr_inc4 (pc := 1728) hX 6 rfl (jn_r _ _) dL_law_1728 ?_
            refine jr_goto (pc := 1731) hX 23 dL_law_1731 (by decide) ?_
            exact bk6 (s6 + 6) _
          · refine jr_iconst (pc := 788) hX 0 rfl dL_law_788 ?_
            exact jr_zret (pc := 789) hX dL_law_789 (Or.inl rfl) ((wr6 _ _).trans rfl)
        | 22, h1, h2 =>
          cases h1
          cases h2
          refine jr_ald1 (pc := 790) hX dL_law_790 ?_
          refine jr_ck0 (fun a137 e137 h137 => ?_)
          refine jr_cV0i (pc := 791) hX lL_110 (c_X11_bestAlone hX.F σ6 a137 h137) (jd_dd hD rfl) (Nat.le_of_ble_eq_true rfl) dL_law_791 h137 (fun r138 σ138 p138 => ?_)
          refine jr_ald2 (pc := 794) hX dL_law_794 ?_
          refine jr_ck0 (fun a139 e139 h139 => ?_)
          refine jr_cV0i (pc := 795) hX lL_113 (c_X13_bestAlone hX.F σ138 a139 h139) (jd_dd hD rfl) (Nat.le_of_ble_eq_true rfl) dL_law_795 h139 (fun r140 σ140 p140 => ?_)
          refine jr_iceq (pc := 798) hX 1728 dL_law_798 (by decide) ?_ ?_
          · refine jr_inc4 (pc := 1728) hX 6 rfl (jn_r _ _) dL_law_1728 ?_
            refine jr_goto (pc := 1731) hX 23 dL_law_1731 (by decide) ?_
            exact bk6 (s6 + 6) _
          · refine jr_iconst (pc := 801) hX 0 rfl dL_law_801 ?_
            exact jr_zret (pc := 802) hX dL_law_802 (Or.inl rfl) ((wr6 _ _).trans rfl)
        | 23, h1, h2 =>
          cases h1
          cases h2
          refine jr_ald1 (pc := 803) hX dL_law_803 ?_
          refine jr_ck0 (fun a141 e141 h141 => ?_)
          refine jr_cV0i (pc := 804) hX lL_114 (c_X11_seats hX.F σ6 a141 h141) (jd_dd hD rfl) (Nat.le_of_ble_eq_true rfl) dL_law_804 h141 (fun r142 σ142 p142 => ?_)
          refine jr_ald2 (pc := 807) hX dL_law_807 ?_
          refine jr_ck0 (fun a143 e143 h143 => ?_)
          refine jr_cV0i (pc := 808) hX lL_117 (c_X13_seats hX.F σ142 a143 h143) (jd_dd hD rfl) (Nat.le_of_ble_eq_true rfl) dL_law_808 h143 (fun r144 σ144 p144 => ?_)
          refine jr_iceq (pc := 811) hX 1728 dL_law_811 (by decide) ?_ ?_
          · refine jr_inc4 (pc := 1728) hX 6 rfl (jn_r _ _) dL_law_1728 ?_
            refine jr_goto (pc := 1731) hX 23 dL_law_1731 (by decide) ?_
            exact bk6 (s6 + 6) _
          · refine jr_iconst (pc := 814) hX 0 rfl dL_law_814 ?_
            exact jr_zret (pc := 815) hX dL_law_815 (Or.inl rfl) ((wr6 _ _).trans rfl)
        | 24, h1, h2 =>
          cases h1
          cases h2
          refine jr_ald1 (pc := 816) hX dL_law_816 ?_
          refine jr_rld0 (pc := 817) hX dL_law_817 ?_
          refine jr_ild4 (pc := 818) hX dL_law_818 ?_
          refine jr_iconst (pc := 820) hX 1 rfl dL_law_820 ?_
          refine jr_iadd (pc := 821) hX dL_law_821 ?_
          refine jr_sldC (pc := 822) hX hsc dL_law_822 ?_
          refine jr_ck1 (fun a146 e146 h146 => ?_)
          refine jr_cV1i (pc := 823) hX lL_118 (c_X11_seatOf hX.F σ6 a146 h146 _) (jd_dd hD rfl) (Nat.le_of_ble_eq_true rfl) dL_law_823 h146 (fun r147 σ147 p147 => ?_)
          refine jr_ald2 (pc := 826) hX dL_law_826 ?_
          refine jr_rld0 (pc := 827) hX dL_law_827 ?_
          refine jr_ild4 (pc := 828) hX dL_law_828 ?_
          refine jr_iconst (pc := 830) hX 1 rfl dL_law_830 ?_
          refine jr_iadd (pc := 831) hX dL_law_831 ?_
          refine jr_sldC (pc := 832) hX hsc dL_law_832 ?_
          refine jr_ck1 (fun a149 e149 h149 => ?_)
          refine jr_cV1i (pc := 833) hX lL_121 (c_X13_seatOf hX.F σ147 a149 h149 _) (jd_dd hD rfl) (Nat.le_of_ble_eq_true rfl) dL_law_833 h149 (fun r150 σ150 p150 => ?_)
          refine jr_iceq (pc := 836) hX 1728 dL_law_836 (by decide) ?_ ?_
          · refine jr_inc4 (pc := 1728) hX 6 rfl (jn_r _ _) dL_law_1728 ?_
            refine jr_goto (pc := 1731) hX 23 dL_law_1731 (by decide) ?_
            exact bk6 (s6 + 6) _
          · refine jr_iconst (pc := 839) hX 0 rfl dL_law_839 ?_
            exact jr_zret (pc := 840) hX dL_law_840 (Or.inl rfl) ((wr6 _ _).trans rfl)
        | 25, h1, h2 =>
          cases h1
          cases h2
          refine jr_ald1 (pc := 841) hX dL_law_841 ?_
          refine jr_rld0 (pc := 842) hX dL_law_842 ?_
          refine jr_ild4 (pc := 843) hX dL_law_843 ?_
          refine jr_iconst (pc := 845) hX 1 rfl dL_law_845 ?_
          refine jr_iadd (pc := 846) hX dL_law_846 ?_
          refine jr_sldC (pc := 847) hX hsc dL_law_847 ?_
          refine jr_ck1 (fun a152 e152 h152 => ?_)
          refine jr_cV1i (pc := 848) hX lL_122 (c_X11_company hX.F σ6 a152 h152 _) (jd_dd hD rfl) (Nat.le_of_ble_eq_true rfl) dL_law_848 h152 (fun r153 σ153 p153 => ?_)
          refine jr_ald2 (pc := 851) hX dL_law_851 ?_
          refine jr_rld0 (pc := 852) hX dL_law_852 ?_
          refine jr_ild4 (pc := 853) hX dL_law_853 ?_
          refine jr_iconst (pc := 855) hX 1 rfl dL_law_855 ?_
          refine jr_iadd (pc := 856) hX dL_law_856 ?_
          refine jr_sldC (pc := 857) hX hsc dL_law_857 ?_
          refine jr_ck1 (fun a155 e155 h155 => ?_)
          refine jr_cV1i (pc := 858) hX lL_125 (c_X13_company hX.F σ153 a155 h155 _) (jd_dd hD rfl) (Nat.le_of_ble_eq_true rfl) dL_law_858 h155 (fun r156 σ156 p156 => ?_)
          refine jr_iceq (pc := 861) hX 1728 dL_law_861 (by decide) ?_ ?_
          · refine jr_inc4 (pc := 1728) hX 6 rfl (jn_r _ _) dL_law_1728 ?_
            refine jr_goto (pc := 1731) hX 23 dL_law_1731 (by decide) ?_
            exact bk6 (s6 + 6) _
          · refine jr_iconst (pc := 864) hX 0 rfl dL_law_864 ?_
            exact jr_zret (pc := 865) hX dL_law_865 (Or.inl rfl) ((wr6 _ _).trans rfl)
        | 26, h1, h2 =>
          cases h1
          cases h2
          refine jr_ald1 (pc := 866) hX dL_law_866 ?_
          refine jr_rld0 (pc := 867) hX dL_law_867 ?_
          refine jr_ild4 (pc := 868) hX dL_law_868 ?_
          refine jr_iconst (pc := 870) hX 1 rfl dL_law_870 ?_
          refine jr_iadd (pc := 871) hX dL_law_871 ?_
          refine jr_sldC (pc := 872) hX hsc dL_law_872 ?_
          refine jr_rld0 (pc := 873) hX dL_law_873 ?_
          refine jr_ild4 (pc := 874) hX dL_law_874 ?_
          refine jr_iconst (pc := 876) hX 2 rfl dL_law_876 ?_
          refine jr_iadd (pc := 877) hX dL_law_877 ?_
          refine jr_sldC (pc := 878) hX hsc dL_law_878 ?_
          refine jr_join (pc := 879) 887 (fun (t159 : Int32) => [some (.ref b), some (jd_v (jd_gG X) (some σ.1.length)), some (jd_v (jd_gG X) (some σ2.1.length)), some (jd_v (jd_gG X) (some σ4.1.length)), some (.int s6), none, none]) (fun (t159 : Int32) => [.int t159, .int (xs ((s6 + 1).toNatClampNeg)), jd_v (jd_gG X) (some σ.1.length)]) (fun t159 σ159 => ?_) (fun K159 jj159 => ?_)
          · refine jr_ck2 (fun a160 e160 h160 => ?_)
            refine jr_cV2l (pc := 887) hX lL_126 (c_X11_odds hX.F σ159 a160 h160 _ _) (jd_dd hD rfl) (Nat.le_of_ble_eq_true rfl) dL_law_887 h160 (fun r161 σ161 p161 => ?_)
            refine jr_ald2 (pc := 890) hX dL_law_890 ?_
            refine jr_rld0 (pc := 891) hX dL_law_891 ?_
            refine jr_ild4 (pc := 892) hX dL_law_892 ?_
            refine jr_iconst (pc := 894) hX 1 rfl dL_law_894 ?_
            refine jr_iadd (pc := 895) hX dL_law_895 ?_
            refine jr_sldC (pc := 896) hX hsc dL_law_896 ?_
            refine jr_rld0 (pc := 897) hX dL_law_897 ?_
            refine jr_ild4 (pc := 898) hX dL_law_898 ?_
            refine jr_iconst (pc := 900) hX 2 rfl dL_law_900 ?_
            refine jr_iadd (pc := 901) hX dL_law_901 ?_
            refine jr_sldC (pc := 902) hX hsc dL_law_902 ?_
            refine jr_join (pc := 903) 911 (fun (t164 : Int32) => [some (.ref b), some (jd_v (jd_gG X) (some σ.1.length)), some (jd_v (jd_gG X) (some σ2.1.length)), some (jd_v (jd_gG X) (some σ4.1.length)), some (.int s6), none, none]) (fun (t164 : Int32) => [.int t164, .int (xs ((s6 + 1).toNatClampNeg)), jd_v (jd_gG X) (some σ2.1.length), .long r161]) (fun t164 σ164 => ?_) (fun K164 jj164 => ?_)
            · refine jr_ck2 (fun a165 e165 h165 => ?_)
              refine jr_cV2l (pc := 911) hX lL_130 (c_X13_odds hX.F σ164 a165 h165 _ _) (jd_dd hD rfl) (Nat.le_of_ble_eq_true rfl) dL_law_911 h165 (fun r166 σ166 p166 => ?_)
              refine jr_lcmp (pc := 914) hX dL_law_914 ?_
              refine jr_ifeq (pc := 915) hX 1728 dL_law_915 (by decide) ?_ ?_
              · refine jr_inc4 (pc := 1728) hX 6 rfl (jn_r _ _) dL_law_1728 ?_
                refine jr_goto (pc := 1731) hX 23 dL_law_1731 (by decide) ?_
                exact bk6 (s6 + 6) _
              · refine jr_iconst (pc := 918) hX 0 rfl dL_law_918 ?_
                exact jr_zret (pc := 919) hX dL_law_919 (Or.inl rfl) ((wr6 _ _).trans rfl)
            · refine jr_ifeq (pc := 903) hX 910 dL_law_903 (by decide) ?_ ?_
              · refine jr_iconst (pc := 910) hX 0 rfl dL_law_910 ?_
                exact jj164 0 _
              · refine jr_iconst (pc := 906) hX 1 rfl dL_law_906 ?_
                refine jr_goto (pc := 907) hX 911 dL_law_907 (by decide) ?_
                exact jj164 1 _
          · refine jr_ifeq (pc := 879) hX 886 dL_law_879 (by decide) ?_ ?_
            · refine jr_iconst (pc := 886) hX 0 rfl dL_law_886 ?_
              exact jj159 0 _
            · refine jr_iconst (pc := 882) hX 1 rfl dL_law_882 ?_
              refine jr_goto (pc := 883) hX 887 dL_law_883 (by decide) ?_
              exact jj159 1 _
        | 27, h1, h2 =>
          cases h1
          cases h2
          refine jr_ald1 (pc := 920) hX dL_law_920 ?_
          refine jr_ck0 (fun a167 e167 h167 => ?_)
          refine jr_cV0i (pc := 921) hX lL_131 (c_X11_likeliest hX.F σ6 a167 h167) (jd_dd hD rfl) (Nat.le_of_ble_eq_true rfl) dL_law_921 h167 (fun r168 σ168 p168 => ?_)
          refine jr_ald2 (pc := 924) hX dL_law_924 ?_
          refine jr_ck0 (fun a169 e169 h169 => ?_)
          refine jr_cV0i (pc := 925) hX lL_134 (c_X13_likeliest hX.F σ168 a169 h169) (jd_dd hD rfl) (Nat.le_of_ble_eq_true rfl) dL_law_925 h169 (fun r170 σ170 p170 => ?_)
          refine jr_iceq (pc := 928) hX 1728 dL_law_928 (by decide) ?_ ?_
          · refine jr_inc4 (pc := 1728) hX 6 rfl (jn_r _ _) dL_law_1728 ?_
            refine jr_goto (pc := 1731) hX 23 dL_law_1731 (by decide) ?_
            exact bk6 (s6 + 6) _
          · refine jr_iconst (pc := 931) hX 0 rfl dL_law_931 ?_
            exact jr_zret (pc := 932) hX dL_law_932 (Or.inl rfl) ((wr6 _ _).trans rfl)
        | 28, h1, h2 =>
          cases h1
          cases h2
          refine jr_ald1 (pc := 933) hX dL_law_933 ?_
          refine jr_rld0 (pc := 934) hX dL_law_934 ?_
          refine jr_ild4 (pc := 935) hX dL_law_935 ?_
          refine jr_iconst (pc := 937) hX 1 rfl dL_law_937 ?_
          refine jr_iadd (pc := 938) hX dL_law_938 ?_
          refine jr_sldC (pc := 939) hX hsc dL_law_939 ?_
          refine jr_rld0 (pc := 940) hX dL_law_940 ?_
          refine jr_ild4 (pc := 941) hX dL_law_941 ?_
          refine jr_iconst (pc := 943) hX 2 rfl dL_law_943 ?_
          refine jr_iadd (pc := 944) hX dL_law_944 ?_
          refine jr_sldC (pc := 945) hX hsc dL_law_945 ?_
          refine jr_join (pc := 946) 954 (fun (t173 : Int32) => [some (.ref b), some (jd_v (jd_gG X) (some σ.1.length)), some (jd_v (jd_gG X) (some σ2.1.length)), some (jd_v (jd_gG X) (some σ4.1.length)), some (.int s6), none, none]) (fun (t173 : Int32) => [.int t173, .int (xs ((s6 + 1).toNatClampNeg)), jd_v (jd_gG X) (some σ.1.length)]) (fun t173 σ173 => ?_) (fun K173 jj173 => ?_)
          · refine jr_ck2 (fun a174 e174 h174 => ?_)
            refine jr_cV2l (pc := 954) hX lL_135 (c_X11_among hX.F σ173 a174 h174 _ _) (jd_dd hD rfl) (Nat.le_of_ble_eq_true rfl) dL_law_954 h174 (fun r175 σ175 p175 => ?_)
            refine jr_ald2 (pc := 957) hX dL_law_957 ?_
            refine jr_rld0 (pc := 958) hX dL_law_958 ?_
            refine jr_ild4 (pc := 959) hX dL_law_959 ?_
            refine jr_iconst (pc := 961) hX 1 rfl dL_law_961 ?_
            refine jr_iadd (pc := 962) hX dL_law_962 ?_
            refine jr_sldC (pc := 963) hX hsc dL_law_963 ?_
            refine jr_rld0 (pc := 964) hX dL_law_964 ?_
            refine jr_ild4 (pc := 965) hX dL_law_965 ?_
            refine jr_iconst (pc := 967) hX 2 rfl dL_law_967 ?_
            refine jr_iadd (pc := 968) hX dL_law_968 ?_
            refine jr_sldC (pc := 969) hX hsc dL_law_969 ?_
            refine jr_join (pc := 970) 978 (fun (t178 : Int32) => [some (.ref b), some (jd_v (jd_gG X) (some σ.1.length)), some (jd_v (jd_gG X) (some σ2.1.length)), some (jd_v (jd_gG X) (some σ4.1.length)), some (.int s6), none, none]) (fun (t178 : Int32) => [.int t178, .int (xs ((s6 + 1).toNatClampNeg)), jd_v (jd_gG X) (some σ2.1.length), .long r175]) (fun t178 σ178 => ?_) (fun K178 jj178 => ?_)
            · refine jr_ck2 (fun a179 e179 h179 => ?_)
              refine jr_cV2l (pc := 978) hX lL_138 (c_X13_among hX.F σ178 a179 h179 _ _) (jd_dd hD rfl) (Nat.le_of_ble_eq_true rfl) dL_law_978 h179 (fun r180 σ180 p180 => ?_)
              refine jr_lcmp (pc := 981) hX dL_law_981 ?_
              refine jr_ifeq (pc := 982) hX 1728 dL_law_982 (by decide) ?_ ?_
              · refine jr_inc4 (pc := 1728) hX 6 rfl (jn_r _ _) dL_law_1728 ?_
                refine jr_goto (pc := 1731) hX 23 dL_law_1731 (by decide) ?_
                exact bk6 (s6 + 6) _
              · refine jr_iconst (pc := 985) hX 0 rfl dL_law_985 ?_
                exact jr_zret (pc := 986) hX dL_law_986 (Or.inl rfl) ((wr6 _ _).trans rfl)
            · refine jr_ifeq (pc := 970) hX 977 dL_law_970 (by decide) ?_ ?_
              · refine jr_iconst (pc := 977) hX 0 rfl dL_law_977 ?_
                exact jj178 0 _
              · refine jr_iconst (pc := 973) hX 1 rfl dL_law_973 ?_
                refine jr_goto (pc := 974) hX 978 dL_law_974 (by decide) ?_
                exact jj178 1 _
          · refine jr_ifeq (pc := 946) hX 953 dL_law_946 (by decide) ?_ ?_
            · refine jr_iconst (pc := 953) hX 0 rfl dL_law_953 ?_
              exact jj173 0 _
            · refine jr_iconst (pc := 949) hX 1 rfl dL_law_949 ?_
              refine jr_goto (pc := 950) hX 954 dL_law_950 (by decide) ?_
              exact jj173 1 _
        | 29, h1, h2 =>
          cases h1
          cases h2
          refine jr_ald1 (pc := 987) hX dL_law_987 ?_
          refine jr_ck0 (fun a181 e181 h181 => ?_)
          refine jr_cV0i (pc := 988) hX lL_139 (c_X11_suspects hX.F σ6 a181 h181) (jd_dd hD rfl) (Nat.le_of_ble_eq_true rfl) dL_law_988 h181 (fun r182 σ182 p182 => ?_)
          refine jr_ald2 (pc := 991) hX dL_law_991 ?_
          refine jr_ck0 (fun a183 e183 h183 => ?_)
          refine jr_cV0i (pc := 992) hX lL_142 (c_X13_suspects hX.F σ182 a183 h183) (jd_dd hD rfl) (Nat.le_of_ble_eq_true rfl) dL_law_992 h183 (fun r184 σ184 p184 => ?_)
          refine jr_iceq (pc := 995) hX 1728 dL_law_995 (by decide) ?_ ?_
          · refine jr_inc4 (pc := 1728) hX 6 rfl (jn_r _ _) dL_law_1728 ?_
            refine jr_goto (pc := 1731) hX 23 dL_law_1731 (by decide) ?_
            exact bk6 (s6 + 6) _
          · refine jr_iconst (pc := 998) hX 0 rfl dL_law_998 ?_
            exact jr_zret (pc := 999) hX dL_law_999 (Or.inl rfl) ((wr6 _ _).trans rfl)
        | 30, h1, h2 =>
          cases h1
          cases h2
          refine jr_ald1 (pc := 1000) hX dL_law_1000 ?_
          refine jr_rld0 (pc := 1001) hX dL_law_1001 ?_
          refine jr_ild4 (pc := 1002) hX dL_law_1002 ?_
          refine jr_iconst (pc := 1004) hX 1 rfl dL_law_1004 ?_
          refine jr_iadd (pc := 1005) hX dL_law_1005 ?_
          refine jr_sldC (pc := 1006) hX hsc dL_law_1006 ?_
          refine jr_ck1 (fun a186 e186 h186 => ?_)
          refine jr_cV1i (pc := 1007) hX lL_143 (c_X11_flag hX.F σ6 a186 h186 _) (jd_dd hD rfl) (Nat.le_of_ble_eq_true rfl) dL_law_1007 h186 (fun r187 σ187 p187 => ?_)
          refine jr_ald2 (pc := 1010) hX dL_law_1010 ?_
          refine jr_rld0 (pc := 1011) hX dL_law_1011 ?_
          refine jr_ild4 (pc := 1012) hX dL_law_1012 ?_
          refine jr_iconst (pc := 1014) hX 1 rfl dL_law_1014 ?_
          refine jr_iadd (pc := 1015) hX dL_law_1015 ?_
          refine jr_sldC (pc := 1016) hX hsc dL_law_1016 ?_
          refine jr_ck1 (fun a189 e189 h189 => ?_)
          refine jr_cV1i (pc := 1017) hX lL_146 (c_X13_flag hX.F σ187 a189 h189 _) (jd_dd hD rfl) (Nat.le_of_ble_eq_true rfl) dL_law_1017 h189 (fun r190 σ190 p190 => ?_)
          refine jr_iceq (pc := 1020) hX 1728 dL_law_1020 (by decide) ?_ ?_
          · refine jr_inc4 (pc := 1728) hX 6 rfl (jn_r _ _) dL_law_1728 ?_
            refine jr_goto (pc := 1731) hX 23 dL_law_1731 (by decide) ?_
            exact bk6 (s6 + 6) _
          · refine jr_iconst (pc := 1023) hX 0 rfl dL_law_1023 ?_
            exact jr_zret (pc := 1024) hX dL_law_1024 (Or.inl rfl) ((wr6 _ _).trans rfl)
        | 31, h1, h2 =>
          cases h1
          cases h2
          refine jr_ald1 (pc := 1025) hX dL_law_1025 ?_
          refine jr_ck0 (fun a191 e191 h191 => ?_)
          refine jr_cV0i (pc := 1026) hX lL_147 (c_X11_teach hX.F σ6 a191 h191) (jd_dd hD rfl) (Nat.le_of_ble_eq_true rfl) dL_law_1026 h191 (fun r192 σ192 p192 => ?_)
          refine jr_ald2 (pc := 1029) hX dL_law_1029 ?_
          refine jr_ck0 (fun a193 e193 h193 => ?_)
          refine jr_cV0i (pc := 1030) hX lL_150 (c_X13_teach hX.F σ192 a193 h193) (jd_dd hD rfl) (Nat.le_of_ble_eq_true rfl) dL_law_1030 h193 (fun r194 σ194 p194 => ?_)
          refine jr_iceq (pc := 1033) hX 1728 dL_law_1033 (by decide) ?_ ?_
          · refine jr_inc4 (pc := 1728) hX 6 rfl (jn_r _ _) dL_law_1728 ?_
            refine jr_goto (pc := 1731) hX 23 dL_law_1731 (by decide) ?_
            exact bk6 (s6 + 6) _
          · refine jr_iconst (pc := 1036) hX 0 rfl dL_law_1036 ?_
            exact jr_zret (pc := 1037) hX dL_law_1037 (Or.inl rfl) ((wr6 _ _).trans rfl)
        | 32, h1, h2 =>
          cases h1
          cases h2
          refine jr_ald1 (pc := 1038) hX dL_law_1038 ?_
          refine jr_rld0 (pc := 1039) hX dL_law_1039 ?_
          refine jr_ild4 (pc := 1040) hX dL_law_1040 ?_
          refine jr_iconst (pc := 1042) hX 1 rfl dL_law_1042 ?_
          refine jr_iadd (pc := 1043) hX dL_law_1043 ?_
          refine jr_sldC (pc := 1044) hX hsc dL_law_1044 ?_
          refine jr_ck1 (fun a196 e196 h196 => ?_)
          refine jr_cV1i (pc := 1045) hX lL_151 (c_X11_hears hX.F σ6 a196 h196 _) (jd_dd hD rfl) (Nat.le_of_ble_eq_true rfl) dL_law_1045 h196 (fun r197 σ197 p197 => ?_)
          refine jr_ald2 (pc := 1048) hX dL_law_1048 ?_
          refine jr_rld0 (pc := 1049) hX dL_law_1049 ?_
          refine jr_ild4 (pc := 1050) hX dL_law_1050 ?_
          refine jr_iconst (pc := 1052) hX 1 rfl dL_law_1052 ?_
          refine jr_iadd (pc := 1053) hX dL_law_1053 ?_
          refine jr_sldC (pc := 1054) hX hsc dL_law_1054 ?_
          refine jr_ck1 (fun a199 e199 h199 => ?_)
          refine jr_cV1i (pc := 1055) hX lL_154 (c_X13_hears hX.F σ197 a199 h199 _) (jd_dd hD rfl) (Nat.le_of_ble_eq_true rfl) dL_law_1055 h199 (fun r200 σ200 p200 => ?_)
          refine jr_iceq (pc := 1058) hX 1728 dL_law_1058 (by decide) ?_ ?_
          · refine jr_inc4 (pc := 1728) hX 6 rfl (jn_r _ _) dL_law_1728 ?_
            refine jr_goto (pc := 1731) hX 23 dL_law_1731 (by decide) ?_
            exact bk6 (s6 + 6) _
          · refine jr_iconst (pc := 1061) hX 0 rfl dL_law_1061 ?_
            exact jr_zret (pc := 1062) hX dL_law_1062 (Or.inl rfl) ((wr6 _ _).trans rfl)
        | 33, h1, h2 =>
          cases h1
          cases h2
          refine jr_ald1 (pc := 1063) hX dL_law_1063 ?_
          refine jr_rld0 (pc := 1064) hX dL_law_1064 ?_
          refine jr_ild4 (pc := 1065) hX dL_law_1065 ?_
          refine jr_iconst (pc := 1067) hX 1 rfl dL_law_1067 ?_
          refine jr_iadd (pc := 1068) hX dL_law_1068 ?_
          refine jr_sldC (pc := 1069) hX hsc dL_law_1069 ?_
          refine jr_rld0 (pc := 1070) hX dL_law_1070 ?_
          refine jr_ild4 (pc := 1071) hX dL_law_1071 ?_
          refine jr_iconst (pc := 1073) hX 2 rfl dL_law_1073 ?_
          refine jr_iadd (pc := 1074) hX dL_law_1074 ?_
          refine jr_sldC (pc := 1075) hX hsc dL_law_1075 ?_
          refine jr_join (pc := 1076) 1084 (fun (t203 : Int32) => [some (.ref b), some (jd_v (jd_gG X) (some σ.1.length)), some (jd_v (jd_gG X) (some σ2.1.length)), some (jd_v (jd_gG X) (some σ4.1.length)), some (.int s6), none, none]) (fun (t203 : Int32) => [.int t203, .int (xs ((s6 + 1).toNatClampNeg)), jd_v (jd_gG X) (some σ.1.length)]) (fun t203 σ203 => ?_) (fun K203 jj203 => ?_)
          · refine jr_rld0 (pc := 1084) hX dL_law_1084 ?_
            refine jr_ild4 (pc := 1085) hX dL_law_1085 ?_
            refine jr_iconst (pc := 1087) hX 3 rfl dL_law_1087 ?_
            refine jr_iadd (pc := 1088) hX dL_law_1088 ?_
            refine jr_sldC (pc := 1089) hX hsc dL_law_1089 ?_
            refine jr_join (pc := 1090) 1098 (fun (t205 : Int32) => [some (.ref b), some (jd_v (jd_gG X) (some σ.1.length)), some (jd_v (jd_gG X) (some σ2.1.length)), some (jd_v (jd_gG X) (some σ4.1.length)), some (.int s6), none, none]) (fun (t205 : Int32) => [.int t205, .int t203, .int (xs ((s6 + 1).toNatClampNeg)), jd_v (jd_gG X) (some σ.1.length)]) (fun t205 σ205 => ?_) (fun K205 jj205 => ?_)
            · refine jr_rld0 (pc := 1098) hX dL_law_1098 ?_
              refine jr_ild4 (pc := 1099) hX dL_law_1099 ?_
              refine jr_iconst (pc := 1101) hX 4 rfl dL_law_1101 ?_
              refine jr_iadd (pc := 1102) hX dL_law_1102 ?_
              refine jr_sldC (pc := 1103) hX hsc dL_law_1103 ?_
              refine jr_join (pc := 1104) 1112 (fun (t207 : Int32) => [some (.ref b), some (jd_v (jd_gG X) (some σ.1.length)), some (jd_v (jd_gG X) (some σ2.1.length)), some (jd_v (jd_gG X) (some σ4.1.length)), some (.int s6), none, none]) (fun (t207 : Int32) => [.int t207, .int t205, .int t203, .int (xs ((s6 + 1).toNatClampNeg)), jd_v (jd_gG X) (some σ.1.length)]) (fun t207 σ207 => ?_) (fun K207 jj207 => ?_)
              · refine jr_ck4 (fun a208 e208 h208 => ?_)
                refine jr_cV4i (pc := 1112) hX lL_155 (c_X11_looks hX.F σ207 a208 h208 _ _ _ _) (jd_dd hD rfl) (Nat.le_of_ble_eq_true rfl) dL_law_1112 h208 (fun r209 σ209 p209 => ?_)
                refine jr_ald2 (pc := 1115) hX dL_law_1115 ?_
                refine jr_rld0 (pc := 1116) hX dL_law_1116 ?_
                refine jr_ild4 (pc := 1117) hX dL_law_1117 ?_
                refine jr_iconst (pc := 1119) hX 1 rfl dL_law_1119 ?_
                refine jr_iadd (pc := 1120) hX dL_law_1120 ?_
                refine jr_sldC (pc := 1121) hX hsc dL_law_1121 ?_
                refine jr_rld0 (pc := 1122) hX dL_law_1122 ?_
                refine jr_ild4 (pc := 1123) hX dL_law_1123 ?_
                refine jr_iconst (pc := 1125) hX 2 rfl dL_law_1125 ?_
                refine jr_iadd (pc := 1126) hX dL_law_1126 ?_
                refine jr_sldC (pc := 1127) hX hsc dL_law_1127 ?_
                refine jr_join (pc := 1128) 1136 (fun (t212 : Int32) => [some (.ref b), some (jd_v (jd_gG X) (some σ.1.length)), some (jd_v (jd_gG X) (some σ2.1.length)), some (jd_v (jd_gG X) (some σ4.1.length)), some (.int s6), none, none]) (fun (t212 : Int32) => [.int t212, .int (xs ((s6 + 1).toNatClampNeg)), jd_v (jd_gG X) (some σ2.1.length), .int r209]) (fun t212 σ212 => ?_) (fun K212 jj212 => ?_)
                · refine jr_rld0 (pc := 1136) hX dL_law_1136 ?_
                  refine jr_ild4 (pc := 1137) hX dL_law_1137 ?_
                  refine jr_iconst (pc := 1139) hX 3 rfl dL_law_1139 ?_
                  refine jr_iadd (pc := 1140) hX dL_law_1140 ?_
                  refine jr_sldC (pc := 1141) hX hsc dL_law_1141 ?_
                  refine jr_join (pc := 1142) 1150 (fun (t214 : Int32) => [some (.ref b), some (jd_v (jd_gG X) (some σ.1.length)), some (jd_v (jd_gG X) (some σ2.1.length)), some (jd_v (jd_gG X) (some σ4.1.length)), some (.int s6), none, none]) (fun (t214 : Int32) => [.int t214, .int t212, .int (xs ((s6 + 1).toNatClampNeg)), jd_v (jd_gG X) (some σ2.1.length), .int r209]) (fun t214 σ214 => ?_) (fun K214 jj214 => ?_)
                  · refine jr_rld0 (pc := 1150) hX dL_law_1150 ?_
                    refine jr_ild4 (pc := 1151) hX dL_law_1151 ?_
                    refine jr_iconst (pc := 1153) hX 4 rfl dL_law_1153 ?_
                    refine jr_iadd (pc := 1154) hX dL_law_1154 ?_
                    refine jr_sldC (pc := 1155) hX hsc dL_law_1155 ?_
                    refine jr_ifeq (pc := 1156) hX 1163 dL_law_1156 (by decide) ?_ ?_
                    · refine jr_iconst (pc := 1163) hX 0 rfl dL_law_1163 ?_
                      refine jr_ck4 (fun a216 e216 h216 => ?_)
                      refine jr_cV4i (pc := 1164) hX lL_159 (c_X13_looks hX.F σ214 a216 h216 _ _ _ _) (jd_dd hD rfl) (Nat.le_of_ble_eq_true rfl) dL_law_1164 h216 (fun r217 σ217 p217 => ?_)
                      refine jr_iceq (pc := 1167) hX 1728 dL_law_1167 (by decide) ?_ ?_
                      · refine jr_inc4 (pc := 1728) hX 6 rfl (jn_r _ _) dL_law_1728 ?_
                        refine jr_goto (pc := 1731) hX 23 dL_law_1731 (by decide) ?_
                        exact bk6 (s6 + 6) _
                      · refine jr_iconst (pc := 1170) hX 0 rfl dL_law_1170 ?_
                        exact jr_zret (pc := 1171) hX dL_law_1171 (Or.inl rfl) ((wr6 _ _).trans rfl)
                    · refine jr_iconst (pc := 1159) hX 1 rfl dL_law_1159 ?_
                      refine jr_goto (pc := 1160) hX 1164 dL_law_1160 (by decide) ?_
                      refine jr_ck4 (fun a218 e218 h218 => ?_)
                      refine jr_cV4i (pc := 1164) hX lL_159 (c_X13_looks hX.F σ214 a218 h218 _ _ _ _) (jd_dd hD rfl) (Nat.le_of_ble_eq_true rfl) dL_law_1164 h218 (fun r219 σ219 p219 => ?_)
                      refine jr_iceq (pc := 1167) hX 1728 dL_law_1167 (by decide) ?_ ?_
                      · refine jr_inc4 (pc := 1728) hX 6 rfl (jn_r _ _) dL_law_1728 ?_
                        refine jr_goto (pc := 1731) hX 23 dL_law_1731 (by decide) ?_
                        exact bk6 (s6 + 6) _
                      · refine jr_iconst (pc := 1170) hX 0 rfl dL_law_1170 ?_
                        exact jr_zret (pc := 1171) hX dL_law_1171 (Or.inl rfl) ((wr6 _ _).trans rfl)
                  · refine jr_ifeq (pc := 1142) hX 1149 dL_law_1142 (by decide) ?_ ?_
                    · refine jr_iconst (pc := 1149) hX 0 rfl dL_law_1149 ?_
                      exact jj214 0 _
                    · refine jr_iconst (pc := 1145) hX 1 rfl dL_law_1145 ?_
                      refine jr_goto (pc := 1146) hX 1150 dL_law_1146 (by decide) ?_
                      exact jj214 1 _
                · refine jr_ifeq (pc := 1128) hX 1135 dL_law_1128 (by decide) ?_ ?_
                  · refine jr_iconst (pc := 1135) hX 0 rfl dL_law_1135 ?_
                    exact jj212 0 _
                  · refine jr_iconst (pc := 1131) hX 1 rfl dL_law_1131 ?_
                    refine jr_goto (pc := 1132) hX 1136 dL_law_1132 (by decide) ?_
                    exact jj212 1 _
              · refine jr_ifeq (pc := 1104) hX 1111 dL_law_1104 (by decide) ?_ ?_
                · refine jr_iconst (pc := 1111) hX 0 rfl dL_law_1111 ?_
                  exact jj207 0 _
                · refine jr_iconst (pc := 1107) hX 1 rfl dL_law_1107 ?_
                  refine jr_goto (pc := 1108) hX 1112 dL_law_1108 (by decide) ?_
                  exact jj207 1 _
            · refine jr_ifeq (pc := 1090) hX 1097 dL_law_1090 (by decide) ?_ ?_
              · refine jr_iconst (pc := 1097) hX 0 rfl dL_law_1097 ?_
                exact jj205 0 _
              · refine jr_iconst (pc := 1093) hX 1 rfl dL_law_1093 ?_
                refine jr_goto (pc := 1094) hX 1098 dL_law_1094 (by decide) ?_
                exact jj205 1 _
          · refine jr_ifeq (pc := 1076) hX 1083 dL_law_1076 (by decide) ?_ ?_
            · refine jr_iconst (pc := 1083) hX 0 rfl dL_law_1083 ?_
              exact jj203 0 _
            · refine jr_iconst (pc := 1079) hX 1 rfl dL_law_1079 ?_
              refine jr_goto (pc := 1080) hX 1084 dL_law_1080 (by decide) ?_
              exact jj203 1 _
        | 34, h1, h2 =>
          cases h1
          cases h2
          refine jr_ald1 (pc := 1172) hX dL_law_1172 ?_
          refine jr_rld0 (pc := 1173) hX dL_law_1173 ?_
          refine jr_ild4 (pc := 1174) hX dL_law_1174 ?_
          refine jr_iconst (pc := 1176) hX 1 rfl dL_law_1176 ?_
          refine jr_iadd (pc := 1177) hX dL_law_1177 ?_
          refine jr_sldC (pc := 1178) hX hsc dL_law_1178 ?_
          refine jr_ck1 (fun a221 e221 h221 => ?_)
          refine jr_cV1i (pc := 1179) hX lL_160 (c_X11_rests hX.F σ6 a221 h221 _) (jd_dd hD rfl) (Nat.le_of_ble_eq_true rfl) dL_law_1179 h221 (fun r222 σ222 p222 => ?_)
          refine jr_ald2 (pc := 1182) hX dL_law_1182 ?_
          refine jr_rld0 (pc := 1183) hX dL_law_1183 ?_
          refine jr_ild4 (pc := 1184) hX dL_law_1184 ?_
          refine jr_iconst (pc := 1186) hX 1 rfl dL_law_1186 ?_
          refine jr_iadd (pc := 1187) hX dL_law_1187 ?_
          refine jr_sldC (pc := 1188) hX hsc dL_law_1188 ?_
          refine jr_ck1 (fun a224 e224 h224 => ?_)
          refine jr_cV1i (pc := 1189) hX lL_163 (c_X13_rests hX.F σ222 a224 h224 _) (jd_dd hD rfl) (Nat.le_of_ble_eq_true rfl) dL_law_1189 h224 (fun r225 σ225 p225 => ?_)
          refine jr_iceq (pc := 1192) hX 1728 dL_law_1192 (by decide) ?_ ?_
          · refine jr_inc4 (pc := 1728) hX 6 rfl (jn_r _ _) dL_law_1728 ?_
            refine jr_goto (pc := 1731) hX 23 dL_law_1731 (by decide) ?_
            exact bk6 (s6 + 6) _
          · refine jr_iconst (pc := 1195) hX 0 rfl dL_law_1195 ?_
            exact jr_zret (pc := 1196) hX dL_law_1196 (Or.inl rfl) ((wr6 _ _).trans rfl)
        | 35, h1, h2 =>
          cases h1
          cases h2
          refine jr_ald1 (pc := 1197) hX dL_law_1197 ?_
          refine jr_rld0 (pc := 1198) hX dL_law_1198 ?_
          refine jr_ild4 (pc := 1199) hX dL_law_1199 ?_
          refine jr_iconst (pc := 1201) hX 1 rfl dL_law_1201 ?_
          refine jr_iadd (pc := 1202) hX dL_law_1202 ?_
          refine jr_sldC (pc := 1203) hX hsc dL_law_1203 ?_
          refine jr_ck1 (fun a227 e227 h227 => ?_)
          refine jr_cV1i (pc := 1204) hX lL_164 (c_X11_rest hX.F σ6 a227 h227 _) (jd_dd hD rfl) (Nat.le_of_ble_eq_true rfl) dL_law_1204 h227 (fun r228 σ228 p228 => ?_)
          refine jr_ald2 (pc := 1207) hX dL_law_1207 ?_
          refine jr_rld0 (pc := 1208) hX dL_law_1208 ?_
          refine jr_ild4 (pc := 1209) hX dL_law_1209 ?_
          refine jr_iconst (pc := 1211) hX 1 rfl dL_law_1211 ?_
          refine jr_iadd (pc := 1212) hX dL_law_1212 ?_
          refine jr_sldC (pc := 1213) hX hsc dL_law_1213 ?_
          refine jr_ck1 (fun a230 e230 h230 => ?_)
          refine jr_cV1i (pc := 1214) hX lL_167 (c_X13_rest hX.F σ228 a230 h230 _) (jd_dd hD rfl) (Nat.le_of_ble_eq_true rfl) dL_law_1214 h230 (fun r231 σ231 p231 => ?_)
          refine jr_iceq (pc := 1217) hX 1728 dL_law_1217 (by decide) ?_ ?_
          · refine jr_inc4 (pc := 1728) hX 6 rfl (jn_r _ _) dL_law_1728 ?_
            refine jr_goto (pc := 1731) hX 23 dL_law_1731 (by decide) ?_
            exact bk6 (s6 + 6) _
          · refine jr_iconst (pc := 1220) hX 0 rfl dL_law_1220 ?_
            exact jr_zret (pc := 1221) hX dL_law_1221 (Or.inl rfl) ((wr6 _ _).trans rfl)
        | 36, h1, h2 =>
          cases h1
          cases h2
          refine jr_ald1 (pc := 1222) hX dL_law_1222 ?_
          refine jr_rld0 (pc := 1223) hX dL_law_1223 ?_
          refine jr_ild4 (pc := 1224) hX dL_law_1224 ?_
          refine jr_iconst (pc := 1226) hX 1 rfl dL_law_1226 ?_
          refine jr_iadd (pc := 1227) hX dL_law_1227 ?_
          refine jr_sldC (pc := 1228) hX hsc dL_law_1228 ?_
          refine jr_join (pc := 1229) 1237 (fun (t233 : Int32) => [some (.ref b), some (jd_v (jd_gG X) (some σ.1.length)), some (jd_v (jd_gG X) (some σ2.1.length)), some (jd_v (jd_gG X) (some σ4.1.length)), some (.int s6), none, none]) (fun (t233 : Int32) => [.int t233, jd_v (jd_gG X) (some σ.1.length)]) (fun t233 σ233 => ?_) (fun K233 jj233 => ?_)
          · refine jr_ck1 (fun a234 e234 h234 => ?_)
            refine jr_cV1l (pc := 1237) hX lL_168 (c_X11_safe hX.F σ233 a234 h234 _) (jd_dd hD rfl) (Nat.le_of_ble_eq_true rfl) dL_law_1237 h234 (fun r235 σ235 p235 => ?_)
            refine jr_ald2 (pc := 1240) hX dL_law_1240 ?_
            refine jr_rld0 (pc := 1241) hX dL_law_1241 ?_
            refine jr_ild4 (pc := 1242) hX dL_law_1242 ?_
            refine jr_iconst (pc := 1244) hX 1 rfl dL_law_1244 ?_
            refine jr_iadd (pc := 1245) hX dL_law_1245 ?_
            refine jr_sldC (pc := 1246) hX hsc dL_law_1246 ?_
            refine jr_join (pc := 1247) 1255 (fun (t237 : Int32) => [some (.ref b), some (jd_v (jd_gG X) (some σ.1.length)), some (jd_v (jd_gG X) (some σ2.1.length)), some (jd_v (jd_gG X) (some σ4.1.length)), some (.int s6), none, none]) (fun (t237 : Int32) => [.int t237, jd_v (jd_gG X) (some σ2.1.length), .long r235]) (fun t237 σ237 => ?_) (fun K237 jj237 => ?_)
            · refine jr_ck1 (fun a238 e238 h238 => ?_)
              refine jr_cV1l (pc := 1255) hX lL_172 (c_X13_safe hX.F σ237 a238 h238 _) (jd_dd hD rfl) (Nat.le_of_ble_eq_true rfl) dL_law_1255 h238 (fun r239 σ239 p239 => ?_)
              refine jr_lcmp (pc := 1258) hX dL_law_1258 ?_
              refine jr_ifeq (pc := 1259) hX 1728 dL_law_1259 (by decide) ?_ ?_
              · refine jr_inc4 (pc := 1728) hX 6 rfl (jn_r _ _) dL_law_1728 ?_
                refine jr_goto (pc := 1731) hX 23 dL_law_1731 (by decide) ?_
                exact bk6 (s6 + 6) _
              · refine jr_iconst (pc := 1262) hX 0 rfl dL_law_1262 ?_
                exact jr_zret (pc := 1263) hX dL_law_1263 (Or.inl rfl) ((wr6 _ _).trans rfl)
            · refine jr_ifeq (pc := 1247) hX 1254 dL_law_1247 (by decide) ?_ ?_
              · refine jr_iconst (pc := 1254) hX 0 rfl dL_law_1254 ?_
                exact jj237 0 _
              · refine jr_iconst (pc := 1250) hX 1 rfl dL_law_1250 ?_
                refine jr_goto (pc := 1251) hX 1255 dL_law_1251 (by decide) ?_
                exact jj237 1 _
          · refine jr_ifeq (pc := 1229) hX 1236 dL_law_1229 (by decide) ?_ ?_
            · refine jr_iconst (pc := 1236) hX 0 rfl dL_law_1236 ?_
              exact jj233 0 _
            · refine jr_iconst (pc := 1232) hX 1 rfl dL_law_1232 ?_
              refine jr_goto (pc := 1233) hX 1237 dL_law_1233 (by decide) ?_
              exact jj233 1 _
        | 37, h1, h2 =>
          cases h1
          cases h2
          refine jr_ald1 (pc := 1264) hX dL_law_1264 ?_
          refine jr_rld0 (pc := 1265) hX dL_law_1265 ?_
          refine jr_ild4 (pc := 1266) hX dL_law_1266 ?_
          refine jr_iconst (pc := 1268) hX 1 rfl dL_law_1268 ?_
          refine jr_iadd (pc := 1269) hX dL_law_1269 ?_
          refine jr_sldC (pc := 1270) hX hsc dL_law_1270 ?_
          refine jr_rld0 (pc := 1271) hX dL_law_1271 ?_
          refine jr_ild4 (pc := 1272) hX dL_law_1272 ?_
          refine jr_iconst (pc := 1274) hX 2 rfl dL_law_1274 ?_
          refine jr_iadd (pc := 1275) hX dL_law_1275 ?_
          refine jr_sldC (pc := 1276) hX hsc dL_law_1276 ?_
          refine jr_join (pc := 1277) 1285 (fun (t242 : Int32) => [some (.ref b), some (jd_v (jd_gG X) (some σ.1.length)), some (jd_v (jd_gG X) (some σ2.1.length)), some (jd_v (jd_gG X) (some σ4.1.length)), some (.int s6), none, none]) (fun (t242 : Int32) => [.int t242, .int (xs ((s6 + 1).toNatClampNeg)), jd_v (jd_gG X) (some σ.1.length)]) (fun t242 σ242 => ?_) (fun K242 jj242 => ?_)
          · refine jr_ck2 (fun a243 e243 h243 => ?_)
            refine jr_cV2l (pc := 1285) hX lL_173 (c_X11_sinking hX.F σ242 a243 h243 _ _) (jd_dd hD rfl) (Nat.le_of_ble_eq_true rfl) dL_law_1285 h243 (fun r244 σ244 p244 => ?_)
            refine jr_ald2 (pc := 1288) hX dL_law_1288 ?_
            refine jr_rld0 (pc := 1289) hX dL_law_1289 ?_
            refine jr_ild4 (pc := 1290) hX dL_law_1290 ?_
            refine jr_iconst (pc := 1292) hX 1 rfl dL_law_1292 ?_
            refine jr_iadd (pc := 1293) hX dL_law_1293 ?_
            refine jr_sldC (pc := 1294) hX hsc dL_law_1294 ?_
            refine jr_rld0 (pc := 1295) hX dL_law_1295 ?_
            refine jr_ild4 (pc := 1296) hX dL_law_1296 ?_
            refine jr_iconst (pc := 1298) hX 2 rfl dL_law_1298 ?_
            refine jr_iadd (pc := 1299) hX dL_law_1299 ?_
            refine jr_sldC (pc := 1300) hX hsc dL_law_1300 ?_
            refine jr_join (pc := 1301) 1309 (fun (t247 : Int32) => [some (.ref b), some (jd_v (jd_gG X) (some σ.1.length)), some (jd_v (jd_gG X) (some σ2.1.length)), some (jd_v (jd_gG X) (some σ4.1.length)), some (.int s6), none, none]) (fun (t247 : Int32) => [.int t247, .int (xs ((s6 + 1).toNatClampNeg)), jd_v (jd_gG X) (some σ2.1.length), .long r244]) (fun t247 σ247 => ?_) (fun K247 jj247 => ?_)
            · refine jr_ck2 (fun a248 e248 h248 => ?_)
              refine jr_cV2l (pc := 1309) hX lL_176 (c_X13_sinking hX.F σ247 a248 h248 _ _) (jd_dd hD rfl) (Nat.le_of_ble_eq_true rfl) dL_law_1309 h248 (fun r249 σ249 p249 => ?_)
              refine jr_lcmp (pc := 1312) hX dL_law_1312 ?_
              refine jr_ifeq (pc := 1313) hX 1728 dL_law_1313 (by decide) ?_ ?_
              · refine jr_inc4 (pc := 1728) hX 6 rfl (jn_r _ _) dL_law_1728 ?_
                refine jr_goto (pc := 1731) hX 23 dL_law_1731 (by decide) ?_
                exact bk6 (s6 + 6) _
              · refine jr_iconst (pc := 1316) hX 0 rfl dL_law_1316 ?_
                exact jr_zret (pc := 1317) hX dL_law_1317 (Or.inl rfl) ((wr6 _ _).trans rfl)
            · refine jr_ifeq (pc := 1301) hX 1308 dL_law_1301 (by decide) ?_ ?_
              · refine jr_iconst (pc := 1308) hX 0 rfl dL_law_1308 ?_
                exact jj247 0 _
              · refine jr_iconst (pc := 1304) hX 1 rfl dL_law_1304 ?_
                refine jr_goto (pc := 1305) hX 1309 dL_law_1305 (by decide) ?_
                exact jj247 1 _
          · refine jr_ifeq (pc := 1277) hX 1284 dL_law_1277 (by decide) ?_ ?_
            · refine jr_iconst (pc := 1284) hX 0 rfl dL_law_1284 ?_
              exact jj242 0 _
            · refine jr_iconst (pc := 1280) hX 1 rfl dL_law_1280 ?_
              refine jr_goto (pc := 1281) hX 1285 dL_law_1281 (by decide) ?_
              exact jj242 1 _
        | 38, h1, h2 =>
          cases h1
          cases h2
          refine jr_ald1 (pc := 1318) hX dL_law_1318 ?_
          refine jr_rld0 (pc := 1319) hX dL_law_1319 ?_
          refine jr_ild4 (pc := 1320) hX dL_law_1320 ?_
          refine jr_iconst (pc := 1322) hX 1 rfl dL_law_1322 ?_
          refine jr_iadd (pc := 1323) hX dL_law_1323 ?_
          refine jr_sldC (pc := 1324) hX hsc dL_law_1324 ?_
          refine jr_join (pc := 1325) 1333 (fun (t251 : Int32) => [some (.ref b), some (jd_v (jd_gG X) (some σ.1.length)), some (jd_v (jd_gG X) (some σ2.1.length)), some (jd_v (jd_gG X) (some σ4.1.length)), some (.int s6), none, none]) (fun (t251 : Int32) => [.int t251, jd_v (jd_gG X) (some σ.1.length)]) (fun t251 σ251 => ?_) (fun K251 jj251 => ?_)
          · refine jr_ck1 (fun a252 e252 h252 => ?_)
            refine jr_cV1l (pc := 1333) hX lL_177 (c_X11_mean hX.F σ251 a252 h252 _) (jd_dd hD rfl) (Nat.le_of_ble_eq_true rfl) dL_law_1333 h252 (fun r253 σ253 p253 => ?_)
            refine jr_ald2 (pc := 1336) hX dL_law_1336 ?_
            refine jr_rld0 (pc := 1337) hX dL_law_1337 ?_
            refine jr_ild4 (pc := 1338) hX dL_law_1338 ?_
            refine jr_iconst (pc := 1340) hX 1 rfl dL_law_1340 ?_
            refine jr_iadd (pc := 1341) hX dL_law_1341 ?_
            refine jr_sldC (pc := 1342) hX hsc dL_law_1342 ?_
            refine jr_join (pc := 1343) 1351 (fun (t255 : Int32) => [some (.ref b), some (jd_v (jd_gG X) (some σ.1.length)), some (jd_v (jd_gG X) (some σ2.1.length)), some (jd_v (jd_gG X) (some σ4.1.length)), some (.int s6), none, none]) (fun (t255 : Int32) => [.int t255, jd_v (jd_gG X) (some σ2.1.length), .long r253]) (fun t255 σ255 => ?_) (fun K255 jj255 => ?_)
            · refine jr_ck1 (fun a256 e256 h256 => ?_)
              refine jr_cV1l (pc := 1351) hX lL_180 (c_X13_mean hX.F σ255 a256 h256 _) (jd_dd hD rfl) (Nat.le_of_ble_eq_true rfl) dL_law_1351 h256 (fun r257 σ257 p257 => ?_)
              refine jr_lcmp (pc := 1354) hX dL_law_1354 ?_
              refine jr_ifeq (pc := 1355) hX 1728 dL_law_1355 (by decide) ?_ ?_
              · refine jr_inc4 (pc := 1728) hX 6 rfl (jn_r _ _) dL_law_1728 ?_
                refine jr_goto (pc := 1731) hX 23 dL_law_1731 (by decide) ?_
                exact bk6 (s6 + 6) _
              · refine jr_iconst (pc := 1358) hX 0 rfl dL_law_1358 ?_
                exact jr_zret (pc := 1359) hX dL_law_1359 (Or.inl rfl) ((wr6 _ _).trans rfl)
            · refine jr_ifeq (pc := 1343) hX 1350 dL_law_1343 (by decide) ?_ ?_
              · refine jr_iconst (pc := 1350) hX 0 rfl dL_law_1350 ?_
                exact jj255 0 _
              · refine jr_iconst (pc := 1346) hX 1 rfl dL_law_1346 ?_
                refine jr_goto (pc := 1347) hX 1351 dL_law_1347 (by decide) ?_
                exact jj255 1 _
          · refine jr_ifeq (pc := 1325) hX 1332 dL_law_1325 (by decide) ?_ ?_
            · refine jr_iconst (pc := 1332) hX 0 rfl dL_law_1332 ?_
              exact jj251 0 _
            · refine jr_iconst (pc := 1328) hX 1 rfl dL_law_1328 ?_
              refine jr_goto (pc := 1329) hX 1333 dL_law_1329 (by decide) ?_
              exact jj251 1 _
        | 39, h1, h2 =>
          cases h1
          cases h2
          refine jr_ald1 (pc := 1360) hX dL_law_1360 ?_
          refine jr_rld0 (pc := 1361) hX dL_law_1361 ?_
          refine jr_ild4 (pc := 1362) hX dL_law_1362 ?_
          refine jr_iconst (pc := 1364) hX 1 rfl dL_law_1364 ?_
          refine jr_iadd (pc := 1365) hX dL_law_1365 ?_
          refine jr_sldC (pc := 1366) hX hsc dL_law_1366 ?_
          refine jr_rld0 (pc := 1367) hX dL_law_1367 ?_
          refine jr_ild4 (pc := 1368) hX dL_law_1368 ?_
          refine jr_iconst (pc := 1370) hX 2 rfl dL_law_1370 ?_
          refine jr_iadd (pc := 1371) hX dL_law_1371 ?_
          refine jr_sldC (pc := 1372) hX hsc dL_law_1372 ?_
          refine jr_rld0 (pc := 1373) hX dL_law_1373 ?_
          refine jr_ild4 (pc := 1374) hX dL_law_1374 ?_
          refine jr_iconst (pc := 1376) hX 3 rfl dL_law_1376 ?_
          refine jr_iadd (pc := 1377) hX dL_law_1377 ?_
          refine jr_sldC (pc := 1378) hX hsc dL_law_1378 ?_
          refine jr_ck3 (fun a261 e261 h261 => ?_)
          refine jr_cV3i (pc := 1379) hX lL_181 (c_X11_afternoons hX.F σ6 a261 h261 _ _ _) (jd_dd hD rfl) (Nat.le_of_ble_eq_true rfl) dL_law_1379 h261 (fun r262 σ262 p262 => ?_)
          refine jr_ald2 (pc := 1382) hX dL_law_1382 ?_
          refine jr_rld0 (pc := 1383) hX dL_law_1383 ?_
          refine jr_ild4 (pc := 1384) hX dL_law_1384 ?_
          refine jr_iconst (pc := 1386) hX 1 rfl dL_law_1386 ?_
          refine jr_iadd (pc := 1387) hX dL_law_1387 ?_
          refine jr_sldC (pc := 1388) hX hsc dL_law_1388 ?_
          refine jr_rld0 (pc := 1389) hX dL_law_1389 ?_
          refine jr_ild4 (pc := 1390) hX dL_law_1390 ?_
          refine jr_iconst (pc := 1392) hX 2 rfl dL_law_1392 ?_
          refine jr_iadd (pc := 1393) hX dL_law_1393 ?_
          refine jr_sldC (pc := 1394) hX hsc dL_law_1394 ?_
          refine jr_rld0 (pc := 1395) hX dL_law_1395 ?_
          refine jr_ild4 (pc := 1396) hX dL_law_1396 ?_
          refine jr_iconst (pc := 1398) hX 3 rfl dL_law_1398 ?_
          refine jr_iadd (pc := 1399) hX dL_law_1399 ?_
          refine jr_sldC (pc := 1400) hX hsc dL_law_1400 ?_
          refine jr_ck3 (fun a266 e266 h266 => ?_)
          refine jr_cV3i (pc := 1401) hX lL_185 (c_X13_afternoons hX.F σ262 a266 h266 _ _ _) (jd_dd hD rfl) (Nat.le_of_ble_eq_true rfl) dL_law_1401 h266 (fun r267 σ267 p267 => ?_)
          refine jr_iceq (pc := 1404) hX 1728 dL_law_1404 (by decide) ?_ ?_
          · refine jr_inc4 (pc := 1728) hX 6 rfl (jn_r _ _) dL_law_1728 ?_
            refine jr_goto (pc := 1731) hX 23 dL_law_1731 (by decide) ?_
            exact bk6 (s6 + 6) _
          · refine jr_iconst (pc := 1407) hX 0 rfl dL_law_1407 ?_
            exact jr_zret (pc := 1408) hX dL_law_1408 (Or.inl rfl) ((wr6 _ _).trans rfl)
        | 40, h1, h2 =>
          cases h1
          cases h2
          refine jr_ald1 (pc := 1409) hX dL_law_1409 ?_
          refine jr_rld0 (pc := 1410) hX dL_law_1410 ?_
          refine jr_ild4 (pc := 1411) hX dL_law_1411 ?_
          refine jr_iconst (pc := 1413) hX 1 rfl dL_law_1413 ?_
          refine jr_iadd (pc := 1414) hX dL_law_1414 ?_
          refine jr_sldC (pc := 1415) hX hsc dL_law_1415 ?_
          refine jr_rld0 (pc := 1416) hX dL_law_1416 ?_
          refine jr_ild4 (pc := 1417) hX dL_law_1417 ?_
          refine jr_iconst (pc := 1419) hX 2 rfl dL_law_1419 ?_
          refine jr_iadd (pc := 1420) hX dL_law_1420 ?_
          refine jr_sldC (pc := 1421) hX hsc dL_law_1421 ?_
          refine jr_ck2 (fun a270 e270 h270 => ?_)
          refine jr_cV2i (pc := 1422) hX lL_186 (c_X11_worst hX.F σ6 a270 h270 _ _) (jd_dd hD rfl) (Nat.le_of_ble_eq_true rfl) dL_law_1422 h270 (fun r271 σ271 p271 => ?_)
          refine jr_ald2 (pc := 1425) hX dL_law_1425 ?_
          refine jr_rld0 (pc := 1426) hX dL_law_1426 ?_
          refine jr_ild4 (pc := 1427) hX dL_law_1427 ?_
          refine jr_iconst (pc := 1429) hX 1 rfl dL_law_1429 ?_
          refine jr_iadd (pc := 1430) hX dL_law_1430 ?_
          refine jr_sldC (pc := 1431) hX hsc dL_law_1431 ?_
          refine jr_rld0 (pc := 1432) hX dL_law_1432 ?_
          refine jr_ild4 (pc := 1433) hX dL_law_1433 ?_
          refine jr_iconst (pc := 1435) hX 2 rfl dL_law_1435 ?_
          refine jr_iadd (pc := 1436) hX dL_law_1436 ?_
          refine jr_sldC (pc := 1437) hX hsc dL_law_1437 ?_
          refine jr_ck2 (fun a274 e274 h274 => ?_)
          refine jr_cV2i (pc := 1438) hX lL_189 (c_X13_worst hX.F σ271 a274 h274 _ _) (jd_dd hD rfl) (Nat.le_of_ble_eq_true rfl) dL_law_1438 h274 (fun r275 σ275 p275 => ?_)
          refine jr_iceq (pc := 1441) hX 1728 dL_law_1441 (by decide) ?_ ?_
          · refine jr_inc4 (pc := 1728) hX 6 rfl (jn_r _ _) dL_law_1728 ?_
            refine jr_goto (pc := 1731) hX 23 dL_law_1731 (by decide) ?_
            exact bk6 (s6 + 6) _
          · refine jr_iconst (pc := 1444) hX 0 rfl dL_law_1444 ?_
            exact jr_zret (pc := 1445) hX dL_law_1445 (Or.inl rfl) ((wr6 _ _).trans rfl)
        | 41, h1, h2 =>
          cases h1
          cases h2
          refine jr_ald1 (pc := 1446) hX dL_law_1446 ?_
          refine jr_rld0 (pc := 1447) hX dL_law_1447 ?_
          refine jr_ild4 (pc := 1448) hX dL_law_1448 ?_
          refine jr_iconst (pc := 1450) hX 1 rfl dL_law_1450 ?_
          refine jr_iadd (pc := 1451) hX dL_law_1451 ?_
          refine jr_sldC (pc := 1452) hX hsc dL_law_1452 ?_
          refine jr_ck1 (fun a277 e277 h277 => ?_)
          refine jr_cV1i (pc := 1453) hX lL_190 (c_X11_man hX.F σ6 a277 h277 _) (jd_dd hD rfl) (Nat.le_of_ble_eq_true rfl) dL_law_1453 h277 (fun r278 σ278 p278 => ?_)
          refine jr_ald2 (pc := 1456) hX dL_law_1456 ?_
          refine jr_rld0 (pc := 1457) hX dL_law_1457 ?_
          refine jr_ild4 (pc := 1458) hX dL_law_1458 ?_
          refine jr_iconst (pc := 1460) hX 1 rfl dL_law_1460 ?_
          refine jr_iadd (pc := 1461) hX dL_law_1461 ?_
          refine jr_sldC (pc := 1462) hX hsc dL_law_1462 ?_
          refine jr_ck1 (fun a280 e280 h280 => ?_)
          refine jr_cV1i (pc := 1463) hX lL_194 (c_X13_man hX.F σ278 a280 h280 _) (jd_dd hD rfl) (Nat.le_of_ble_eq_true rfl) dL_law_1463 h280 (fun r281 σ281 p281 => ?_)
          refine jr_iceq (pc := 1466) hX 1728 dL_law_1466 (by decide) ?_ ?_
          · refine jr_inc4 (pc := 1728) hX 6 rfl (jn_r _ _) dL_law_1728 ?_
            refine jr_goto (pc := 1731) hX 23 dL_law_1731 (by decide) ?_
            exact bk6 (s6 + 6) _
          · refine jr_iconst (pc := 1469) hX 0 rfl dL_law_1469 ?_
            exact jr_zret (pc := 1470) hX dL_law_1470 (Or.inl rfl) ((wr6 _ _).trans rfl)
        | 42, h1, h2 =>
          cases h1
          cases h2
          refine jr_ald1 (pc := 1471) hX dL_law_1471 ?_
          refine jr_rld0 (pc := 1472) hX dL_law_1472 ?_
          refine jr_ild4 (pc := 1473) hX dL_law_1473 ?_
          refine jr_iconst (pc := 1475) hX 1 rfl dL_law_1475 ?_
          refine jr_iadd (pc := 1476) hX dL_law_1476 ?_
          refine jr_sldC (pc := 1477) hX hsc dL_law_1477 ?_
          refine jr_ck1 (fun a283 e283 h283 => ?_)
          refine jr_cV1i (pc := 1478) hX lL_195 (c_X11_leave hX.F σ6 a283 h283 _) (jd_dd hD rfl) (Nat.le_of_ble_eq_true rfl) dL_law_1478 h283 (fun r284 σ284 p284 => ?_)
          refine jr_ald2 (pc := 1481) hX dL_law_1481 ?_
          refine jr_rld0 (pc := 1482) hX dL_law_1482 ?_
          refine jr_ild4 (pc := 1483) hX dL_law_1483 ?_
          refine jr_iconst (pc := 1485) hX 1 rfl dL_law_1485 ?_
          refine jr_iadd (pc := 1486) hX dL_law_1486 ?_
          refine jr_sldC (pc := 1487) hX hsc dL_law_1487 ?_
          refine jr_ck1 (fun a286 e286 h286 => ?_)
          refine jr_cV1i (pc := 1488) hX lL_198 (c_X13_leave hX.F σ284 a286 h286 _) (jd_dd hD rfl) (Nat.le_of_ble_eq_true rfl) dL_law_1488 h286 (fun r287 σ287 p287 => ?_)
          refine jr_iceq (pc := 1491) hX 1728 dL_law_1491 (by decide) ?_ ?_
          · refine jr_inc4 (pc := 1728) hX 6 rfl (jn_r _ _) dL_law_1728 ?_
            refine jr_goto (pc := 1731) hX 23 dL_law_1731 (by decide) ?_
            exact bk6 (s6 + 6) _
          · refine jr_iconst (pc := 1494) hX 0 rfl dL_law_1494 ?_
            exact jr_zret (pc := 1495) hX dL_law_1495 (Or.inl rfl) ((wr6 _ _).trans rfl)
        | 43, h1, h2 =>
          cases h1
          cases h2
          refine jr_ald1 (pc := 1496) hX dL_law_1496 ?_
          refine jr_rld0 (pc := 1497) hX dL_law_1497 ?_
          refine jr_ild4 (pc := 1498) hX dL_law_1498 ?_
          refine jr_iconst (pc := 1500) hX 1 rfl dL_law_1500 ?_
          refine jr_iadd (pc := 1501) hX dL_law_1501 ?_
          refine jr_sldC (pc := 1502) hX hsc dL_law_1502 ?_
          refine jr_rld0 (pc := 1503) hX dL_law_1503 ?_
          refine jr_ild4 (pc := 1504) hX dL_law_1504 ?_
          refine jr_iconst (pc := 1506) hX 2 rfl dL_law_1506 ?_
          refine jr_iadd (pc := 1507) hX dL_law_1507 ?_
          refine jr_sldC (pc := 1508) hX hsc dL_law_1508 ?_
          refine jr_ck2 (fun a290 e290 h290 => ?_)
          refine jr_cV2i (pc := 1509) hX lL_199 (c_X11_seat hX.F σ6 a290 h290 _ _) (jd_dd hD rfl) (Nat.le_of_ble_eq_true rfl) dL_law_1509 h290 (fun r291 σ291 p291 => ?_)
          refine jr_ald2 (pc := 1512) hX dL_law_1512 ?_
          refine jr_rld0 (pc := 1513) hX dL_law_1513 ?_
          refine jr_ild4 (pc := 1514) hX dL_law_1514 ?_
          refine jr_iconst (pc := 1516) hX 1 rfl dL_law_1516 ?_
          refine jr_iadd (pc := 1517) hX dL_law_1517 ?_
          refine jr_sldC (pc := 1518) hX hsc dL_law_1518 ?_
          refine jr_rld0 (pc := 1519) hX dL_law_1519 ?_
          refine jr_ild4 (pc := 1520) hX dL_law_1520 ?_
          refine jr_iconst (pc := 1522) hX 2 rfl dL_law_1522 ?_
          refine jr_iadd (pc := 1523) hX dL_law_1523 ?_
          refine jr_sldC (pc := 1524) hX hsc dL_law_1524 ?_
          refine jr_ck2 (fun a294 e294 h294 => ?_)
          refine jr_cV2i (pc := 1525) hX lL_202 (c_X13_seat hX.F σ291 a294 h294 _ _) (jd_dd hD rfl) (Nat.le_of_ble_eq_true rfl) dL_law_1525 h294 (fun r295 σ295 p295 => ?_)
          refine jr_iceq (pc := 1528) hX 1728 dL_law_1528 (by decide) ?_ ?_
          · refine jr_inc4 (pc := 1728) hX 6 rfl (jn_r _ _) dL_law_1728 ?_
            refine jr_goto (pc := 1731) hX 23 dL_law_1731 (by decide) ?_
            exact bk6 (s6 + 6) _
          · refine jr_iconst (pc := 1531) hX 0 rfl dL_law_1531 ?_
            exact jr_zret (pc := 1532) hX dL_law_1532 (Or.inl rfl) ((wr6 _ _).trans rfl)
        | 44, h1, h2 =>
          cases h1
          cases h2
          refine jr_ald1 (pc := 1533) hX dL_law_1533 ?_
          refine jr_rld0 (pc := 1534) hX dL_law_1534 ?_
          refine jr_ild4 (pc := 1535) hX dL_law_1535 ?_
          refine jr_iconst (pc := 1537) hX 1 rfl dL_law_1537 ?_
          refine jr_iadd (pc := 1538) hX dL_law_1538 ?_
          refine jr_sldC (pc := 1539) hX hsc dL_law_1539 ?_
          refine jr_ck1 (fun a297 e297 h297 => ?_)
          refine jr_cV1i (pc := 1540) hX lL_203 (c_X11_minute hX.F σ6 a297 h297 _) (jd_dd hD rfl) (Nat.le_of_ble_eq_true rfl) dL_law_1540 h297 (fun r298 σ298 p298 => ?_)
          refine jr_ald2 (pc := 1543) hX dL_law_1543 ?_
          refine jr_rld0 (pc := 1544) hX dL_law_1544 ?_
          refine jr_ild4 (pc := 1545) hX dL_law_1545 ?_
          refine jr_iconst (pc := 1547) hX 1 rfl dL_law_1547 ?_
          refine jr_iadd (pc := 1548) hX dL_law_1548 ?_
          refine jr_sldC (pc := 1549) hX hsc dL_law_1549 ?_
          refine jr_ck1 (fun a300 e300 h300 => ?_)
          refine jr_cV1i (pc := 1550) hX lL_206 (c_X13_minute hX.F σ298 a300 h300 _) (jd_dd hD rfl) (Nat.le_of_ble_eq_true rfl) dL_law_1550 h300 (fun r301 σ301 p301 => ?_)
          refine jr_iceq (pc := 1553) hX 1728 dL_law_1553 (by decide) ?_ ?_
          · refine jr_inc4 (pc := 1728) hX 6 rfl (jn_r _ _) dL_law_1728 ?_
            refine jr_goto (pc := 1731) hX 23 dL_law_1731 (by decide) ?_
            exact bk6 (s6 + 6) _
          · refine jr_iconst (pc := 1556) hX 0 rfl dL_law_1556 ?_
            exact jr_zret (pc := 1557) hX dL_law_1557 (Or.inl rfl) ((wr6 _ _).trans rfl)
        | 45, h1, h2 =>
          cases h1
          cases h2
          refine jr_ald1 (pc := 1558) hX dL_law_1558 ?_
          refine jr_rld0 (pc := 1559) hX dL_law_1559 ?_
          refine jr_ild4 (pc := 1560) hX dL_law_1560 ?_
          refine jr_iconst (pc := 1562) hX 1 rfl dL_law_1562 ?_
          refine jr_iadd (pc := 1563) hX dL_law_1563 ?_
          refine jr_sldC (pc := 1564) hX hsc dL_law_1564 ?_
          refine jr_ck1 (fun a303 e303 h303 => ?_)
          refine jr_cV1i (pc := 1565) hX lL_207 (c_X11_lift hX.F σ6 a303 h303 _) (jd_dd hD rfl) (Nat.le_of_ble_eq_true rfl) dL_law_1565 h303 (fun r304 σ304 p304 => ?_)
          refine jr_ald2 (pc := 1568) hX dL_law_1568 ?_
          refine jr_rld0 (pc := 1569) hX dL_law_1569 ?_
          refine jr_ild4 (pc := 1570) hX dL_law_1570 ?_
          refine jr_iconst (pc := 1572) hX 1 rfl dL_law_1572 ?_
          refine jr_iadd (pc := 1573) hX dL_law_1573 ?_
          refine jr_sldC (pc := 1574) hX hsc dL_law_1574 ?_
          refine jr_ck1 (fun a306 e306 h306 => ?_)
          refine jr_cV1i (pc := 1575) hX lL_210 (c_X13_lift hX.F σ304 a306 h306 _) (jd_dd hD rfl) (Nat.le_of_ble_eq_true rfl) dL_law_1575 h306 (fun r307 σ307 p307 => ?_)
          refine jr_iceq (pc := 1578) hX 1728 dL_law_1578 (by decide) ?_ ?_
          · refine jr_inc4 (pc := 1728) hX 6 rfl (jn_r _ _) dL_law_1728 ?_
            refine jr_goto (pc := 1731) hX 23 dL_law_1731 (by decide) ?_
            exact bk6 (s6 + 6) _
          · refine jr_iconst (pc := 1581) hX 0 rfl dL_law_1581 ?_
            exact jr_zret (pc := 1582) hX dL_law_1582 (Or.inl rfl) ((wr6 _ _).trans rfl)
        | 46, h1, h2 =>
          cases h1
          cases h2
          refine jr_ald1 (pc := 1583) hX dL_law_1583 ?_
          refine jr_ck0 (fun a308 e308 h308 => ?_)
          refine jr_cV0i (pc := 1584) hX lL_211 (c_X11_undo hX.F σ6 a308 h308) (jd_dd hD rfl) (Nat.le_of_ble_eq_true rfl) dL_law_1584 h308 (fun r309 σ309 p309 => ?_)
          refine jr_ald2 (pc := 1587) hX dL_law_1587 ?_
          refine jr_ck0 (fun a310 e310 h310 => ?_)
          refine jr_cV0i (pc := 1588) hX lL_215 (c_X13_undo hX.F σ309 a310 h310) (jd_dd hD rfl) (Nat.le_of_ble_eq_true rfl) dL_law_1588 h310 (fun r311 σ311 p311 => ?_)
          refine jr_iceq (pc := 1591) hX 1728 dL_law_1591 (by decide) ?_ ?_
          · refine jr_inc4 (pc := 1728) hX 6 rfl (jn_r _ _) dL_law_1728 ?_
            refine jr_goto (pc := 1731) hX 23 dL_law_1731 (by decide) ?_
            exact bk6 (s6 + 6) _
          · refine jr_iconst (pc := 1594) hX 0 rfl dL_law_1594 ?_
            exact jr_zret (pc := 1595) hX dL_law_1595 (Or.inl rfl) ((wr6 _ _).trans rfl)
        | 47, h1, h2 =>
          cases h1
          cases h2
          refine jr_ald1 (pc := 1596) hX dL_law_1596 ?_
          refine jr_ck0 (fun a312 e312 h312 => ?_)
          refine jr_cV0i (pc := 1597) hX lL_216 (c_X11_image hX.F σ6 a312 h312) (jd_dd hD rfl) (Nat.le_of_ble_eq_true rfl) dL_law_1597 h312 (fun r313 σ313 p313 => ?_)
          refine jr_ald2 (pc := 1600) hX dL_law_1600 ?_
          refine jr_ck0 (fun a314 e314 h314 => ?_)
          refine jr_cV0i (pc := 1601) hX lL_219 (c_X13_image hX.F σ313 a314 h314) (jd_dd hD rfl) (Nat.le_of_ble_eq_true rfl) dL_law_1601 h314 (fun r315 σ315 p315 => ?_)
          refine jr_iceq (pc := 1604) hX 1728 dL_law_1604 (by decide) ?_ ?_
          · refine jr_inc4 (pc := 1728) hX 6 rfl (jn_r _ _) dL_law_1728 ?_
            refine jr_goto (pc := 1731) hX 23 dL_law_1731 (by decide) ?_
            exact bk6 (s6 + 6) _
          · refine jr_iconst (pc := 1607) hX 0 rfl dL_law_1607 ?_
            exact jr_zret (pc := 1608) hX dL_law_1608 (Or.inl rfl) ((wr6 _ _).trans rfl)
        | 48, h1, h2 =>
          cases h1
          cases h2
          refine jr_ald1 (pc := 1609) hX dL_law_1609 ?_
          refine jr_rld0 (pc := 1610) hX dL_law_1610 ?_
          refine jr_ild4 (pc := 1611) hX dL_law_1611 ?_
          refine jr_iconst (pc := 1613) hX 1 rfl dL_law_1613 ?_
          refine jr_iadd (pc := 1614) hX dL_law_1614 ?_
          refine jr_sldC (pc := 1615) hX hsc dL_law_1615 ?_
          refine jr_ck1 (fun a317 e317 h317 => ?_)
          refine jr_cV1i (pc := 1616) hX lL_220 (c_X11_back hX.F σ6 a317 h317 _) (jd_dd hD rfl) (Nat.le_of_ble_eq_true rfl) dL_law_1616 h317 (fun r318 σ318 p318 => ?_)
          refine jr_ald2 (pc := 1619) hX dL_law_1619 ?_
          refine jr_rld0 (pc := 1620) hX dL_law_1620 ?_
          refine jr_ild4 (pc := 1621) hX dL_law_1621 ?_
          refine jr_iconst (pc := 1623) hX 1 rfl dL_law_1623 ?_
          refine jr_iadd (pc := 1624) hX dL_law_1624 ?_
          refine jr_sldC (pc := 1625) hX hsc dL_law_1625 ?_
          refine jr_ck1 (fun a320 e320 h320 => ?_)
          refine jr_cV1i (pc := 1626) hX lL_223 (c_X13_back hX.F σ318 a320 h320 _) (jd_dd hD rfl) (Nat.le_of_ble_eq_true rfl) dL_law_1626 h320 (fun r321 σ321 p321 => ?_)
          refine jr_iceq (pc := 1629) hX 1728 dL_law_1629 (by decide) ?_ ?_
          · refine jr_inc4 (pc := 1728) hX 6 rfl (jn_r _ _) dL_law_1728 ?_
            refine jr_goto (pc := 1731) hX 23 dL_law_1731 (by decide) ?_
            exact bk6 (s6 + 6) _
          · refine jr_iconst (pc := 1632) hX 0 rfl dL_law_1632 ?_
            exact jr_zret (pc := 1633) hX dL_law_1633 (Or.inl rfl) ((wr6 _ _).trans rfl)
        | 49, h1, h2 =>
          cases h1
          cases h2
          refine jr_ald1 (pc := 1634) hX dL_law_1634 ?_
          refine jr_rld0 (pc := 1635) hX dL_law_1635 ?_
          refine jr_ild4 (pc := 1636) hX dL_law_1636 ?_
          refine jr_iconst (pc := 1638) hX 1 rfl dL_law_1638 ?_
          refine jr_iadd (pc := 1639) hX dL_law_1639 ?_
          refine jr_sldC (pc := 1640) hX hsc dL_law_1640 ?_
          refine jr_ald3 (pc := 1641) hX dL_law_1641 ?_
          refine jr_cLled (pc := 1642) hX hl (by omega) (Nat.le_of_ble_eq_true rfl) dL_law_1642 (fun r323 σ323 p323 => ?_)
          refine jr_ist5 (pc := 1645) hX (jn_i _) dL_law_1645 ?_
          refine jr_ald2 (pc := 1647) hX dL_law_1647 ?_
          refine jr_rld0 (pc := 1648) hX dL_law_1648 ?_
          refine jr_ild4 (pc := 1649) hX dL_law_1649 ?_
          refine jr_iconst (pc := 1651) hX 1 rfl dL_law_1651 ?_
          refine jr_iadd (pc := 1652) hX dL_law_1652 ?_
          refine jr_sldC (pc := 1653) hX hsc dL_law_1653 ?_
          refine jr_ck1 (fun a325 e325 h325 => ?_)
          refine jr_cV1i (pc := 1654) hX lL_229 (c_X13_led hX.F σ323 a325 h325 _) (jd_dd hD rfl) (Nat.le_of_ble_eq_true rfl) dL_law_1654 h325 (fun r326 σ326 p326 => ?_)
          refine jr_ist6 (pc := 1657) hX (jn_i _) dL_law_1657 ?_
          refine jr_ald2 (pc := 1659) hX dL_law_1659 ?_
          refine jr_ek0 e325 ?_
          refine jr_cV0i (pc := 1660) hX lL_230 (c_X13_thrown hX.F σ326 a325 (p326.at h325 :)) (jd_dd hD rfl) (Nat.le_of_ble_eq_true rfl) dL_law_1660 (p326.at h325 :) (fun r327 σ327 p327 => ?_)
          refine jr_ild5 (pc := 1663) hX dL_law_1663 ?_
          refine jr_iceq (pc := 1665) hX 1670 dL_law_1665 (by decide) ?_ ?_
          · refine jr_ild5 (pc := 1670) hX dL_law_1670 ?_
            refine jr_ifne (pc := 1672) hX 1687 dL_law_1672 (by decide) ?_ ?_
            · refine jr_goto (pc := 1687) hX 1728 dL_law_1687 (by decide) ?_
              refine jr_inc4 (pc := 1728) hX 6 rfl (jn_r _ _) dL_law_1728 ?_
              refine jr_goto (pc := 1731) hX 23 dL_law_1731 (by decide) ?_
              refine jr_wk [true, true, true, true, true, false, false] ?_
              exact bk6 (s6 + 6) _
            · refine jr_ald3 (pc := 1675) hX dL_law_1675 ?_
              refine jr_iconst (pc := 1676) hX 0 rfl dL_law_1676 ?_
              refine jr_laC (pc := 1677) hX dL_law_1677 (fun a328 n328 e328 h328 => ?_)
              refine jr_ild6 (pc := 1678) hX dL_law_1678 ?_
              refine jr_i2l (pc := 1680) hX dL_law_1680 ?_
              refine jr_lcmp (pc := 1681) hX dL_law_1681 ?_
              refine jr_ifeq (pc := 1682) hX 1687 dL_law_1682 (by decide) ?_ ?_
              · refine jr_goto (pc := 1687) hX 1728 dL_law_1687 (by decide) ?_
                refine jr_inc4 (pc := 1728) hX 6 rfl (jn_r _ _) dL_law_1728 ?_
                refine jr_goto (pc := 1731) hX 23 dL_law_1731 (by decide) ?_
                refine jr_wk [true, true, true, true, true, false, false] ?_
                exact bk6 (s6 + 6) _
              · refine jr_iconst (pc := 1685) hX 0 rfl dL_law_1685 ?_
                exact jr_zret (pc := 1686) hX dL_law_1686 (Or.inl rfl) ((wr6 _ _).trans rfl)
          · refine jr_iconst (pc := 1668) hX 0 rfl dL_law_1668 ?_
            exact jr_zret (pc := 1669) hX dL_law_1669 (Or.inl rfl) ((wr6 _ _).trans rfl)
        | 50, h1, h2 =>
          cases h1
          cases h2
          refine jr_ald1 (pc := 1690) hX dL_law_1690 ?_
          refine jr_rld0 (pc := 1691) hX dL_law_1691 ?_
          refine jr_ild4 (pc := 1692) hX dL_law_1692 ?_
          refine jr_iconst (pc := 1694) hX 1 rfl dL_law_1694 ?_
          refine jr_iadd (pc := 1695) hX dL_law_1695 ?_
          refine jr_sldC (pc := 1696) hX hsc dL_law_1696 ?_
          refine jr_ck1 (fun a330 e330 h330 => ?_)
          refine jr_cV1i (pc := 1697) hX lL_233 (c_X11_size hX.F σ6 a330 h330 _) (jd_dd hD rfl) (Nat.le_of_ble_eq_true rfl) dL_law_1697 h330 (fun r331 σ331 p331 => ?_)
          refine jr_ald2 (pc := 1700) hX dL_law_1700 ?_
          refine jr_rld0 (pc := 1701) hX dL_law_1701 ?_
          refine jr_ild4 (pc := 1702) hX dL_law_1702 ?_
          refine jr_iconst (pc := 1704) hX 1 rfl dL_law_1704 ?_
          refine jr_iadd (pc := 1705) hX dL_law_1705 ?_
          refine jr_sldC (pc := 1706) hX hsc dL_law_1706 ?_
          refine jr_ck1 (fun a333 e333 h333 => ?_)
          refine jr_cV1i (pc := 1707) hX lL_236 (c_X13_size hX.F σ331 a333 h333 _) (jd_dd hD rfl) (Nat.le_of_ble_eq_true rfl) dL_law_1707 h333 (fun r334 σ334 p334 => ?_)
          refine jr_iceq (pc := 1710) hX 1728 dL_law_1710 (by decide) ?_ ?_
          · refine jr_inc4 (pc := 1728) hX 6 rfl (jn_r _ _) dL_law_1728 ?_
            refine jr_goto (pc := 1731) hX 23 dL_law_1731 (by decide) ?_
            exact bk6 (s6 + 6) _
          · refine jr_iconst (pc := 1713) hX 0 rfl dL_law_1713 ?_
            exact jr_zret (pc := 1714) hX dL_law_1714 (Or.inl rfl) ((wr6 _ _).trans rfl)
        | 51, h1, h2 =>
          cases h1
          cases h2
          refine jr_ald1 (pc := 1715) hX dL_law_1715 ?_
          refine jr_ck0 (fun a335 e335 h335 => ?_)
          refine jr_cV0i (pc := 1716) hX lL_237 (c_X11_trouble hX.F σ6 a335 h335) (jd_dd hD rfl) (Nat.le_of_ble_eq_true rfl) dL_law_1716 h335 (fun r336 σ336 p336 => ?_)
          refine jr_ald2 (pc := 1719) hX dL_law_1719 ?_
          refine jr_ck0 (fun a337 e337 h337 => ?_)
          refine jr_cV0i (pc := 1720) hX lL_240 (c_X13_trouble hX.F σ336 a337 h337) (jd_dd hD rfl) (Nat.le_of_ble_eq_true rfl) dL_law_1720 h337 (fun r338 σ338 p338 => ?_)
          refine jr_iceq (pc := 1723) hX 1728 dL_law_1723 (by decide) ?_ ?_
          · refine jr_inc4 (pc := 1728) hX 6 rfl (jn_r _ _) dL_law_1728 ?_
            refine jr_goto (pc := 1731) hX 23 dL_law_1731 (by decide) ?_
            exact bk6 (s6 + 6) _
          · refine jr_iconst (pc := 1726) hX 0 rfl dL_law_1726 ?_
            exact jr_zret (pc := 1727) hX dL_law_1727 (Or.inl rfl) ((wr6 _ _).trans rfl)
        | i + 52, h1, h2 => simp at h1
      · refine jr_inc4 (pc := 1728) hX 6 rfl (jn_r _ _) dL_law_1728 ?_
        refine jr_goto (pc := 1731) hX 23 dL_law_1731 (by decide) ?_
        exact bk6 (s6 + 6) _
