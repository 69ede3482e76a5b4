/-! P (48): the law's calls -/
def lb_0 (L : Nat) (xs : Nat → Int32) (a b d : Nat) (s6 : Int32) (σ6 : jd_Hp) : Option ((Int32 ⊕ ((Unit) ⊕ Int32)) × jd_Hp) :=
jd_sx L (s6 + 1) fun j9 =>
jd_sx L (s6 + 2) fun j10 =>
jd_sx L (s6 + 3) fun j11 =>
jd_sx L (s6 + 4) fun j12 =>
jd_sx L (s6 + 5) fun j13 =>
jd_o σ6 (11, 12) (some a) fun a14 =>
jd_b (m_X11_feed a14 (xs j9) (xs j10) (xs j11) (xs j12) (xs j13) σ6) fun r15 σ15 =>
jd_sx L (s6 + 1) fun j16 =>
jd_sx L (s6 + 2) fun j17 =>
jd_sx L (s6 + 3) fun j18 =>
jd_sx L (s6 + 4) fun j19 =>
jd_sx L (s6 + 5) fun j20 =>
jd_o σ15 (13, 29) (some b) fun a21 =>
jd_b (m_X13_feed a21 (xs j16) (xs j17) (xs j18) (xs j19) (xs j20) σ15) fun r22 σ22 =>
jd_if (r15 = r22) (
some (Sum.inl (s6 + 6), σ22)) (
some (Sum.inr (Sum.inr 0), σ22))
def lb_1 (L : Nat) (xs : Nat → Int32) (a b d : Nat) (s6 : Int32) (σ6 : jd_Hp) : Option ((Int32 ⊕ ((Unit) ⊕ Int32)) × jd_Hp) :=
jd_sx L (s6 + 1) fun j23 =>
jd_o σ6 (11, 12) (some a) fun a24 =>
jd_b (m_X11_beach a24 (xs j23) σ6) fun r25 σ25 =>
jd_sx L (s6 + 1) fun j26 =>
jd_o σ25 (13, 29) (some b) fun a27 =>
jd_b (m_X13_beach a27 (xs j26) σ25) fun r28 σ28 =>
jd_if (r25 = r28) (
some (Sum.inl (s6 + 6), σ28)) (
some (Sum.inr (Sum.inr 0), σ28))
def lb_2 (L : Nat) (xs : Nat → Int32) (a b d : Nat) (s6 : Int32) (σ6 : jd_Hp) : Option ((Int32 ⊕ ((Unit) ⊕ Int32)) × jd_Hp) :=
jd_o σ6 (11, 12) (some a) fun a29 =>
jd_b (m_X11_fault a29 σ6) fun r30 σ30 =>
jd_o σ30 (13, 29) (some b) fun a31 =>
jd_b (m_X13_fault a31 σ30) fun r32 σ32 =>
jd_if (r30 = r32) (
some (Sum.inl (s6 + 6), σ32)) (
some (Sum.inr (Sum.inr 0), σ32))
def lb_3 (L : Nat) (xs : Nat → Int32) (a b d : Nat) (s6 : Int32) (σ6 : jd_Hp) : Option ((Int32 ⊕ ((Unit) ⊕ Int32)) × jd_Hp) :=
jd_o σ6 (11, 12) (some a) fun a33 =>
jd_b (m_X11_where a33 σ6) fun r34 σ34 =>
jd_o σ34 (13, 29) (some b) fun a35 =>
jd_b (m_X13_where a35 σ34) fun r36 σ36 =>
jd_if (r34 = r36) (
some (Sum.inl (s6 + 6), σ36)) (
some (Sum.inr (Sum.inr 0), σ36))
def lb_4 (L : Nat) (xs : Nat → Int32) (a b d : Nat) (s6 : Int32) (σ6 : jd_Hp) : Option ((Int32 ⊕ ((Unit) ⊕ Int32)) × jd_Hp) :=
jd_sx L (s6 + 1) fun j37 =>
jd_sx L (s6 + 2) fun j38 =>
jd_o σ6 (11, 12) (some a) fun a39 =>
jd_b (m_X11_person a39 (xs j37) (xs j38) σ6) fun r40 σ40 =>
jd_sx L (s6 + 1) fun j41 =>
jd_sx L (s6 + 2) fun j42 =>
jd_o σ40 (13, 29) (some b) fun a43 =>
jd_b (m_X13_person a43 (xs j41) (xs j42) σ40) fun r44 σ44 =>
jd_if (r40 = r44) (
some (Sum.inl (s6 + 6), σ44)) (
some (Sum.inr (Sum.inr 0), σ44))
def lb_5 (L : Nat) (xs : Nat → Int32) (a b d : Nat) (s6 : Int32) (σ6 : jd_Hp) : Option ((Int32 ⊕ ((Unit) ⊕ Int32)) × jd_Hp) :=
jd_sx L (s6 + 1) fun j45 =>
jd_sx L (s6 + 2) fun j46 =>
jd_o σ6 (11, 12) (some a) fun a47 =>
jd_b (m_X11_post a47 (xs j45) (xs j46) σ6) fun r48 σ48 =>
jd_sx L (s6 + 1) fun j49 =>
jd_sx L (s6 + 2) fun j50 =>
jd_o σ48 (13, 29) (some b) fun a51 =>
jd_b (m_X13_post a51 (xs j49) (xs j50) σ48) fun r52 σ52 =>
jd_if (r48 = r52) (
some (Sum.inl (s6 + 6), σ52)) (
some (Sum.inr (Sum.inr 0), σ52))
def lb_6 (L : Nat) (xs : Nat → Int32) (a b d : Nat) (s6 : Int32) (σ6 : jd_Hp) : Option ((Int32 ⊕ ((Unit) ⊕ Int32)) × jd_Hp) :=
jd_sx L (s6 + 1) fun j53 =>
jd_sx L (s6 + 2) fun j54 =>
jd_o σ6 (11, 12) (some a) fun a55 =>
jd_b (m_X11_time a55 (xs j53) (xs j54) σ6) fun r56 σ56 =>
jd_sx L (s6 + 1) fun j57 =>
jd_sx L (s6 + 2) fun j58 =>
jd_o σ56 (13, 29) (some b) fun a59 =>
jd_b (m_X13_time a59 (xs j57) (xs j58) σ56) fun r60 σ60 =>
jd_if (r56 = r60) (
some (Sum.inl (s6 + 6), σ60)) (
some (Sum.inr (Sum.inr 0), σ60))
def lb_7 (L : Nat) (xs : Nat → Int32) (a b d : Nat) (s6 : Int32) (σ6 : jd_Hp) : Option ((Int32 ⊕ ((Unit) ⊕ Int32)) × jd_Hp) :=
jd_o σ6 (11, 12) (some a) fun a61 =>
jd_b (m_X11_sinkers a61 σ6) fun r62 σ62 =>
jd_o σ62 (13, 29) (some b) fun a63 =>
jd_b (m_X13_sinkers a63 σ62) fun r64 σ64 =>
jd_if (r62 = r64) (
some (Sum.inl (s6 + 6), σ64)) (
some (Sum.inr (Sum.inr 0), σ64))
def lb_8 (L : Nat) (xs : Nat → Int32) (a b d : Nat) (s6 : Int32) (σ6 : jd_Hp) : Option ((Int32 ⊕ ((Unit) ⊕ Int32)) × jd_Hp) :=
jd_o σ6 (11, 12) (some a) fun a65 =>
jd_b (m_X11_first a65 σ6) fun r66 σ66 =>
jd_o σ66 (13, 29) (some b) fun a67 =>
jd_b (m_X13_first a67 σ66) fun r68 σ68 =>
jd_if (r66 = r68) (
some (Sum.inl (s6 + 6), σ68)) (
some (Sum.inr (Sum.inr 0), σ68))
def lb_9 (L : Nat) (xs : Nat → Int32) (a b d : Nat) (s6 : Int32) (σ6 : jd_Hp) : Option ((Int32 ⊕ ((Unit) ⊕ Int32)) × jd_Hp) :=
jd_sx L (s6 + 1) fun j69 =>
jd_o σ6 (11, 12) (some a) fun a70 =>
jd_b (m_X11_under a70 (xs j69) σ6) fun r71 σ71 =>
jd_sx L (s6 + 1) fun j72 =>
jd_o σ71 (13, 29) (some b) fun a73 =>
jd_b (m_X13_under a73 (xs j72) σ71) fun r74 σ74 =>
jd_if (r71 = r74) (
some (Sum.inl (s6 + 6), σ74)) (
some (Sum.inr (Sum.inr 0), σ74))
def lb_10 (L : Nat) (xs : Nat → Int32) (a b d : Nat) (s6 : Int32) (σ6 : jd_Hp) : Option ((Int32 ⊕ ((Unit) ⊕ Int32)) × jd_Hp) :=
jd_sx L (s6 + 1) fun j75 =>
jd_o σ6 (11, 12) (some a) fun a76 =>
jd_b (m_X11_lost a76 (xs j75) σ6) fun r77 σ77 =>
jd_sx L (s6 + 1) fun j78 =>
jd_o σ77 (13, 29) (some b) fun a79 =>
jd_b (m_X13_lost a79 (xs j78) σ77) fun r80 σ80 =>
jd_if (r77 = r80) (
some (Sum.inl (s6 + 6), σ80)) (
some (Sum.inr (Sum.inr 0), σ80))
def lb_11 (L : Nat) (xs : Nat → Int32) (a b d : Nat) (s6 : Int32) (σ6 : jd_Hp) : Option ((Int32 ⊕ ((Unit) ⊕ Int32)) × jd_Hp) :=
jd_o σ6 (11, 12) (some a) fun a81 =>
jd_b (m_X11_worstMinute a81 σ6) fun r82 σ82 =>
jd_o σ82 (13, 29) (some b) fun a83 =>
jd_b (m_X13_worstMinute a83 σ82) fun r84 σ84 =>
jd_if (r82 = r84) (
some (Sum.inl (s6 + 6), σ84)) (
some (Sum.inr (Sum.inr 0), σ84))
def lb_12 (L : Nat) (xs : Nat → Int32) (a b d : Nat) (s6 : Int32) (σ6 : jd_Hp) : Option ((Int32 ⊕ ((Unit) ⊕ Int32)) × jd_Hp) :=
jd_o σ6 (11, 12) (some a) fun a85 =>
jd_b (m_X11_reached a85 σ6) fun r86 σ86 =>
jd_o σ86 (13, 29) (some b) fun a87 =>
jd_b (m_X13_reached a87 σ86) fun r88 σ88 =>
jd_if (r86 = r88) (
some (Sum.inl (s6 + 6), σ88)) (
some (Sum.inr (Sum.inr 0), σ88))
def lb_13 (L : Nat) (xs : Nat → Int32) (a b d : Nat) (s6 : Int32) (σ6 : jd_Hp) : Option ((Int32 ⊕ ((Unit) ⊕ Int32)) × jd_Hp) :=
jd_sx L (s6 + 1) fun j89 =>
jd_o σ6 (11, 12) (some a) fun a90 =>
jd_b (m_X11_nearest a90 (xs j89) σ6) fun r91 σ91 =>
jd_sx L (s6 + 1) fun j92 =>
jd_o σ91 (13, 29) (some b) fun a93 =>
jd_b (m_X13_nearest a93 (xs j92) σ91) fun r94 σ94 =>
jd_if (r91 = r94) (
some (Sum.inl (s6 + 6), σ94)) (
some (Sum.inr (Sum.inr 0), σ94))
def lb_14 (L : Nat) (xs : Nat → Int32) (a b d : Nat) (s6 : Int32) (σ6 : jd_Hp) : Option ((Int32 ⊕ ((Unit) ⊕ Int32)) × jd_Hp) :=
jd_o σ6 (11, 12) (some a) fun a95 =>
jd_b (m_X11_cover a95 σ6) fun r96 σ96 =>
jd_o σ96 (13, 29) (some b) fun a97 =>
jd_b (m_X13_cover a97 σ96) fun r98 σ98 =>
jd_if (r96 = r98) (
some (Sum.inl (s6 + 6), σ98)) (
some (Sum.inr (Sum.inr 0), σ98))
def lb_15 (L : Nat) (xs : Nat → Int32) (a b d : Nat) (s6 : Int32) (σ6 : jd_Hp) : Option ((Int32 ⊕ ((Unit) ⊕ Int32)) × jd_Hp) :=
jd_o σ6 (11, 12) (some a) fun a99 =>
jd_b (m_X11_covers a99 σ6) fun r100 σ100 =>
jd_o σ100 (13, 29) (some b) fun a101 =>
jd_b (m_X13_covers a101 σ100) fun r102 σ102 =>
jd_if (r100 = r102) (
some (Sum.inl (s6 + 6), σ102)) (
some (Sum.inr (Sum.inr 0), σ102))
def lb_16 (L : Nat) (xs : Nat → Int32) (a b d : Nat) (s6 : Int32) (σ6 : jd_Hp) : Option ((Int32 ⊕ ((Unit) ⊕ Int32)) × jd_Hp) :=
jd_o σ6 (11, 12) (some a) fun a103 =>
jd_b (m_X11_bestPost a103 σ6) fun r104 σ104 =>
jd_o σ104 (13, 29) (some b) fun a105 =>
jd_b (m_X13_bestPost a105 σ104) fun r106 σ106 =>
jd_if (r104 = r106) (
some (Sum.inl (s6 + 6), σ106)) (
some (Sum.inr (Sum.inr 0), σ106))
def lb_17 (L : Nat) (xs : Nat → Int32) (a b d : Nat) (s6 : Int32) (σ6 : jd_Hp) : Option ((Int32 ⊕ ((Unit) ⊕ Int32)) × jd_Hp) :=
jd_sx L (s6 + 1) fun j107 =>
jd_o σ6 (11, 12) (some a) fun a108 =>
jd_b (m_X11_bestPlace a108 (xs j107) σ6) fun r109 σ109 =>
jd_sx L (s6 + 1) fun j110 =>
jd_o σ109 (13, 29) (some b) fun a111 =>
jd_b (m_X13_bestPlace a111 (xs j110) σ109) fun r112 σ112 =>
jd_if (r109 = r112) (
some (Sum.inl (s6 + 6), σ112)) (
some (Sum.inr (Sum.inr 0), σ112))
def lb_18 (L : Nat) (xs : Nat → Int32) (a b d : Nat) (s6 : Int32) (σ6 : jd_Hp) : Option ((Int32 ⊕ ((Unit) ⊕ Int32)) × jd_Hp) :=
jd_o σ6 (11, 12) (some a) fun a113 =>
jd_b (m_X11_limitFor a113 σ6) fun r114 σ114 =>
jd_o σ114 (13, 29) (some b) fun a115 =>
jd_b (m_X13_limitFor a115 σ114) fun r116 σ116 =>
jd_if (r114 = r116) (
some (Sum.inl (s6 + 6), σ116)) (
some (Sum.inr (Sum.inr 0), σ116))
def lb_19 (L : Nat) (xs : Nat → Int32) (a b d : Nat) (s6 : Int32) (σ6 : jd_Hp) : Option ((Int32 ⊕ ((Unit) ⊕ Int32)) × jd_Hp) :=
jd_sx L (s6 + 1) fun j117 =>
jd_o σ6 (11, 12) (some a) fun a118 =>
jd_b (m_X11_alone a118 (xs j117) σ6) fun r119 σ119 =>
jd_sx L (s6 + 1) fun j120 =>
jd_o σ119 (13, 29) (some b) fun a121 =>
jd_b (m_X13_alone a121 (xs j120) σ119) fun r122 σ122 =>
jd_if (r119 = r122) (
some (Sum.inl (s6 + 6), σ122)) (
some (Sum.inr (Sum.inr 0), σ122))
def lb_20 (L : Nat) (xs : Nat → Int32) (a b d : Nat) (s6 : Int32) (σ6 : jd_Hp) : Option ((Int32 ⊕ ((Unit) ⊕ Int32)) × jd_Hp) :=
jd_sx L (s6 + 1) fun j123 =>
jd_sx L (s6 + 2) fun j124 =>
jd_o σ6 (11, 12) (some a) fun a125 =>
jd_b (m_X11_aloneAt a125 (xs j123) (xs j124) σ6) fun r126 σ126 =>
jd_sx L (s6 + 1) fun j127 =>
jd_sx L (s6 + 2) fun j128 =>
jd_o σ126 (13, 29) (some b) fun a129 =>
jd_b (m_X13_aloneAt a129 (xs j127) (xs j128) σ126) fun r130 σ130 =>
jd_if (r126 = r130) (
some (Sum.inl (s6 + 6), σ130)) (
some (Sum.inr (Sum.inr 0), σ130))
def lb_21 (L : Nat) (xs : Nat → Int32) (a b d : Nat) (s6 : Int32) (σ6 : jd_Hp) : Option ((Int32 ⊕ ((Unit) ⊕ Int32)) × jd_Hp) :=
jd_sx L (s6 + 1) fun j131 =>
jd_o σ6 (11, 12) (some a) fun a132 =>
jd_b (m_X11_aloneFree a132 (xs j131) σ6) fun r133 σ133 =>
jd_sx L (s6 + 1) fun j134 =>
jd_o σ133 (13, 29) (some b) fun a135 =>
jd_b (m_X13_aloneFree a135 (xs j134) σ133) fun r136 σ136 =>
jd_if (r133 = r136) (
some (Sum.inl (s6 + 6), σ136)) (
some (Sum.inr (Sum.inr 0), σ136))
def lb_22 (L : Nat) (xs : Nat → Int32) (a b d : Nat) (s6 : Int32) (σ6 : jd_Hp) : Option ((Int32 ⊕ ((Unit) ⊕ Int32)) × jd_Hp) :=
jd_o σ6 (11, 12) (some a) fun a137 =>
jd_b (m_X11_bestAlone a137 σ6) fun r138 σ138 =>
jd_o σ138 (13, 29) (some b) fun a139 =>
jd_b (m_X13_bestAlone a139 σ138) fun r140 σ140 =>
jd_if (r138 = r140) (
some (Sum.inl (s6 + 6), σ140)) (
some (Sum.inr (Sum.inr 0), σ140))
def lb_23 (L : Nat) (xs : Nat → Int32) (a b d : Nat) (s6 : Int32) (σ6 : jd_Hp) : Option ((Int32 ⊕ ((Unit) ⊕ Int32)) × jd_Hp) :=
jd_o σ6 (11, 12) (some a) fun a141 =>
jd_b (m_X11_seats a141 σ6) fun r142 σ142 =>
jd_o σ142 (13, 29) (some b) fun a143 =>
jd_b (m_X13_seats a143 σ142) fun r144 σ144 =>
jd_if (r142 = r144) (
some (Sum.inl (s6 + 6), σ144)) (
some (Sum.inr (Sum.inr 0), σ144))
def lb_24 (L : Nat) (xs : Nat → Int32) (a b d : Nat) (s6 : Int32) (σ6 : jd_Hp) : Option ((Int32 ⊕ ((Unit) ⊕ Int32)) × jd_Hp) :=
jd_sx L (s6 + 1) fun j145 =>
jd_o σ6 (11, 12) (some a) fun a146 =>
jd_b (m_X11_seatOf a146 (xs j145) σ6) fun r147 σ147 =>
jd_sx L (s6 + 1) fun j148 =>
jd_o σ147 (13, 29) (some b) fun a149 =>
jd_b (m_X13_seatOf a149 (xs j148) σ147) fun r150 σ150 =>
jd_if (r147 = r150) (
some (Sum.inl (s6 + 6), σ150)) (
some (Sum.inr (Sum.inr 0), σ150))
def lb_25 (L : Nat) (xs : Nat → Int32) (a b d : Nat) (s6 : Int32) (σ6 : jd_Hp) : Option ((Int32 ⊕ ((Unit) ⊕ Int32)) × jd_Hp) :=
jd_sx L (s6 + 1) fun j151 =>
jd_o σ6 (11, 12) (some a) fun a152 =>
jd_b (m_X11_company a152 (xs j151) σ6) fun r153 σ153 =>
jd_sx L (s6 + 1) fun j154 =>
jd_o σ153 (13, 29) (some b) fun a155 =>
jd_b (m_X13_company a155 (xs j154) σ153) fun r156 σ156 =>
jd_if (r153 = r156) (
some (Sum.inl (s6 + 6), σ156)) (
some (Sum.inr (Sum.inr 0), σ156))
def lb_26 (L : Nat) (xs : Nat → Int32) (a b d : Nat) (s6 : Int32) (σ6 : jd_Hp) : Option ((Int32 ⊕ ((Unit) ⊕ Int32)) × jd_Hp) :=
jd_sx L (s6 + 1) fun j157 =>
jd_sx L (s6 + 2) fun j158 =>
jd_b (α := Int32) (
jd_if ((xs j158) = 0) (
some (0, σ6)) (
some (1, σ6))) fun t159 σ159 =>
jd_o σ159 (11, 12) (some a) fun a160 =>
jd_b (m_X11_odds a160 (xs j157) t159 σ159) fun r161 σ161 =>
jd_sx L (s6 + 1) fun j162 =>
jd_sx L (s6 + 2) fun j163 =>
jd_b (α := Int32) (
jd_if ((xs j163) = 0) (
some (0, σ161)) (
some (1, σ161))) fun t164 σ164 =>
jd_o σ164 (13, 29) (some b) fun a165 =>
jd_b (m_X13_odds a165 (xs j162) t164 σ164) fun r166 σ166 =>
jd_if ((lg_cmp r161 r166) = 0) (
some (Sum.inl (s6 + 6), σ166)) (
some (Sum.inr (Sum.inr 0), σ166))
def lb_27 (L : Nat) (xs : Nat → Int32) (a b d : Nat) (s6 : Int32) (σ6 : jd_Hp) : Option ((Int32 ⊕ ((Unit) ⊕ Int32)) × jd_Hp) :=
jd_o σ6 (11, 12) (some a) fun a167 =>
jd_b (m_X11_likeliest a167 σ6) fun r168 σ168 =>
jd_o σ168 (13, 29) (some b) fun a169 =>
jd_b (m_X13_likeliest a169 σ168) fun r170 σ170 =>
jd_if (r168 = r170) (
some (Sum.inl (s6 + 6), σ170)) (
some (Sum.inr (Sum.inr 0), σ170))
def lb_28 (L : Nat) (xs : Nat → Int32) (a b d : Nat) (s6 : Int32) (σ6 : jd_Hp) : Option ((Int32 ⊕ ((Unit) ⊕ Int32)) × jd_Hp) :=
jd_sx L (s6 + 1) fun j171 =>
jd_sx L (s6 + 2) fun j172 =>
jd_b (α := Int32) (
jd_if ((xs j172) = 0) (
some (0, σ6)) (
some (1, σ6))) fun t173 σ173 =>
jd_o σ173 (11, 12) (some a) fun a174 =>
jd_b (m_X11_among a174 (xs j171) t173 σ173) fun r175 σ175 =>
jd_sx L (s6 + 1) fun j176 =>
jd_sx L (s6 + 2) fun j177 =>
jd_b (α := Int32) (
jd_if ((xs j177) = 0) (
some (0, σ175)) (
some (1, σ175))) fun t178 σ178 =>
jd_o σ178 (13, 29) (some b) fun a179 =>
jd_b (m_X13_among a179 (xs j176) t178 σ178) fun r180 σ180 =>
jd_if ((lg_cmp r175 r180) = 0) (
some (Sum.inl (s6 + 6), σ180)) (
some (Sum.inr (Sum.inr 0), σ180))
def lb_29 (L : Nat) (xs : Nat → Int32) (a b d : Nat) (s6 : Int32) (σ6 : jd_Hp) : Option ((Int32 ⊕ ((Unit) ⊕ Int32)) × jd_Hp) :=
jd_o σ6 (11, 12) (some a) fun a181 =>
jd_b (m_X11_suspects a181 σ6) fun r182 σ182 =>
jd_o σ182 (13, 29) (some b) fun a183 =>
jd_b (m_X13_suspects a183 σ182) fun r184 σ184 =>
jd_if (r182 = r184) (
some (Sum.inl (s6 + 6), σ184)) (
some (Sum.inr (Sum.inr 0), σ184))
def lb_30 (L : Nat) (xs : Nat → Int32) (a b d : Nat) (s6 : Int32) (σ6 : jd_Hp) : Option ((Int32 ⊕ ((Unit) ⊕ Int32)) × jd_Hp) :=
jd_sx L (s6 + 1) fun j185 =>
jd_o σ6 (11, 12) (some a) fun a186 =>
jd_b (m_X11_flag a186 (xs j185) σ6) fun r187 σ187 =>
jd_sx L (s6 + 1) fun j188 =>
jd_o σ187 (13, 29) (some b) fun a189 =>
jd_b (m_X13_flag a189 (xs j188) σ187) fun r190 σ190 =>
jd_if (r187 = r190) (
some (Sum.inl (s6 + 6), σ190)) (
some (Sum.inr (Sum.inr 0), σ190))
def lb_31 (L : Nat) (xs : Nat → Int32) (a b d : Nat) (s6 : Int32) (σ6 : jd_Hp) : Option ((Int32 ⊕ ((Unit) ⊕ Int32)) × jd_Hp) :=
jd_o σ6 (11, 12) (some a) fun a191 =>
jd_b (m_X11_teach a191 σ6) fun r192 σ192 =>
jd_o σ192 (13, 29) (some b) fun a193 =>
jd_b (m_X13_teach a193 σ192) fun r194 σ194 =>
jd_if (r192 = r194) (
some (Sum.inl (s6 + 6), σ194)) (
some (Sum.inr (Sum.inr 0), σ194))
def lb_32 (L : Nat) (xs : Nat → Int32) (a b d : Nat) (s6 : Int32) (σ6 : jd_Hp) : Option ((Int32 ⊕ ((Unit) ⊕ Int32)) × jd_Hp) :=
jd_sx L (s6 + 1) fun j195 =>
jd_o σ6 (11, 12) (some a) fun a196 =>
jd_b (m_X11_hears a196 (xs j195) σ6) fun r197 σ197 =>
jd_sx L (s6 + 1) fun j198 =>
jd_o σ197 (13, 29) (some b) fun a199 =>
jd_b (m_X13_hears a199 (xs j198) σ197) fun r200 σ200 =>
jd_if (r197 = r200) (
some (Sum.inl (s6 + 6), σ200)) (
some (Sum.inr (Sum.inr 0), σ200))
def lb_33 (L : Nat) (xs : Nat → Int32) (a b d : Nat) (s6 : Int32) (σ6 : jd_Hp) : Option ((Int32 ⊕ ((Unit) ⊕ Int32)) × jd_Hp) :=
jd_sx L (s6 + 1) fun j201 =>
jd_sx L (s6 + 2) fun j202 =>
jd_b (α := Int32) (
jd_if ((xs j202) = 0) (
some (0, σ6)) (
some (1, σ6))) fun t203 σ203 =>
jd_sx L (s6 + 3) fun j204 =>
jd_b (α := Int32) (
jd_if ((xs j204) = 0) (
some (0, σ203)) (
some (1, σ203))) fun t205 σ205 =>
jd_sx L (s6 + 4) fun j206 =>
jd_b (α := Int32) (
jd_if ((xs j206) = 0) (
some (0, σ205)) (
some (1, σ205))) fun t207 σ207 =>
jd_o σ207 (11, 12) (some a) fun a208 =>
jd_b (m_X11_looks a208 (xs j201) t203 t205 t207 σ207) fun r209 σ209 =>
jd_sx L (s6 + 1) fun j210 =>
jd_sx L (s6 + 2) fun j211 =>
jd_b (α := Int32) (
jd_if ((xs j211) = 0) (
some (0, σ209)) (
some (1, σ209))) fun t212 σ212 =>
jd_sx L (s6 + 3) fun j213 =>
jd_b (α := Int32) (
jd_if ((xs j213) = 0) (
some (0, σ212)) (
some (1, σ212))) fun t214 σ214 =>
jd_sx L (s6 + 4) fun j215 =>
jd_if ((xs j215) = 0) (
jd_o σ214 (13, 29) (some b) fun a216 =>
jd_b (m_X13_looks a216 (xs j210) t212 t214 0 σ214) fun r217 σ217 =>
jd_if (r209 = r217) (
some (Sum.inl (s6 + 6), σ217)) (
some (Sum.inr (Sum.inr 0), σ217))) (
jd_o σ214 (13, 29) (some b) fun a218 =>
jd_b (m_X13_looks a218 (xs j210) t212 t214 1 σ214) fun r219 σ219 =>
jd_if (r209 = r219) (
some (Sum.inl (s6 + 6), σ219)) (
some (Sum.inr (Sum.inr 0), σ219)))
def lb_34 (L : Nat) (xs : Nat → Int32) (a b d : Nat) (s6 : Int32) (σ6 : jd_Hp) : Option ((Int32 ⊕ ((Unit) ⊕ Int32)) × jd_Hp) :=
jd_sx L (s6 + 1) fun j220 =>
jd_o σ6 (11, 12) (some a) fun a221 =>
jd_b (m_X11_rests a221 (xs j220) σ6) fun r222 σ222 =>
jd_sx L (s6 + 1) fun j223 =>
jd_o σ222 (13, 29) (some b) fun a224 =>
jd_b (m_X13_rests a224 (xs j223) σ222) fun r225 σ225 =>
jd_if (r222 = r225) (
some (Sum.inl (s6 + 6), σ225)) (
some (Sum.inr (Sum.inr 0), σ225))
def lb_35 (L : Nat) (xs : Nat → Int32) (a b d : Nat) (s6 : Int32) (σ6 : jd_Hp) : Option ((Int32 ⊕ ((Unit) ⊕ Int32)) × jd_Hp) :=
jd_sx L (s6 + 1) fun j226 =>
jd_o σ6 (11, 12) (some a) fun a227 =>
jd_b (m_X11_rest a227 (xs j226) σ6) fun r228 σ228 =>
jd_sx L (s6 + 1) fun j229 =>
jd_o σ228 (13, 29) (some b) fun a230 =>
jd_b (m_X13_rest a230 (xs j229) σ228) fun r231 σ231 =>
jd_if (r228 = r231) (
some (Sum.inl (s6 + 6), σ231)) (
some (Sum.inr (Sum.inr 0), σ231))
def lb_36 (L : Nat) (xs : Nat → Int32) (a b d : Nat) (s6 : Int32) (σ6 : jd_Hp) : Option ((Int32 ⊕ ((Unit) ⊕ Int32)) × jd_Hp) :=
jd_sx L (s6 + 1) fun j232 =>
jd_b (α := Int32) (
jd_if ((xs j232) = 0) (
some (0, σ6)) (
some (1, σ6))) fun t233 σ233 =>
jd_o σ233 (11, 12) (some a) fun a234 =>
jd_b (m_X11_safe a234 t233 σ233) fun r235 σ235 =>
jd_sx L (s6 + 1) fun j236 =>
jd_b (α := Int32) (
jd_if ((xs j236) = 0) (
some (0, σ235)) (
some (1, σ235))) fun t237 σ237 =>
jd_o σ237 (13, 29) (some b) fun a238 =>
jd_b (m_X13_safe a238 t237 σ237) fun r239 σ239 =>
jd_if ((lg_cmp r235 r239) = 0) (
some (Sum.inl (s6 + 6), σ239)) (
some (Sum.inr (Sum.inr 0), σ239))
def lb_37 (L : Nat) (xs : Nat → Int32) (a b d : Nat) (s6 : Int32) (σ6 : jd_Hp) : Option ((Int32 ⊕ ((Unit) ⊕ Int32)) × jd_Hp) :=
jd_sx L (s6 + 1) fun j240 =>
jd_sx L (s6 + 2) fun j241 =>
jd_b (α := Int32) (
jd_if ((xs j241) = 0) (
some (0, σ6)) (
some (1, σ6))) fun t242 σ242 =>
jd_o σ242 (11, 12) (some a) fun a243 =>
jd_b (m_X11_sinking a243 (xs j240) t242 σ242) fun r244 σ244 =>
jd_sx L (s6 + 1) fun j245 =>
jd_sx L (s6 + 2) fun j246 =>
jd_b (α := Int32) (
jd_if ((xs j246) = 0) (
some (0, σ244)) (
some (1, σ244))) fun t247 σ247 =>
jd_o σ247 (13, 29) (some b) fun a248 =>
jd_b (m_X13_sinking a248 (xs j245) t247 σ247) fun r249 σ249 =>
jd_if ((lg_cmp r244 r249) = 0) (
some (Sum.inl (s6 + 6), σ249)) (
some (Sum.inr (Sum.inr 0), σ249))
def lb_38 (L : Nat) (xs : Nat → Int32) (a b d : Nat) (s6 : Int32) (σ6 : jd_Hp) : Option ((Int32 ⊕ ((Unit) ⊕ Int32)) × jd_Hp) :=
jd_sx L (s6 + 1) fun j250 =>
jd_b (α := Int32) (
jd_if ((xs j250) = 0) (
some (0, σ6)) (
some (1, σ6))) fun t251 σ251 =>
jd_o σ251 (11, 12) (some a) fun a252 =>
jd_b (m_X11_mean a252 t251 σ251) fun r253 σ253 =>
jd_sx L (s6 + 1) fun j254 =>
jd_b (α := Int32) (
jd_if ((xs j254) = 0) (
some (0, σ253)) (
some (1, σ253))) fun t255 σ255 =>
jd_o σ255 (13, 29) (some b) fun a256 =>
jd_b (m_X13_mean a256 t255 σ255) fun r257 σ257 =>
jd_if ((lg_cmp r253 r257) = 0) (
some (Sum.inl (s6 + 6), σ257)) (
some (Sum.inr (Sum.inr 0), σ257))
def lb_39 (L : Nat) (xs : Nat → Int32) (a b d : Nat) (s6 : Int32) (σ6 : jd_Hp) : Option ((Int32 ⊕ ((Unit) ⊕ Int32)) × jd_Hp) :=
jd_sx L (s6 + 1) fun j258 =>
jd_sx L (s6 + 2) fun j259 =>
jd_sx L (s6 + 3) fun j260 =>
jd_o σ6 (11, 12) (some a) fun a261 =>
jd_b (m_X11_afternoons a261 (xs j258) (xs j259) (xs j260) σ6) fun r262 σ262 =>
jd_sx L (s6 + 1) fun j263 =>
jd_sx L (s6 + 2) fun j264 =>
jd_sx L (s6 + 3) fun j265 =>
jd_o σ262 (13, 29) (some b) fun a266 =>
jd_b (m_X13_afternoons a266 (xs j263) (xs j264) (xs j265) σ262) fun r267 σ267 =>
jd_if (r262 = r267) (
some (Sum.inl (s6 + 6), σ267)) (
some (Sum.inr (Sum.inr 0), σ267))
def lb_40 (L : Nat) (xs : Nat → Int32) (a b d : Nat) (s6 : Int32) (σ6 : jd_Hp) : Option ((Int32 ⊕ ((Unit) ⊕ Int32)) × jd_Hp) :=
jd_sx L (s6 + 1) fun j268 =>
jd_sx L (s6 + 2) fun j269 =>
jd_o σ6 (11, 12) (some a) fun a270 =>
jd_b (m_X11_worst a270 (xs j268) (xs j269) σ6) fun r271 σ271 =>
jd_sx L (s6 + 1) fun j272 =>
jd_sx L (s6 + 2) fun j273 =>
jd_o σ271 (13, 29) (some b) fun a274 =>
jd_b (m_X13_worst a274 (xs j272) (xs j273) σ271) fun r275 σ275 =>
jd_if (r271 = r275) (
some (Sum.inl (s6 + 6), σ275)) (
some (Sum.inr (Sum.inr 0), σ275))
def lb_41 (L : Nat) (xs : Nat → Int32) (a b d : Nat) (s6 : Int32) (σ6 : jd_Hp) : Option ((Int32 ⊕ ((Unit) ⊕ Int32)) × jd_Hp) :=
jd_sx L (s6 + 1) fun j276 =>
jd_o σ6 (11, 12) (some a) fun a277 =>
jd_b (m_X11_man a277 (xs j276) σ6) fun r278 σ278 =>
jd_sx L (s6 + 1) fun j279 =>
jd_o σ278 (13, 29) (some b) fun a280 =>
jd_b (m_X13_man a280 (xs j279) σ278) fun r281 σ281 =>
jd_if (r278 = r281) (
some (Sum.inl (s6 + 6), σ281)) (
some (Sum.inr (Sum.inr 0), σ281))
def lb_42 (L : Nat) (xs : Nat → Int32) (a b d : Nat) (s6 : Int32) (σ6 : jd_Hp) : Option ((Int32 ⊕ ((Unit) ⊕ Int32)) × jd_Hp) :=
jd_sx L (s6 + 1) fun j282 =>
jd_o σ6 (11, 12) (some a) fun a283 =>
jd_b (m_X11_leave a283 (xs j282) σ6) fun r284 σ284 =>
jd_sx L (s6 + 1) fun j285 =>
jd_o σ284 (13, 29) (some b) fun a286 =>
jd_b (m_X13_leave a286 (xs j285) σ284) fun r287 σ287 =>
jd_if (r284 = r287) (
some (Sum.inl (s6 + 6), σ287)) (
some (Sum.inr (Sum.inr 0), σ287))
def lb_43 (L : Nat) (xs : Nat → Int32) (a b d : Nat) (s6 : Int32) (σ6 : jd_Hp) : Option ((Int32 ⊕ ((Unit) ⊕ Int32)) × jd_Hp) :=
jd_sx L (s6 + 1) fun j288 =>
jd_sx L (s6 + 2) fun j289 =>
jd_o σ6 (11, 12) (some a) fun a290 =>
jd_b (m_X11_seat a290 (xs j288) (xs j289) σ6) fun r291 σ291 =>
jd_sx L (s6 + 1) fun j292 =>
jd_sx L (s6 + 2) fun j293 =>
jd_o σ291 (13, 29) (some b) fun a294 =>
jd_b (m_X13_seat a294 (xs j292) (xs j293) σ291) fun r295 σ295 =>
jd_if (r291 = r295) (
some (Sum.inl (s6 + 6), σ295)) (
some (Sum.inr (Sum.inr 0), σ295))
def lb_44 (L : Nat) (xs : Nat → Int32) (a b d : Nat) (s6 : Int32) (σ6 : jd_Hp) : Option ((Int32 ⊕ ((Unit) ⊕ Int32)) × jd_Hp) :=
jd_sx L (s6 + 1) fun j296 =>
jd_o σ6 (11, 12) (some a) fun a297 =>
jd_b (m_X11_minute a297 (xs j296) σ6) fun r298 σ298 =>
jd_sx L (s6 + 1) fun j299 =>
jd_o σ298 (13, 29) (some b) fun a300 =>
jd_b (m_X13_minute a300 (xs j299) σ298) fun r301 σ301 =>
jd_if (r298 = r301) (
some (Sum.inl (s6 + 6), σ301)) (
some (Sum.inr (Sum.inr 0), σ301))
def lb_45 (L : Nat) (xs : Nat → Int32) (a b d : Nat) (s6 : Int32) (σ6 : jd_Hp) : Option ((Int32 ⊕ ((Unit) ⊕ Int32)) × jd_Hp) :=
jd_sx L (s6 + 1) fun j302 =>
jd_o σ6 (11, 12) (some a) fun a303 =>
jd_b (m_X11_lift a303 (xs j302) σ6) fun r304 σ304 =>
jd_sx L (s6 + 1) fun j305 =>
jd_o σ304 (13, 29) (some b) fun a306 =>
jd_b (m_X13_lift a306 (xs j305) σ304) fun r307 σ307 =>
jd_if (r304 = r307) (
some (Sum.inl (s6 + 6), σ307)) (
some (Sum.inr (Sum.inr 0), σ307))
def lb_46 (L : Nat) (xs : Nat → Int32) (a b d : Nat) (s6 : Int32) (σ6 : jd_Hp) : Option ((Int32 ⊕ ((Unit) ⊕ Int32)) × jd_Hp) :=
jd_o σ6 (11, 12) (some a) fun a308 =>
jd_b (m_X11_undo a308 σ6) fun r309 σ309 =>
jd_o σ309 (13, 29) (some b) fun a310 =>
jd_b (m_X13_undo a310 σ309) fun r311 σ311 =>
jd_if (r309 = r311) (
some (Sum.inl (s6 + 6), σ311)) (
some (Sum.inr (Sum.inr 0), σ311))
def lb_47 (L : Nat) (xs : Nat → Int32) (a b d : Nat) (s6 : Int32) (σ6 : jd_Hp) : Option ((Int32 ⊕ ((Unit) ⊕ Int32)) × jd_Hp) :=
jd_o σ6 (11, 12) (some a) fun a312 =>
jd_b (m_X11_image a312 σ6) fun r313 σ313 =>
jd_o σ313 (13, 29) (some b) fun a314 =>
jd_b (m_X13_image a314 σ313) fun r315 σ315 =>
jd_if (r313 = r315) (
some (Sum.inl (s6 + 6), σ315)) (
some (Sum.inr (Sum.inr 0), σ315))
def lb_48 (L : Nat) (xs : Nat → Int32) (a b d : Nat) (s6 : Int32) (σ6 : jd_Hp) : Option ((Int32 ⊕ ((Unit) ⊕ Int32)) × jd_Hp) :=
jd_sx L (s6 + 1) fun j316 =>
jd_o σ6 (11, 12) (some a) fun a317 =>
jd_b (m_X11_back a317 (xs j316) σ6) fun r318 σ318 =>
jd_sx L (s6 + 1) fun j319 =>
jd_o σ318 (13, 29) (some b) fun a320 =>
jd_b (m_X13_back a320 (xs j319) σ318) fun r321 σ321 =>
jd_if (r318 = r321) (
some (Sum.inl (s6 + 6), σ321)) (
some (Sum.inr (Sum.inr 0), σ321))
def lb_49 (L : Nat) (xs : Nat → Int32) (a b d : Nat) (s6 : Int32) (σ6 : jd_Hp) : Option ((Int32 ⊕ ((Unit) ⊕ Int32)) × jd_Hp) :=
jd_sx L (s6 + 1) fun j322 =>
jd_b (m_L_led (some a) (xs j322) (some d) σ6) fun r323 σ323 =>
jd_sx L (s6 + 1) fun j324 =>
jd_o σ323 (13, 29) (some b) fun a325 =>
jd_b (m_X13_led a325 (xs j324) σ323) fun r326 σ326 =>
jd_b (m_X13_thrown a325 σ326) fun r327 σ327 =>
jd_if (r327 = r323) (
jd_if (¬ r323 = 0) (
some (Sum.inl (s6 + 6), σ327)) (
jd_ia σ327 23 (some d) 0 fun a328 j328 =>
jd_if ((lg_cmp (σ327.2.2.1 a328 j328) r326.toInt64) = 0) (
some (Sum.inl (s6 + 6), σ327)) (
some (Sum.inr (Sum.inr 0), σ327)))) (
some (Sum.inr (Sum.inr 0), σ327))
def lb_50 (L : Nat) (xs : Nat → Int32) (a b d : Nat) (s6 : Int32) (σ6 : jd_Hp) : Option ((Int32 ⊕ ((Unit) ⊕ Int32)) × jd_Hp) :=
jd_sx L (s6 + 1) fun j329 =>
jd_o σ6 (11, 12) (some a) fun a330 =>
jd_b (m_X11_size a330 (xs j329) σ6) fun r331 σ331 =>
jd_sx L (s6 + 1) fun j332 =>
jd_o σ331 (13, 29) (some b) fun a333 =>
jd_b (m_X13_size a333 (xs j332) σ331) fun r334 σ334 =>
jd_if (r331 = r334) (
some (Sum.inl (s6 + 6), σ334)) (
some (Sum.inr (Sum.inr 0), σ334))
def lb_51 (L : Nat) (xs : Nat → Int32) (a b d : Nat) (s6 : Int32) (σ6 : jd_Hp) : Option ((Int32 ⊕ ((Unit) ⊕ Int32)) × jd_Hp) :=
jd_o σ6 (11, 12) (some a) fun a335 =>
jd_b (m_X11_trouble a335 σ6) fun r336 σ336 =>
jd_o σ336 (13, 29) (some b) fun a337 =>
jd_b (m_X13_trouble a337 σ336) fun r338 σ338 =>
jd_if (r336 = r338) (
some (Sum.inl (s6 + 6), σ338)) (
some (Sum.inr (Sum.inr 0), σ338))
def lawB (L : Nat) (xs : Nat → Int32) (a b d : Nat) : Int32 → jd_Hp → Option ((Int32 ⊕ ((Unit) ⊕ Int32)) × jd_Hp) := fun s6 σ6 =>
jd_if (((Int32.ofNat L) - 6) < s6) (
some ((Sum.inr (Sum.inl ())), σ6)) (
jd_sx L s6 fun j8 =>
jd_sw ((xs j8) &&& 63) 0 [lb_0 L xs a b d s6 σ6, lb_1 L xs a b d s6 σ6, lb_2 L xs a b d s6 σ6, lb_3 L xs a b d s6 σ6, lb_4 L xs a b d s6 σ6, lb_5 L xs a b d s6 σ6, lb_6 L xs a b d s6 σ6, lb_7 L xs a b d s6 σ6, lb_8 L xs a b d s6 σ6, lb_9 L xs a b d s6 σ6, lb_10 L xs a b d s6 σ6, lb_11 L xs a b d s6 σ6, lb_12 L xs a b d s6 σ6, lb_13 L xs a b d s6 σ6, lb_14 L xs a b d s6 σ6, lb_15 L xs a b d s6 σ6, lb_16 L xs a b d s6 σ6, lb_17 L xs a b d s6 σ6, lb_18 L xs a b d s6 σ6, lb_19 L xs a b d s6 σ6, lb_20 L xs a b d s6 σ6, lb_21 L xs a b d s6 σ6, lb_22 L xs a b d s6 σ6, lb_23 L xs a b d s6 σ6, lb_24 L xs a b d s6 σ6, lb_25 L xs a b d s6 σ6, lb_26 L xs a b d s6 σ6, lb_27 L xs a b d s6 σ6, lb_28 L xs a b d s6 σ6, lb_29 L xs a b d s6 σ6, lb_30 L xs a b d s6 σ6, lb_31 L xs a b d s6 σ6, lb_32 L xs a b d s6 σ6, lb_33 L xs a b d s6 σ6, lb_34 L xs a b d s6 σ6, lb_35 L xs a b d s6 σ6, lb_36 L xs a b d s6 σ6, lb_37 L xs a b d s6 σ6, lb_38 L xs a b d s6 σ6, lb_39 L xs a b d s6 σ6, lb_40 L xs a b d s6 σ6, lb_41 L xs a b d s6 σ6, lb_42 L xs a b d s6 σ6, lb_43 L xs a b d s6 σ6, lb_44 L xs a b d s6 σ6, lb_45 L xs a b d s6 σ6, lb_46 L xs a b d s6 σ6, lb_47 L xs a b d s6 σ6, lb_48 L xs a b d s6 σ6, lb_49 L xs a b d s6 σ6, lb_50 L xs a b d s6 σ6, lb_51 L xs a b d s6 σ6] (
some (Sum.inl (s6 + 6), σ6)))
section
variable {L i : Nat} {xs : Nat → Int32} {z : Zt} {σ : jd_Hp}
theorem lo_0 (h : LR z σ) (hi : i + 6 ≤ L) (hL : L ≤ 3072) : LO (lb_0 L xs 32 118 130 (nI i) σ) σ (nI i) := by
  have hW := XR_W h.1
  unfold lb_0
  simp only [sx1 hi hL, sx2 hi hL, sx3 hi hL, sx4 hi hL, sx5 hi hL, bo, jo_32 hW]
  exact lw_i h (ZX_feed h.1 h.2.2.1 _ _ _ _ _) (fun σ' hm => ZM_feed hm h.2.2.1 _ _ _ _ _) (hh_feed h.2.2.1 h.2.2.2 _ _ _ _ _).1 (hh_feed h.2.2.1 h.2.2.2 _ _ _ _ _).2
theorem lo_1 (h : LR z σ) (hi : i + 6 ≤ L) (hL : L ≤ 3072) : LO (lb_1 L xs 32 118 130 (nI i) σ) σ (nI i) := by
  have hW := XR_W h.1
  unfold lb_1
  simp only [sx1 hi hL, sx2 hi hL, sx3 hi hL, sx4 hi hL, sx5 hi hL, bo, jo_32 hW]
  exact lw_i h (ZX_beach h.1 h.2.2.1 _) (fun σ' hm => ZM_beach hm h.2.2.1 _) (hh_beach h.2.2.1 _).1 (hh_beach h.2.2.1 _).2
theorem lo_2 (h : LR z σ) (hi : i + 6 ≤ L) (hL : L ≤ 3072) : LO (lb_2 L xs 32 118 130 (nI i) σ) σ (nI i) := by
  have hW := XR_W h.1
  unfold lb_2
  simp only [sx1 hi hL, sx2 hi hL, sx3 hi hL, sx4 hi hL, sx5 hi hL, bo, jo_32 hW]
  exact lw_i h (ZX_fault h.1) (fun σ' hm => ZM_fault hm) h.2.2.1 h.2.2.2
theorem lo_3 (h : LR z σ) (hi : i + 6 ≤ L) (hL : L ≤ 3072) : LO (lb_3 L xs 32 118 130 (nI i) σ) σ (nI i) := by
  have hW := XR_W h.1
  unfold lb_3
  simp only [sx1 hi hL, sx2 hi hL, sx3 hi hL, sx4 hi hL, sx5 hi hL, bo, jo_32 hW]
  exact lw_i h (ZX_where h.1 h.2.2.2) (fun σ' hm => ZM_where hm) h.2.2.1 h.2.2.2
theorem lo_4 (h : LR z σ) (hi : i + 6 ≤ L) (hL : L ≤ 3072) : LO (lb_4 L xs 32 118 130 (nI i) σ) σ (nI i) := by
  have hW := XR_W h.1
  unfold lb_4
  simp only [sx1 hi hL, sx2 hi hL, sx3 hi hL, sx4 hi hL, sx5 hi hL, bo, jo_32 hW]
  exact lw_i h (zx_q h.1 h.2.2.1 fun T hT => X_person hT _ _) (fun σ' hm => zm_q hm (fun b hb => M_person hb _ _) (tt_person _ _ _)) (HZ_tr h.2.2.1 _) (Nat.le_trans (tt_person _ _ _) (by decide))
theorem lo_5 (h : LR z σ) (hi : i + 6 ≤ L) (hL : L ≤ 3072) : LO (lb_5 L xs 32 118 130 (nI i) σ) σ (nI i) := by
  have hW := XR_W h.1
  unfold lb_5
  simp only [sx1 hi hL, sx2 hi hL, sx3 hi hL, sx4 hi hL, sx5 hi hL, bo, jo_32 hW]
  exact lw_i h (zx_q h.1 h.2.2.1 fun T hT => X_post hT _ _) (fun σ' hm => zm_q hm (fun b hb => M_post hb _ _) (tt_post _ _ _)) (HZ_tr h.2.2.1 _) (Nat.le_trans (tt_post _ _ _) (by decide))
theorem lo_6 (h : LR z σ) (hi : i + 6 ≤ L) (hL : L ≤ 3072) : LO (lb_6 L xs 32 118 130 (nI i) σ) σ (nI i) := by
  have hW := XR_W h.1
  unfold lb_6
  simp only [sx1 hi hL, sx2 hi hL, sx3 hi hL, sx4 hi hL, sx5 hi hL, bo, jo_32 hW]
  exact lw_i h (zx_q h.1 h.2.2.1 fun T hT => X_time hT _ _) (fun σ' hm => zm_q hm (fun b hb => M_time hb _ _) (tt_time _ _ _)) (HZ_tr h.2.2.1 _) (Nat.le_trans (tt_time _ _ _) (by decide))
theorem lo_7 (h : LR z σ) (hi : i + 6 ≤ L) (hL : L ≤ 3072) : LO (lb_7 L xs 32 118 130 (nI i) σ) σ (nI i) := by
  have hW := XR_W h.1
  unfold lb_7
  simp only [sx1 hi hL, sx2 hi hL, sx3 hi hL, sx4 hi hL, sx5 hi hL, bo, jo_32 hW]
  exact lw_i h (zx_q h.1 h.2.2.1 fun T hT => X_sinkers hT) (fun σ' hm => zm_q hm (fun b hb => M_sinkers hb) (tt_sinkers _)) (HZ_tr h.2.2.1 _) (Nat.le_trans (tt_sinkers _) (by decide))
theorem lo_8 (h : LR z σ) (hi : i + 6 ≤ L) (hL : L ≤ 3072) : LO (lb_8 L xs 32 118 130 (nI i) σ) σ (nI i) := by
  have hW := XR_W h.1
  unfold lb_8
  simp only [sx1 hi hL, sx2 hi hL, sx3 hi hL, sx4 hi hL, sx5 hi hL, bo, jo_32 hW]
  exact lw_i h (zx_q h.1 h.2.2.1 fun T hT => X_first hT) (fun σ' hm => zm_q hm (fun b hb => M_first hb) (tt_first _)) (HZ_tr h.2.2.1 _) (Nat.le_trans (tt_first _) (by decide))
theorem lo_9 (h : LR z σ) (hi : i + 6 ≤ L) (hL : L ≤ 3072) : LO (lb_9 L xs 32 118 130 (nI i) σ) σ (nI i) := by
  have hW := XR_W h.1
  unfold lb_9
  simp only [sx1 hi hL, sx2 hi hL, sx3 hi hL, sx4 hi hL, sx5 hi hL, bo, jo_32 hW]
  exact lw_i h (zx_q h.1 h.2.2.1 fun T hT => X_under hT _) (fun σ' hm => zm_q hm (fun b hb => M_under hb _) (tt_under _ _)) (HZ_tr h.2.2.1 _) (Nat.le_trans (tt_under _ _) (by decide))
theorem lo_10 (h : LR z σ) (hi : i + 6 ≤ L) (hL : L ≤ 3072) : LO (lb_10 L xs 32 118 130 (nI i) σ) σ (nI i) := by
  have hW := XR_W h.1
  unfold lb_10
  simp only [sx1 hi hL, sx2 hi hL, sx3 hi hL, sx4 hi hL, sx5 hi hL, bo, jo_32 hW]
  exact lw_i h (zx_q h.1 h.2.2.1 fun T hT => X_lost hT _) (fun σ' hm => zm_q hm (fun b hb => M_lost hb _) (tt_lost _ _)) (HZ_tr h.2.2.1 _) (Nat.le_trans (tt_lost _ _) (by decide))
theorem lo_11 (h : LR z σ) (hi : i + 6 ≤ L) (hL : L ≤ 3072) : LO (lb_11 L xs 32 118 130 (nI i) σ) σ (nI i) := by
  have hW := XR_W h.1
  unfold lb_11
  simp only [sx1 hi hL, sx2 hi hL, sx3 hi hL, sx4 hi hL, sx5 hi hL, bo, jo_32 hW]
  exact lw_i h (zx_q h.1 h.2.2.1 fun T hT => X_worstMinute hT) (fun σ' hm => zm_q hm (fun b hb => M_worstMinute hb) (tt_worstMinute _)) (HZ_tr h.2.2.1 _) (Nat.le_trans (tt_worstMinute _) (by decide))
theorem lo_12 (h : LR z σ) (hi : i + 6 ≤ L) (hL : L ≤ 3072) : LO (lb_12 L xs 32 118 130 (nI i) σ) σ (nI i) := by
  have hW := XR_W h.1
  unfold lb_12
  simp only [sx1 hi hL, sx2 hi hL, sx3 hi hL, sx4 hi hL, sx5 hi hL, bo, jo_32 hW]
  exact lw_i h (zx_q h.1 h.2.2.1 fun T hT => X_reached hT) (fun σ' hm => zm_q hm (fun b hb => M_reached hb) (tt_reached _)) (HZ_tr h.2.2.1 _) (Nat.le_trans (tt_reached _) (by decide))
theorem lo_13 (h : LR z σ) (hi : i + 6 ≤ L) (hL : L ≤ 3072) : LO (lb_13 L xs 32 118 130 (nI i) σ) σ (nI i) := by
  have hW := XR_W h.1
  unfold lb_13
  simp only [sx1 hi hL, sx2 hi hL, sx3 hi hL, sx4 hi hL, sx5 hi hL, bo, jo_32 hW]
  exact lw_i h (zx_q h.1 h.2.2.1 fun T hT => X_nearest hT _) (fun σ' hm => zm_q hm (fun b hb => M_nearest hb _) (tt_nearest _ _)) (HZ_tr h.2.2.1 _) (Nat.le_trans (tt_nearest _ _) (by decide))
theorem lo_14 (h : LR z σ) (hi : i + 6 ≤ L) (hL : L ≤ 3072) : LO (lb_14 L xs 32 118 130 (nI i) σ) σ (nI i) := by
  have hW := XR_W h.1
  unfold lb_14
  simp only [sx1 hi hL, sx2 hi hL, sx3 hi hL, sx4 hi hL, sx5 hi hL, bo, jo_32 hW]
  exact lw_i h (zx_q h.1 h.2.2.1 fun T hT => X_cover hT) (fun σ' hm => zm_q hm (fun b hb => M_cover hb) (tt_cover _)) (HZ_tr h.2.2.1 _) (Nat.le_trans (tt_cover _) (by decide))
theorem lo_15 (h : LR z σ) (hi : i + 6 ≤ L) (hL : L ≤ 3072) : LO (lb_15 L xs 32 118 130 (nI i) σ) σ (nI i) := by
  have hW := XR_W h.1
  unfold lb_15
  simp only [sx1 hi hL, sx2 hi hL, sx3 hi hL, sx4 hi hL, sx5 hi hL, bo, jo_32 hW]
  exact lw_i h (zx_q h.1 h.2.2.1 fun T hT => X_covers hT) (fun σ' hm => zm_q hm (fun b hb => M_covers hb) (tt_covers _)) (HZ_tr h.2.2.1 _) (Nat.le_trans (tt_covers _) (by decide))
theorem lo_16 (h : LR z σ) (hi : i + 6 ≤ L) (hL : L ≤ 3072) : LO (lb_16 L xs 32 118 130 (nI i) σ) σ (nI i) := by
  have hW := XR_W h.1
  unfold lb_16
  simp only [sx1 hi hL, sx2 hi hL, sx3 hi hL, sx4 hi hL, sx5 hi hL, bo, jo_32 hW]
  exact lw_i h (zx_q h.1 h.2.2.1 fun T hT => X_bestPost hT) (fun σ' hm => zm_q hm (fun b hb => M_bestPost hb) (tt_bestPost _)) (HZ_tr h.2.2.1 _) (Nat.le_trans (tt_bestPost _) (by decide))
theorem lo_17 (h : LR z σ) (hi : i + 6 ≤ L) (hL : L ≤ 3072) : LO (lb_17 L xs 32 118 130 (nI i) σ) σ (nI i) := by
  have hW := XR_W h.1
  unfold lb_17
  simp only [sx1 hi hL, sx2 hi hL, sx3 hi hL, sx4 hi hL, sx5 hi hL, bo, jo_32 hW]
  exact lw_i h (zx_q h.1 h.2.2.1 fun T hT => X_bestPlace hT _) (fun σ' hm => zm_q hm (fun b hb => M_bestPlace hb _) (tt_bestPlace _ _)) (HZ_tr h.2.2.1 _) (Nat.le_trans (tt_bestPlace _ _) (by decide))
theorem lo_18 (h : LR z σ) (hi : i + 6 ≤ L) (hL : L ≤ 3072) : LO (lb_18 L xs 32 118 130 (nI i) σ) σ (nI i) := by
  have hW := XR_W h.1
  unfold lb_18
  simp only [sx1 hi hL, sx2 hi hL, sx3 hi hL, sx4 hi hL, sx5 hi hL, bo, jo_32 hW]
  exact lw_i h (zx_q h.1 h.2.2.1 fun T hT => X_limitFor hT) (fun σ' hm => zm_q hm (fun b hb => M_limitFor hb) (tt_limitFor _)) (HZ_tr h.2.2.1 _) (Nat.le_trans (tt_limitFor _) (by decide))
theorem lo_19 (h : LR z σ) (hi : i + 6 ≤ L) (hL : L ≤ 3072) : LO (lb_19 L xs 32 118 130 (nI i) σ) σ (nI i) := by
  have hW := XR_W h.1
  unfold lb_19
  simp only [sx1 hi hL, sx2 hi hL, sx3 hi hL, sx4 hi hL, sx5 hi hL, bo, jo_32 hW]
  exact lw_i h (zx_q h.1 h.2.2.1 fun T hT => X_alone hT _) (fun σ' hm => zm_q hm (fun b hb => M_alone hb _) (tt_alone _ _)) (HZ_tr h.2.2.1 _) (Nat.le_trans (tt_alone _ _) (by decide))
theorem lo_20 (h : LR z σ) (hi : i + 6 ≤ L) (hL : L ≤ 3072) : LO (lb_20 L xs 32 118 130 (nI i) σ) σ (nI i) := by
  have hW := XR_W h.1
  unfold lb_20
  simp only [sx1 hi hL, sx2 hi hL, sx3 hi hL, sx4 hi hL, sx5 hi hL, bo, jo_32 hW]
  exact lw_i h (zx_q h.1 h.2.2.1 fun T hT => X_aloneAt hT _ _) (fun σ' hm => zm_q hm (fun b hb => M_aloneAt hb _ _) (tt_aloneAt _ _ _)) (HZ_tr h.2.2.1 _) (Nat.le_trans (tt_aloneAt _ _ _) (by decide))
theorem lo_21 (h : LR z σ) (hi : i + 6 ≤ L) (hL : L ≤ 3072) : LO (lb_21 L xs 32 118 130 (nI i) σ) σ (nI i) := by
  have hW := XR_W h.1
  unfold lb_21
  simp only [sx1 hi hL, sx2 hi hL, sx3 hi hL, sx4 hi hL, sx5 hi hL, bo, jo_32 hW]
  exact lw_i h (zx_q h.1 h.2.2.1 fun T hT => X_aloneFree hT _) (fun σ' hm => zm_q hm (fun b hb => M_aloneFree hb _) (tt_aloneFree _ _)) (HZ_tr h.2.2.1 _) (Nat.le_trans (tt_aloneFree _ _) (by decide))
theorem lo_22 (h : LR z σ) (hi : i + 6 ≤ L) (hL : L ≤ 3072) : LO (lb_22 L xs 32 118 130 (nI i) σ) σ (nI i) := by
  have hW := XR_W h.1
  unfold lb_22
  simp only [sx1 hi hL, sx2 hi hL, sx3 hi hL, sx4 hi hL, sx5 hi hL, bo, jo_32 hW]
  exact lw_i h (zx_q h.1 h.2.2.1 fun T hT => X_bestAlone hT) (fun σ' hm => zm_q hm (fun b hb => M_bestAlone hb) (tt_bestAlone _)) (HZ_tr h.2.2.1 _) (Nat.le_trans (tt_bestAlone _) (by decide))
theorem lo_23 (h : LR z σ) (hi : i + 6 ≤ L) (hL : L ≤ 3072) : LO (lb_23 L xs 32 118 130 (nI i) σ) σ (nI i) := by
  have hW := XR_W h.1
  unfold lb_23
  simp only [sx1 hi hL, sx2 hi hL, sx3 hi hL, sx4 hi hL, sx5 hi hL, bo, jo_32 hW]
  exact lw_i h (zx_q h.1 h.2.2.1 fun T hT => X_seats hT) (fun σ' hm => zm_q hm (fun b hb => M_seats hb) (tt_seats _)) (HZ_tr h.2.2.1 _) (Nat.le_trans (tt_seats _) (by decide))
theorem lo_24 (h : LR z σ) (hi : i + 6 ≤ L) (hL : L ≤ 3072) : LO (lb_24 L xs 32 118 130 (nI i) σ) σ (nI i) := by
  have hW := XR_W h.1
  unfold lb_24
  simp only [sx1 hi hL, sx2 hi hL, sx3 hi hL, sx4 hi hL, sx5 hi hL, bo, jo_32 hW]
  exact lw_i h (zx_q h.1 h.2.2.1 fun T hT => X_seatOf hT _) (fun σ' hm => zm_q hm (fun b hb => M_seatOf hb _) (tt_seatOf _ _)) (HZ_tr h.2.2.1 _) (Nat.le_trans (tt_seatOf _ _) (by decide))
theorem lo_25 (h : LR z σ) (hi : i + 6 ≤ L) (hL : L ≤ 3072) : LO (lb_25 L xs 32 118 130 (nI i) σ) σ (nI i) := by
  have hW := XR_W h.1
  unfold lb_25
  simp only [sx1 hi hL, sx2 hi hL, sx3 hi hL, sx4 hi hL, sx5 hi hL, bo, jo_32 hW]
  exact lw_i h (zx_q h.1 h.2.2.1 fun T hT => X_company hT _) (fun σ' hm => zm_q hm (fun b hb => M_company hb _) (tt_company _ _)) (HZ_tr h.2.2.1 _) (Nat.le_trans (tt_company _ _) (by decide))
theorem lo_26 (h : LR z σ) (hi : i + 6 ≤ L) (hL : L ≤ 3072) : LO (lb_26 L xs 32 118 130 (nI i) σ) σ (nI i) := by
  have hW := XR_W h.1
  unfold lb_26
  simp only [sx1 hi hL, sx2 hi hL, sx3 hi hL, sx4 hi hL, sx5 hi hL, bo, jo_32 hW]
  exact lw_l h (zx_q h.1 h.2.2.1 fun T hT => X_odds hT _ _) (fun σ' hm => zm_q hm (fun b hb => M_odds hb _ _) (tt_odds _ _ _)) (HZ_tr h.2.2.1 _) (Nat.le_trans (tt_odds _ _ _) (by decide))
theorem lo_27 (h : LR z σ) (hi : i + 6 ≤ L) (hL : L ≤ 3072) : LO (lb_27 L xs 32 118 130 (nI i) σ) σ (nI i) := by
  have hW := XR_W h.1
  unfold lb_27
  simp only [sx1 hi hL, sx2 hi hL, sx3 hi hL, sx4 hi hL, sx5 hi hL, bo, jo_32 hW]
  exact lw_i h (zx_q h.1 h.2.2.1 fun T hT => X_likeliest hT) (fun σ' hm => zm_q hm (fun b hb => M_likeliest hb) (tt_likeliest _)) (HZ_tr h.2.2.1 _) (Nat.le_trans (tt_likeliest _) (by decide))
theorem lo_28 (h : LR z σ) (hi : i + 6 ≤ L) (hL : L ≤ 3072) : LO (lb_28 L xs 32 118 130 (nI i) σ) σ (nI i) := by
  have hW := XR_W h.1
  unfold lb_28
  simp only [sx1 hi hL, sx2 hi hL, sx3 hi hL, sx4 hi hL, sx5 hi hL, bo, jo_32 hW]
  exact lw_l h (zx_q h.1 h.2.2.1 fun T hT => X_among hT _ _) (fun σ' hm => zm_q hm (fun b hb => M_among hb _ _) (tt_among _ _ _)) (HZ_tr h.2.2.1 _) (Nat.le_trans (tt_among _ _ _) (by decide))
theorem lo_29 (h : LR z σ) (hi : i + 6 ≤ L) (hL : L ≤ 3072) : LO (lb_29 L xs 32 118 130 (nI i) σ) σ (nI i) := by
  have hW := XR_W h.1
  unfold lb_29
  simp only [sx1 hi hL, sx2 hi hL, sx3 hi hL, sx4 hi hL, sx5 hi hL, bo, jo_32 hW]
  exact lw_i h (zx_q h.1 h.2.2.1 fun T hT => X_suspects hT) (fun σ' hm => zm_q hm (fun b hb => M_suspects hb) (tt_suspects _)) (HZ_tr h.2.2.1 _) (Nat.le_trans (tt_suspects _) (by decide))
theorem lo_30 (h : LR z σ) (hi : i + 6 ≤ L) (hL : L ≤ 3072) : LO (lb_30 L xs 32 118 130 (nI i) σ) σ (nI i) := by
  have hW := XR_W h.1
  unfold lb_30
  simp only [sx1 hi hL, sx2 hi hL, sx3 hi hL, sx4 hi hL, sx5 hi hL, bo, jo_32 hW]
  exact lw_i h (zx_q h.1 h.2.2.1 fun T hT => X_flag hT _) (fun σ' hm => zm_q hm (fun b hb => M_flag hb _) (tt_flag _ _)) (HZ_tr h.2.2.1 _) (Nat.le_trans (tt_flag _ _) (by decide))
theorem lo_31 (h : LR z σ) (hi : i + 6 ≤ L) (hL : L ≤ 3072) : LO (lb_31 L xs 32 118 130 (nI i) σ) σ (nI i) := by
  have hW := XR_W h.1
  unfold lb_31
  simp only [sx1 hi hL, sx2 hi hL, sx3 hi hL, sx4 hi hL, sx5 hi hL, bo, jo_32 hW]
  exact lw_i h (zx_q h.1 h.2.2.1 fun T hT => X_teach hT) (fun σ' hm => zm_q hm (fun b hb => M_teach hb) (tt_teach _)) (HZ_tr h.2.2.1 _) (Nat.le_trans (tt_teach _) (by decide))
theorem lo_32 (h : LR z σ) (hi : i + 6 ≤ L) (hL : L ≤ 3072) : LO (lb_32 L xs 32 118 130 (nI i) σ) σ (nI i) := by
  have hW := XR_W h.1
  unfold lb_32
  simp only [sx1 hi hL, sx2 hi hL, sx3 hi hL, sx4 hi hL, sx5 hi hL, bo, jo_32 hW]
  exact lw_i h (zx_q h.1 h.2.2.1 fun T hT => X_hears hT _) (fun σ' hm => zm_q hm (fun b hb => M_hears hb _) (tt_hears _ _)) (HZ_tr h.2.2.1 _) (Nat.le_trans (tt_hears _ _) (by decide))
theorem lo_33 (h : LR z σ) (hi : i + 6 ≤ L) (hL : L ≤ 3072) : LO (lb_33 L xs 32 118 130 (nI i) σ) σ (nI i) := by
  have hW := XR_W h.1
  unfold lb_33
  simp only [sx1 hi hL, sx2 hi hL, sx3 hi hL, sx4 hi hL, sx5 hi hL, bo, jo_32 hW]
  by_cases hx : xs (i + 4) = 0
  · simp only [jif_t hx, if_pos hx]
    exact lw_i h (zx_q h.1 h.2.2.1 fun T hT => X_looks hT (xs (i + 1)) (if xs (i + 2) = 0 then 0 else 1) (if xs (i + 3) = 0 then 0 else 1) 0) (fun σ' hm => zm_q hm (fun b hb => M_looks hb (xs (i + 1)) (if xs (i + 2) = 0 then 0 else 1) (if xs (i + 3) = 0 then 0 else 1) 0) (tt_looks _ (xs (i + 1)) (if xs (i + 2) = 0 then 0 else 1) (if xs (i + 3) = 0 then 0 else 1) 0)) (HZ_tr h.2.2.1 _) (Nat.le_trans (tt_looks _ (xs (i + 1)) (if xs (i + 2) = 0 then 0 else 1) (if xs (i + 3) = 0 then 0 else 1) 0) (by decide))
  · simp only [jif_f hx, if_neg hx]
    exact lw_i h (zx_q h.1 h.2.2.1 fun T hT => X_looks hT (xs (i + 1)) (if xs (i + 2) = 0 then 0 else 1) (if xs (i + 3) = 0 then 0 else 1) 1) (fun σ' hm => zm_q hm (fun b hb => M_looks hb (xs (i + 1)) (if xs (i + 2) = 0 then 0 else 1) (if xs (i + 3) = 0 then 0 else 1) 1) (tt_looks _ (xs (i + 1)) (if xs (i + 2) = 0 then 0 else 1) (if xs (i + 3) = 0 then 0 else 1) 1)) (HZ_tr h.2.2.1 _) (Nat.le_trans (tt_looks _ (xs (i + 1)) (if xs (i + 2) = 0 then 0 else 1) (if xs (i + 3) = 0 then 0 else 1) 1) (by decide))
theorem lo_34 (h : LR z σ) (hi : i + 6 ≤ L) (hL : L ≤ 3072) : LO (lb_34 L xs 32 118 130 (nI i) σ) σ (nI i) := by
  have hW := XR_W h.1
  unfold lb_34
  simp only [sx1 hi hL, sx2 hi hL, sx3 hi hL, sx4 hi hL, sx5 hi hL, bo, jo_32 hW]
  exact lw_i h (zx_q h.1 h.2.2.1 fun T hT => X_rests hT _) (fun σ' hm => zm_q hm (fun b hb => M_rests hb _) (tt_rests _ _)) (HZ_tr h.2.2.1 _) (Nat.le_trans (tt_rests _ _) (by decide))
theorem lo_35 (h : LR z σ) (hi : i + 6 ≤ L) (hL : L ≤ 3072) : LO (lb_35 L xs 32 118 130 (nI i) σ) σ (nI i) := by
  have hW := XR_W h.1
  unfold lb_35
  simp only [sx1 hi hL, sx2 hi hL, sx3 hi hL, sx4 hi hL, sx5 hi hL, bo, jo_32 hW]
  exact lw_i h (zx_q h.1 h.2.2.1 fun T hT => X_rest hT _) (fun σ' hm => zm_q hm (fun b hb => M_rest hb _) (tt_rest _ _)) (HZ_tr h.2.2.1 _) (Nat.le_trans (tt_rest _ _) (by decide))
theorem lo_36 (h : LR z σ) (hi : i + 6 ≤ L) (hL : L ≤ 3072) : LO (lb_36 L xs 32 118 130 (nI i) σ) σ (nI i) := by
  have hW := XR_W h.1
  unfold lb_36
  simp only [sx1 hi hL, sx2 hi hL, sx3 hi hL, sx4 hi hL, sx5 hi hL, bo, jo_32 hW]
  exact lw_l h (zx_q h.1 h.2.2.1 fun T hT => X_safe hT _) (fun σ' hm => zm_q hm (fun b hb => M_safe hb _) (tt_safe _ _)) (HZ_tr h.2.2.1 _) (Nat.le_trans (tt_safe _ _) (by decide))
theorem lo_37 (h : LR z σ) (hi : i + 6 ≤ L) (hL : L ≤ 3072) : LO (lb_37 L xs 32 118 130 (nI i) σ) σ (nI i) := by
  have hW := XR_W h.1
  unfold lb_37
  simp only [sx1 hi hL, sx2 hi hL, sx3 hi hL, sx4 hi hL, sx5 hi hL, bo, jo_32 hW]
  exact lw_l h (zx_q h.1 h.2.2.1 fun T hT => X_sinking hT _ _) (fun σ' hm => zm_q hm (fun b hb => M_sinking hb _ _) (tt_sinking _ _ _)) (HZ_tr h.2.2.1 _) (Nat.le_trans (tt_sinking _ _ _) (by decide))
theorem lo_38 (h : LR z σ) (hi : i + 6 ≤ L) (hL : L ≤ 3072) : LO (lb_38 L xs 32 118 130 (nI i) σ) σ (nI i) := by
  have hW := XR_W h.1
  unfold lb_38
  simp only [sx1 hi hL, sx2 hi hL, sx3 hi hL, sx4 hi hL, sx5 hi hL, bo, jo_32 hW]
  exact lw_l h (zx_q h.1 h.2.2.1 fun T hT => X_mean hT _) (fun σ' hm => zm_q hm (fun b hb => M_mean hb _) (tt_mean _ _)) (HZ_tr h.2.2.1 _) (Nat.le_trans (tt_mean _ _) (by decide))
theorem lo_39 (h : LR z σ) (hi : i + 6 ≤ L) (hL : L ≤ 3072) : LO (lb_39 L xs 32 118 130 (nI i) σ) σ (nI i) := by
  have hW := XR_W h.1
  unfold lb_39
  simp only [sx1 hi hL, sx2 hi hL, sx3 hi hL, sx4 hi hL, sx5 hi hL, bo, jo_32 hW]
  exact lw_i h (zx_q h.1 h.2.2.1 fun T hT => X_afternoons hT _ _ _) (fun σ' hm => zm_q hm (fun b hb => M_afternoons hb _ _ _) (tt_afternoons _ _ _ _)) (HZ_tr h.2.2.1 _) (Nat.le_trans (tt_afternoons _ _ _ _) (by decide))
theorem lo_40 (h : LR z σ) (hi : i + 6 ≤ L) (hL : L ≤ 3072) : LO (lb_40 L xs 32 118 130 (nI i) σ) σ (nI i) := by
  have hW := XR_W h.1
  unfold lb_40
  simp only [sx1 hi hL, sx2 hi hL, sx3 hi hL, sx4 hi hL, sx5 hi hL, bo, jo_32 hW]
  exact lw_i h (zx_q h.1 h.2.2.1 fun T hT => X_worst hT _ _) (fun σ' hm => zm_q hm (fun b hb => M_worst hb _ _) (tt_worst _ _ _)) (HZ_tr h.2.2.1 _) (Nat.le_trans (tt_worst _ _ _) (by decide))
theorem lo_41 (h : LR z σ) (hi : i + 6 ≤ L) (hL : L ≤ 3072) : LO (lb_41 L xs 32 118 130 (nI i) σ) σ (nI i) := by
  have hW := XR_W h.1
  unfold lb_41
  simp only [sx1 hi hL, sx2 hi hL, sx3 hi hL, sx4 hi hL, sx5 hi hL, bo, jo_32 hW]
  exact lw_i h (ZX_man h.1 h.2.2.1 _) (fun σ' hm => ZM_man hm h.2.2.1 _) (hh_man h.2.2.1 (nOk_R h.2.1) _).1 (hh_man h.2.2.1 (nOk_R h.2.1) _).2
theorem lo_42 (h : LR z σ) (hi : i + 6 ≤ L) (hL : L ≤ 3072) : LO (lb_42 L xs 32 118 130 (nI i) σ) σ (nI i) := by
  have hW := XR_W h.1
  unfold lb_42
  simp only [sx1 hi hL, sx2 hi hL, sx3 hi hL, sx4 hi hL, sx5 hi hL, bo, jo_32 hW]
  exact lw_i h (ZX_leave h.1 h.2.2.1 _) (fun σ' hm => ZM_leave hm h.2.2.1 _) (hh_leave h.2.2.1 (nOk_R h.2.1) _).1 (hh_leave h.2.2.1 (nOk_R h.2.1) _).2
theorem lo_43 (h : LR z σ) (hi : i + 6 ≤ L) (hL : L ≤ 3072) : LO (lb_43 L xs 32 118 130 (nI i) σ) σ (nI i) := by
  have hW := XR_W h.1
  unfold lb_43
  simp only [sx1 hi hL, sx2 hi hL, sx3 hi hL, sx4 hi hL, sx5 hi hL, bo, jo_32 hW]
  exact lw_i h (ZX_seat h.1 h.2.2.1 _ _) (fun σ' hm => ZM_seat hm h.2.2.1 _ _) (hh_seat h.2.2.1 (nOk_R h.2.1) _ _).1 (hh_seat h.2.2.1 (nOk_R h.2.1) _ _).2
theorem lo_44 (h : LR z σ) (hi : i + 6 ≤ L) (hL : L ≤ 3072) : LO (lb_44 L xs 32 118 130 (nI i) σ) σ (nI i) := by
  have hW := XR_W h.1
  unfold lb_44
  simp only [sx1 hi hL, sx2 hi hL, sx3 hi hL, sx4 hi hL, sx5 hi hL, bo, jo_32 hW]
  exact lw_i h (ZX_minute h.1 h.2.2.1 _) (fun σ' hm => ZM_minute hm h.2.2.1 _) (hh_minute h.2.2.1 (nOk_R h.2.1) _).1 (hh_minute h.2.2.1 (nOk_R h.2.1) _).2
theorem lo_45 (h : LR z σ) (hi : i + 6 ≤ L) (hL : L ≤ 3072) : LO (lb_45 L xs 32 118 130 (nI i) σ) σ (nI i) := by
  have hW := XR_W h.1
  unfold lb_45
  simp only [sx1 hi hL, sx2 hi hL, sx3 hi hL, sx4 hi hL, sx5 hi hL, bo, jo_32 hW]
  exact lw_i h (ZX_lift h.1 h.2.2.1 _) (fun σ' hm => ZM_lift hm h.2.2.1 _) (hh_lift h.2.2.1 (nOk_R h.2.1) _).1 (hh_lift h.2.2.1 (nOk_R h.2.1) _).2
theorem lo_46 (h : LR z σ) (hi : i + 6 ≤ L) (hL : L ≤ 3072) : LO (lb_46 L xs 32 118 130 (nI i) σ) σ (nI i) := by
  have hW := XR_W h.1
  unfold lb_46
  simp only [sx1 hi hL, sx2 hi hL, sx3 hi hL, sx4 hi hL, sx5 hi hL, bo, jo_32 hW]
  exact lw_i h (ZX_undo h.1 h.2.2.1) (fun σ' hm => ZM_undo hm h.2.2.1) (hh_undo h.2.2.1 (nOk_R h.2.1)).1 (hh_undo h.2.2.1 (nOk_R h.2.1)).2
theorem lo_47 (h : LR z σ) (hi : i + 6 ≤ L) (hL : L ≤ 3072) : LO (lb_47 L xs 32 118 130 (nI i) σ) σ (nI i) := by
  have hW := XR_W h.1
  unfold lb_47
  simp only [sx1 hi hL, sx2 hi hL, sx3 hi hL, sx4 hi hL, sx5 hi hL, bo, jo_32 hW]
  exact lw_i h (ZX_image h.1 h.2.2.1) (fun σ' hm => ZM_image hm h.2.2.1) (hh_image h.2.2.1 (nOk_R h.2.1)).1 (hh_image h.2.2.1 (nOk_R h.2.1)).2
theorem lo_48 (h : LR z σ) (hi : i + 6 ≤ L) (hL : L ≤ 3072) : LO (lb_48 L xs 32 118 130 (nI i) σ) σ (nI i) := by
  have hW := XR_W h.1
  unfold lb_48
  simp only [sx1 hi hL, sx2 hi hL, sx3 hi hL, sx4 hi hL, sx5 hi hL, bo, jo_32 hW]
  exact lw_i h (ZX_back h.1 h.2.2.1 _) (fun σ' hm => ZM_back hm h.2.2.1 _) (hh_back h.2.2.1 (nOk_R h.2.1) _).1 (hh_back h.2.2.1 (nOk_R h.2.1) _).2
theorem lo_49 (h : LR z σ) (hi : i + 6 ≤ L) (hL : L ≤ 3072) : LO (lb_49 L xs 32 118 130 (nI i) σ) σ (nI i) := by
  have hW := XR_W h.1
  unfold lb_49
  simp only [sx1 hi hL]
  exact lw_led h _
theorem lo_50 (h : LR z σ) (hi : i + 6 ≤ L) (hL : L ≤ 3072) : LO (lb_50 L xs 32 118 130 (nI i) σ) σ (nI i) := by
  have hW := XR_W h.1
  unfold lb_50
  simp only [sx1 hi hL, sx2 hi hL, sx3 hi hL, sx4 hi hL, sx5 hi hL, bo, jo_32 hW]
  exact lw_i h (ZX_size h.1 _) (fun σ' hm => ZM_size hm _) h.2.2.1 h.2.2.2
theorem lo_51 (h : LR z σ) (hi : i + 6 ≤ L) (hL : L ≤ 3072) : LO (lb_51 L xs 32 118 130 (nI i) σ) σ (nI i) := by
  have hW := XR_W h.1
  unfold lb_51
  simp only [sx1 hi hL, sx2 hi hL, sx3 hi hL, sx4 hi hL, sx5 hi hL, bo, jo_32 hW]
  exact lw_i h (ZX_trouble h.1) (fun σ' hm => ZM_trouble hm) h.2.2.1 h.2.2.2
end
