/-! JD (1): words, the abstract heap -/
def jd_TB : List Cond := lw_tbl.filter goodWord
theorem jd_mem {w : Cond} (i : Nat) (h : lw_tbl[i]? = some w) (hg : goodWord w = true) : w ∈ jd_TB := List.mem_filter.mpr ⟨List.mem_of_getElem? h, hg⟩
theorem jd_inl (ws : List Cond) (ps : List Nat) (hp : ws = ps.filterMap (fun i => lw_tbl[i]?)) (hg : ws.all goodWord = true) : ∀ w ∈ ws, w ∈ jd_TB := by
  intro w hw
  have h1 := List.all_eq_true.mp hg w hw
  rw [hp] at hw
  obtain ⟨i, -, hi⟩ := List.mem_filterMap.mp hw
  exact jd_mem i hi h1
abbrev jd_cl : List vw_C := [(RX0, TX0, 4), (RX1, TX1, 2), (RX2, TX2, 5), (RX3, TX3, 2), (RX4, TX4, 4), (RX5, TX5, 4), (RX6, TX6, 8), (RX7, TX7, 3), (RX8, TX8, 2), (RX9, TX9, 16), (RX10, TX10, 16), (RX11, TX11, 12), (RX12, TX12, 20), (RX13, TX13, 29)]
def jd_ty (ci : Nat) : Nat → FieldType := match ci with
  | 0 => tyX0
  | 1 => tyX1
  | 2 => tyX2
  | 3 => tyX3
  | 4 => tyX4
  | 5 => tyX5
  | 6 => tyX6
  | 7 => tyX7
  | 8 => tyX8
  | 9 => tyX9
  | 10 => tyX10
  | 11 => tyX11
  | 12 => tyX12
  | _ => tyX13
set_option maxRecDepth 20000 in
theorem jd_in0 : ∀ w ∈ u_ws RX0 TX0 4, w ∈ jd_TB := jd_inl _ [406, 408, 410, 412] (by decide +kernel) (by decide +kernel)
set_option maxRecDepth 20000 in
theorem jd_in1 : ∀ w ∈ u_ws RX1 TX1 2, w ∈ jd_TB := jd_inl _ [463, 465] (by decide +kernel) (by decide +kernel)
set_option maxRecDepth 20000 in
theorem jd_in2 : ∀ w ∈ u_ws RX2 TX2 5, w ∈ jd_TB := jd_inl _ [382, 384, 386, 388, 390] (by decide +kernel) (by decide +kernel)
set_option maxRecDepth 20000 in
theorem jd_in3 : ∀ w ∈ u_ws RX3 TX3 2, w ∈ jd_TB := jd_inl _ [478, 480] (by decide +kernel) (by decide +kernel)
set_option maxRecDepth 20000 in
theorem jd_in4 : ∀ w ∈ u_ws RX4 TX4 4, w ∈ jd_TB := jd_inl _ [225, 227, 229, 231] (by decide +kernel) (by decide +kernel)
set_option maxRecDepth 20000 in
theorem jd_in5 : ∀ w ∈ u_ws RX5 TX5 4, w ∈ jd_TB := jd_inl _ [427, 429, 431, 433] (by decide +kernel) (by decide +kernel)
set_option maxRecDepth 20000 in
theorem jd_in6 : ∀ w ∈ u_ws RX6 TX6 8, w ∈ jd_TB := jd_inl _ [349, 351, 353, 355, 357, 359, 361, 363] (by decide +kernel) (by decide +kernel)
set_option maxRecDepth 20000 in
theorem jd_in7 : ∀ w ∈ u_ws RX7 TX7 3, w ∈ jd_TB := jd_inl _ [447, 449, 451] (by decide +kernel) (by decide +kernel)
set_option maxRecDepth 20000 in
theorem jd_in8 : ∀ w ∈ u_ws RX8 TX8 2, w ∈ jd_TB := jd_inl _ [134, 136] (by decide +kernel) (by decide +kernel)
set_option maxRecDepth 20000 in
theorem jd_in9 : ∀ w ∈ u_ws RX9 TX9 16, w ∈ jd_TB := jd_inl _ [164, 166, 168, 170, 172, 174, 176, 178, 180, 182, 184, 186, 188, 190, 192, 194] (by decide +kernel) (by decide +kernel)
set_option maxRecDepth 20000 in
theorem jd_in10 : ∀ w ∈ u_ws RX10 TX10 16, w ∈ jd_TB := jd_inl _ [293, 295, 297, 299, 301, 303, 305, 307, 309, 311, 313, 315, 317, 319, 321, 323] (by decide +kernel) (by decide +kernel)
set_option maxRecDepth 20000 in
theorem jd_in11 : ∀ w ∈ u_ws RX11 TX11 12, w ∈ jd_TB := jd_inl _ [497, 499, 501, 503, 505, 507, 509, 511, 513, 515, 517, 519] (by decide +kernel) (by decide +kernel)
set_option maxRecDepth 20000 in
theorem jd_in12 : ∀ w ∈ u_ws RX12 TX12 20, w ∈ jd_TB := jd_inl _ [1430, 1432, 1434, 1436, 1438, 1440, 1442, 1444, 1446, 1448, 1450, 1452, 1454, 1456, 1458, 1460, 1462, 1464, 1466, 1468] (by decide +kernel) (by decide +kernel)
set_option maxRecDepth 20000 in
theorem jd_in13 : ∀ w ∈ u_ws RX13 TX13 29, w ∈ jd_TB := jd_inl _ [1317, 1319, 1321, 1323, 1325, 1327, 1329, 1331, 1333, 1335, 1337, 1339, 1341, 1343, 1345, 1347, 1349, 1351, 1353, 1355, 1357, 1359, 1361, 1363, 1365, 1367, 1369, 1371, 1373] (by decide +kernel) (by decide +kernel)
/-- of a class of the list: its words, its fields' types, its fields' names -/
theorem jd_lay {ci : Nat} {C : String} {T : u_T} {N : Nat} (h : jd_cl[ci]? = some (C, T, N)) : (∀ w ∈ u_ws C T N, w ∈ jd_TB) ∧ (∀ k, k < N → parseFieldDescriptor (T k).2.2.1 = some (jd_ty ci k)) ∧ (∀ a, a < N → ∀ b, b < N → a ≠ b → (T a).2.1 ≠ (T b).2.1) := by
  match ci, h with
  | 0, h => cases h; exact ⟨jd_in0, tyX0_ok, nmX0⟩
  | 1, h => cases h; exact ⟨jd_in1, tyX1_ok, nmX1⟩
  | 2, h => cases h; exact ⟨jd_in2, tyX2_ok, nmX2⟩
  | 3, h => cases h; exact ⟨jd_in3, tyX3_ok, nmX3⟩
  | 4, h => cases h; exact ⟨jd_in4, tyX4_ok, nmX4⟩
  | 5, h => cases h; exact ⟨jd_in5, tyX5_ok, nmX5⟩
  | 6, h => cases h; exact ⟨jd_in6, tyX6_ok, nmX6⟩
  | 7, h => cases h; exact ⟨jd_in7, tyX7_ok, nmX7⟩
  | 8, h => cases h; exact ⟨jd_in8, tyX8_ok, nmX8⟩
  | 9, h => cases h; exact ⟨jd_in9, tyX9_ok, nmX9⟩
  | 10, h => cases h; exact ⟨jd_in10, tyX10_ok, nmX10⟩
  | 11, h => cases h; exact ⟨jd_in11, tyX11_ok, nmX11⟩
  | 12, h => cases h; exact ⟨jd_in12, tyX12_ok, nmX12⟩
  | 13, h => cases h; exact ⟨jd_in13, tyX13_ok, nmX13⟩
  | n + 14, h => simp [jd_cl] at h
/-- shapes of the cells (class, fields) or (kind of array, length); what the cells hold: ints, longs, references -/
abbrev jd_Hp : Type := List (Nat × Nat) × (Nat → Nat → Int32) × (Nat → Nat → Int64) × (Nat → Nat → Option Nat)
def jd_u {α : Type} (f : Nat → Nat → α) (a k : Nat) (v : α) : Nat → Nat → α := fun b j => if b = a then (if j = k then v else f b j) else f b j
def jd_pi (σ : jd_Hp) (a k : Nat) (v : Int32) : jd_Hp := (σ.1, jd_u σ.2.1 a k v, σ.2.2.1, σ.2.2.2)
def jd_pl (σ : jd_Hp) (a k : Nat) (v : Int64) : jd_Hp := (σ.1, σ.2.1, jd_u σ.2.2.1 a k v, σ.2.2.2)
def jd_pr (σ : jd_Hp) (a k : Nat) (v : Option Nat) : jd_Hp := (σ.1, σ.2.1, σ.2.2.1, jd_u σ.2.2.2 a k v)
def jd_0 {α : Type} (f : Nat → Nat → α) (a : Nat) (v : α) : Nat → Nat → α := fun b j => if b = a then v else f b j
def jd_new (σ : jd_Hp) (x : Nat × Nat) : jd_Hp := (σ.1 ++ [x], jd_0 σ.2.1 σ.1.length 0, jd_0 σ.2.2.1 σ.1.length 0, jd_0 σ.2.2.2 σ.1.length none)
/-- base, classes and slots, addresses, classes of arrays -/
abbrev jd_G : Type := Nat × va_G × (Nat → Nat) × (Nat → ClassId)
def jd_v (G : jd_G) (o : Option Nat) : Value := va_rf (o.map G.2.2.1)
def jd_fv (G : jd_G) (σ : jd_Hp) (a : Nat) (ty : FieldType) (k : Nat) : Value := match ty with
  | .long => .long (σ.2.2.1 a k)
  | .object _ => jd_v G (σ.2.2.2 a k)
  | .array _ => jd_v G (σ.2.2.2 a k)
  | _ => .int (σ.2.1 a k)
def jd_fs (G : jd_G) (σ : jd_Hp) (a ci N : Nat) : List Value := (List.range N).map fun k => jd_fv G σ a (jd_ty ci k) k
def jd_e (G : jd_G) (σ : jd_Hp) (a : Nat) (x : Nat × Nat) : Option va_E :=
  if x.1 < 14 then some (.inr (x.1, jd_fs G σ a x.1 x.2)) else
  if x.1 = 20 then some (.inl (G.2.2.2 0, x.2, .inl (σ.2.1 a))) else
  if x.1 = 21 then some (.inl (G.2.2.2 1, x.2, .inl (σ.2.1 a))) else
  if x.1 = 22 then some (.inl (G.2.2.2 2, x.2, .inl (σ.2.1 a))) else
  if x.1 = 23 then some (.inl (G.2.2.2 3, x.2, .inr (.inl (σ.2.2.1 a)))) else
  if x.1 = 24 then some (.inl (G.2.2.2 4, x.2, .inr (.inr (.inr (.inr (fun j => (σ.2.2.2 a j).map G.2.2.1)))))) else none
def jd_H (G : jd_G) (σ : jd_Hp) (H : Heap) : Prop := 32 ≤ σ.1.length ∧ H.size + 32 = G.1 + σ.1.length ∧ (∀ (a : Nat) (x : Nat × Nat), a < 32 → σ.1[a]? = some x → 30 ≤ x.1) ∧ ∀ (a : Nat) (x : Nat × Nat) (e : va_E), σ.1[a]? = some x → jd_e G σ a x = some e → va_at G.2.1 jd_cl (G.2.2.1 a, e) H
def jd_tys (G : jd_G) : List (ClassId × FieldType) := [(G.2.2.2 0, .int), (G.2.2.2 1, .byte), (G.2.2.2 2, .boolean), (G.2.2.2 3, .long), (G.2.2.2 4, .object RX4)]
/-- the places of the String constants -/
def jd_tm (i : Nat) : Term := match i with
  | 0 => .string RX9 93   -- beach
  | 1 => .string RX9 102   -- person
  | 2 => .string RX9 107   -- post
  | 3 => .string RX9 112   -- manned
  | 4 => .string RX9 117   -- knows
  | 5 => .string RX9 122   -- waved
  | 6 => .string RX9 217   -- still
  | 7 => .string RX9 128   -- limit
  | 8 => .string RX9 136   -- heat
  | 9 => .string RX9 140   -- slips
  | 10 => .string RX9 209   -- reader
  | 11 => .string RX9 211   -- talker
  | 12 => .string RX9 213   -- sleeper
  | 13 => .string RX9 215   -- child
  | 14 => .string RX9 155   -- at
  | 15 => .string RX9 160   -- thought
  | 16 => .string RX9 164   -- by
  | _ => .string RX9 174   -- off
def jd_F (s0 : State) (G : jd_G) : Prop := (∃ A0 : Array Value, (∀ w ∈ lw_tbl, w.before A0 s0 = true) ∧ (Jvm.Cond.and given_1 narrow_1).before A0 s0 = true ∧ ∀ i, i < 18 → (jd_tm i).eval A0 s0 none [] s0 = some (.ref (G.2.2.1 i))) ∧ va_K G.2.1 jd_cl (jd_tys G) s0 ∧ (∀ a, 32 ≤ a → G.2.2.1 a + 32 = G.1 + a) ∧ G.1 = s0.heap.size
def jd_p (σ σ' : jd_Hp) : Prop := ∃ t, σ'.1 = σ.1 ++ t
def jd_z (σ : jd_Hp) : Nat := (σ.1.map (fun x => x.2)).sum
theorem jd_p.rf (σ : jd_Hp) : jd_p σ σ := ⟨[], (List.append_nil _).symm⟩
theorem jd_p.tr {a b c : jd_Hp} (h : jd_p a b) (g : jd_p b c) : jd_p a c := by
  obtain ⟨t, ht⟩ := h
  obtain ⟨u, hu⟩ := g
  exact ⟨t ++ u, by rw [hu, ht, List.append_assoc]⟩
theorem jd_p.at {σ σ' : jd_Hp} (h : jd_p σ σ') {a : Nat} {x : Nat × Nat} (hx : σ.1[a]? = some x) : σ'.1[a]? = some x := by
  obtain ⟨t, ht⟩ := h
  rw [ht, List.getElem?_append_left (List.getElem?_eq_some_iff.mp hx).1]
  exact hx
theorem jd_p.len {σ σ' : jd_Hp} (h : jd_p σ σ') : σ.1.length ≤ σ'.1.length := by
  obtain ⟨t, ht⟩ := h
  rw [ht, List.length_append]
  omega
theorem jd_p.z {σ σ' : jd_Hp} (h : jd_p σ σ') : jd_z σ ≤ jd_z σ' := by
  obtain ⟨t, ht⟩ := h
  simp [jd_z, ht]
theorem jd_p.new (σ : jd_Hp) (x : Nat × Nat) : jd_p σ (jd_new σ x) := ⟨[x], rfl⟩
theorem jd_p.of {σ σ1 : jd_Hp} (h : σ1.1 = σ.1) : jd_p σ σ1 := ⟨[], by rw [h, List.append_nil]⟩
/-- a heap of which one cell is another -/
theorem jd_H.one {G : jd_G} {s0 : State} (hF : jd_F s0 G) {σ σ' : jd_Hp} {H H1 : Heap} (h : jd_H G σ H) (hs : σ'.1 = σ.1) {a : Nat} {x : Nat × Nat} {e0 : va_E} (hx : σ.1[a]? = some x) (hx0 : jd_e G σ a x = some e0) {e : va_E} (he : jd_e G σ' a x = some e) (hat : va_at G.2.1 jd_cl (G.2.2.1 a, e) H1) (hz : H1.size = H.size) (ho : ∀ q : Nat, q ≠ G.2.2.1 a → H1[q]? = H[q]?) (hrest : ∀ (b : Nat) (y : Nat × Nat), b ≠ a → jd_e G σ' b y = jd_e G σ b y) : jd_H G σ' H1 := by
  have kind : ∀ (b : Nat) (y : Nat × Nat) (eb : va_E), jd_e G σ b y = some eb → y.1 < 30 := by
    intro b y eb hb
    unfold jd_e at hb
    by_cases h1 : y.1 < 14
    · omega
    · by_cases h2 : y.1 < 25
      · omega
      · simp [h1, show ¬ y.1 = 20 by omega, show ¬ y.1 = 21 by omega, show ¬ y.1 = 22 by omega, show ¬ y.1 = 23 by omega, show ¬ y.1 = 24 by omega] at hb
  refine ⟨by rw [hs]; exact h.1, by rw [hs, hz]; exact h.2.1, by rw [hs]; exact h.2.2.1, fun b y eb hb hbe => ?_⟩
  rw [hs] at hb
  by_cases hab : b = a
  · subst hab
    have : y = x := Option.some.inj (hb.symm.trans hx)
    subst this
    have : eb = e := Option.some.inj (hbe.symm.trans he)
    subst this
    exact hat
  · rw [hrest b y hab] at hbe
    refine (h.2.2.2 b y eb hb hbe).kept (ho _ ?_)
    have ka := kind a x e0 hx0
    have kb := kind b y eb hbe
    have la : 32 ≤ a := Nat.not_lt.mp fun q => by have := h.2.2.1 a x q hx; omega
    have lb : 32 ≤ b := Nat.not_lt.mp fun q => by have := h.2.2.1 b y q hb; omega
    have ea := hF.2.2.1 a la
    have eb' := hF.2.2.1 b lb
    show G.2.2.1 b ≠ G.2.2.1 a
    omega
theorem jd_u_ne {α : Type} {f : Nat → Nat → α} {a k b : Nat} {v : α} (h : b ≠ a) : jd_u f a k v b = f b := by
  funext j
  simp [jd_u, h]
theorem jd_0_ne {α : Type} {f : Nat → Nat → α} {a b : Nat} {v : α} (h : b ≠ a) : jd_0 f a v b = f b := by
  funext j
  simp [jd_0, h]
theorem jd_e_pi {G : jd_G} {σ : jd_Hp} {a k : Nat} {v : Int32} (b : Nat) (y : Nat × Nat) (h : b ≠ a) : jd_e G (jd_pi σ a k v) b y = jd_e G σ b y := by
  have e1 : (jd_pi σ a k v).2.1 b = σ.2.1 b := jd_u_ne h
  simp only [jd_e, jd_fs, jd_fv, e1]
  rfl
theorem jd_e_pl {G : jd_G} {σ : jd_Hp} {a k : Nat} {v : Int64} (b : Nat) (y : Nat × Nat) (h : b ≠ a) : jd_e G (jd_pl σ a k v) b y = jd_e G σ b y := by
  have e1 : (jd_pl σ a k v).2.2.1 b = σ.2.2.1 b := jd_u_ne h
  simp only [jd_e, jd_fs, jd_fv, e1]
  rfl
theorem jd_e_pr {G : jd_G} {σ : jd_Hp} {a k : Nat} {v : Option Nat} (b : Nat) (y : Nat × Nat) (h : b ≠ a) : jd_e G (jd_pr σ a k v) b y = jd_e G σ b y := by
  have e1 : (jd_pr σ a k v).2.2.2 b = σ.2.2.2 b := jd_u_ne h
  simp only [jd_e, jd_fs, jd_fv, e1]
  rfl
theorem jd_e_ob {G : jd_G} {σ : jd_Hp} {a ci N : Nat} (h : ci < 14) : jd_e G σ a (ci, N) = some (.inr (ci, jd_fs G σ a ci N)) := by
  simp [jd_e, h]
theorem jd_fs_get {G : jd_G} {σ : jd_Hp} {a ci N k : Nat} (h : k < N) : (jd_fs G σ a ci N)[k]? = some (jd_fv G σ a (jd_ty ci k) k) := by
  simp [jd_fs, h]
theorem jd_P1 {D : va_G} {cl : List vw_C} {q : Nat × va_E} {H : Heap} (h : va_at D cl q H) : va_P D cl [q] H := by
  intro k x hx
  match k, hx with
  | 0, hx => cases hx; exact h
  | k + 1, hx => simp at hx

/-! JD (2): the judgement -/
abbrev jd_X : Type := Program × Launch × Env × State × MethodId × Array Value × List Frame × Method × Code × State × jd_G × Nat × Nat × Nat
abbrev jd_rm (d mc ms : Nat) : Room := { frames := d, cells := mc, slots := ms, locals := 64 * d }
def jd_al : Nat → List (Option Value) → List (Nat × Value)
  | _, [] => []
  | k, none :: t => jd_al (k + 1) t
  | k, some v :: t => (k, v) :: jd_al (k + 1) t
def jd_L (ls : Array Slot) (nL : Nat) (lv : List (Option Value)) : Prop := lv.length = nL ∧ lv_has ls nL (jd_al 0 lv)
def jd_C (X : jd_X) (own nm : String) (cc : ByteArray) (nL : Nat) (ret : Option FieldType) : Prop := match X with
  | (p, _, _, s, m, _, _, meth, c, s0, G, _, _, _) => p.tables.exec = Jvm.exec ∧ c.code = cc ∧ c.maxLocals = nL ∧ s.vm.findClass own = some m.cls ∧ meth.sig.returnType = ret ∧ meth.locks = false ∧ meth.name = nm ∧ s0.WarmedH s.vm ∧ G.1 ≤ s.heap.size ∧ (∀ q, q < G.1 → s.heap[q]? = s0.heap[q]?) ∧ jd_F s0 G
def jd_gG (X : jd_X) : jd_G := X.2.2.2.2.2.2.2.2.2.2.1
def jd_Q (G : jd_G) {R : Type} (emb : R → Option Value) (v : R) (σ' : jd_Hp) : Array Value → State → Outcome → State → Prop := fun _ st o t => o = .returned (emb v) ∧ jd_H G σ' t.heap ∧ va_F (fun q => G.1 ≤ q) st t
def jd_S {R : Type} (X : jd_X) (emb : R → Option Value) (pc : Nat) (lv : List (Option Value)) (st : List Value) (σ : jd_Hp) (cm : Option (R × jd_Hp)) : Prop := match X with
  | (p, l, e, s, m, args, below, meth, c, _, G, d, mc, ms) => ∀ (v : R) (σ' : jd_Hp), cm = some (v, σ') → jd_p σ σ' ∧ ∀ (ls : Array Slot) (H : Heap) (locs : List Loc) (cells slots : Nat), jd_L ls c.maxLocals lv → jd_H G σ H → va_S (fun q => G.1 ≤ q) s.heap H locs → cells + σ'.1.length ≤ mc + σ.1.length → slots + jd_z σ' ≤ ms + jd_z σ →
    W p l e (jd_rm d mc ms) s m args below meth c H locs cells slots (MQ below (jd_Q G emb v σ') args s mc ms (fun q => G.1 ≤ q)) (F0 m pc ls st)
/-- one run behind another -/
def jd_b {α β : Type} (c : Option (α × jd_Hp)) (K : α → jd_Hp → Option (β × jd_Hp)) : Option (β × jd_Hp) := match c with
  | some (a, σ) => K a σ
  | none => none
def jd_K0 {α : Type} (a : α) (σ : jd_Hp) : Option (α × jd_Hp) := some (a, σ)
theorem jd_b_K0 {α : Type} (c : Option (α × jd_Hp)) : jd_b c jd_K0 = c := by
  rcases c with _ | ⟨a, σ⟩ <;> rfl
theorem jd_b_b {α β γ : Type} (c : Option (α × jd_Hp)) (A : α → jd_Hp → Option (β × jd_Hp)) (K : β → jd_Hp → Option (γ × jd_Hp)) : jd_b (jd_b c A) K = jd_b c fun a σ => jd_b (A a σ) K := by
  rcases c with _ | ⟨a, σ⟩ <;> rfl
/-- a reference that isn't null, of a shape -/
def jd_o {α : Type} (σ : jd_Hp) (x : Nat × Nat) (o : Option Nat) (A : Nat → Option (α × jd_Hp)) : Option (α × jd_Hp) := match o with
  | some a => if σ.1[a]? = some x then A a else none
  | none => none
/-- a place of an array -/
def jd_ia {α : Type} (σ : jd_Hp) (kd : Nat) (o : Option Nat) (i : Int32) (A : Nat → Nat → Option (α × jd_Hp)) : Option (α × jd_Hp) := match o with
  | some a => match σ.1[a]? with
    | some (k, n) => if k = kd ∧ ¬ i < 0 ∧ i.toNatClampNeg < n then A a i.toNatClampNeg else none
    | none => none
  | none => none
/-- the length of an array -/
def jd_ln {α : Type} (σ : jd_Hp) (kd : Nat) (o : Option Nat) (A : Nat → Option (α × jd_Hp)) : Option (α × jd_Hp) := match o with
  | some a => match σ.1[a]? with
    | some (k, n) => if k = kd then A n else none
    | none => none
  | none => none
def jd_if {α : Type} (c : Prop) [Decidable c] (A B : Option (α × jd_Hp)) : Option (α × jd_Hp) := if c then A else B
def jd_nz {α : Type} (c : Prop) [Decidable c] (A : Option (α × jd_Hp)) : Option (α × jd_Hp) := if c then none else A
def jd_q {T R β : Type} (f : T → jd_Hp → Option (β × jd_Hp)) (g : R → jd_Hp → Option (β × jd_Hp)) : T ⊕ R → jd_Hp → Option (β × jd_Hp) := fun t σ => match t with
  | .inl a => f a σ
  | .inr v => g v σ
def jd_lp {S T : Type} (body : S → jd_Hp → Option ((S ⊕ T) × jd_Hp)) : Nat → S → jd_Hp → Option (T × jd_Hp)
  | 0, _, _ => none
  | n + 1, s, σ => jd_b (body s σ) (jd_q (fun s' σ' => jd_lp body n s' σ') jd_K0)
def jd_sw {α : Type} (x : Int32) (lo : Int) (As : List α) (D : α) : α := if x.toInt < lo then D else As.getD (x.toInt - lo).toNat D
section JD2
variable {R τ : Type} {X : jd_X} {emb : R → Option Value} {own nm : String} {cc : ByteArray} {nL : Nat} {ret : Option FieldType} {pc pc' : Nat} {lv : List (Option Value)} {st st' : List Value} {σ : jd_Hp} {cm : Option (R × jd_Hp)} {K : τ → jd_Hp → Option (R × jd_Hp)}
/-- an instruction that leaves locals and heap -/
theorem jd_pure (h : match X with
  | (p, l, e, s, m, args, below, meth, c, _, _, d, mc, ms) => ∀ (ls : Array Slot) (H : Heap) (locs : List Loc) (cells slots : Nat) (Q : State → Prop), jd_L ls c.maxLocals lv → W p l e (jd_rm d mc ms) s m args below meth c H locs cells slots Q (F0 m pc' ls st') → W p l e (jd_rm d mc ms) s m args below meth c H locs cells slots Q (F0 m pc ls st)) (k : jd_S X emb pc' lv st' σ cm) : jd_S X emb pc lv st σ cm := by
  obtain ⟨p, l, e, s, m, args, below, meth, c, s0, G, d, mc, ms⟩ := X
  intro v σ' hv
  obtain ⟨h1, h2⟩ := k v σ' hv
  exact ⟨h1, fun ls H locs cells slots a b c d f => h ls H locs cells slots _ a (h2 ls H locs cells slots a b c d f)⟩
theorem jd_words (hX : jd_C X own nm cc nL ret) : match X with
  | (_, _, _, s, _, args, _, _, _, _, _, _, _, _) => ∀ w ∈ jd_TB, w.before args s = true := by
  obtain ⟨p, l, e, s, m, args, below, meth, c, s0, G, d, mc, ms⟩ := X
  obtain ⟨-, -, -, -, -, -, -, hW, -, -, ⟨A0, h0, -⟩, -⟩ := hX
  intro w hw
  obtain ⟨h1, h2⟩ := List.mem_filter.mp hw
  exact word_at hW (good_of_word h2) (h0 w h1)
theorem jd_at {lv : List (Option Value)} {ls : Array Slot} {n i : Nat} {v : Value} (h : jd_L ls n lv) (hi : lv[i]? = some (some v)) : ls[i]? = some (.val v) := by
  refine h.2.2.2 (i, v) ?_
  have key : ∀ (lv : List (Option Value)) (k i : Nat), lv[i]? = some (some v) → (k + i, v) ∈ jd_al k lv := by
    intro lv
    induction lv with
    | nil => intro k i h; simp at h
    | cons o t ih =>
      intro k i h
      cases i with
      | zero =>
        simp at h
        subst h
        simp [jd_al]
      | succ i =>
        have := ih (k + 1) i (by simpa using h)
        rw [show k + (i + 1) = k + 1 + i by omega]
        cases o <;> simp [jd_al, this]
  simpa using key lv 0 i hi
end JD2

