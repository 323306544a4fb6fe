/-! the pool of finished Parts -/
abbrev cellP (a : Nat) (kd x y : Int32) (m : Nat) (b it nm : Option Nat) : Nat × va_E := (a, .inr (6, [.int kd, .int x, .int y, .int (nI m), va_rf b, va_rf it, va_rf nm]))
abbrev cellB (G : GG) (q n : Nat) (f : Nat → Int32) : Nat × va_E := (q, .inl (G.2.1 0, n, .inl f))
abbrev cellI (G : GG) (q n : Nat) (g : Nat → Option Nat) : Nat × va_E := (q, .inl (G.2.1 2, n, .inr (.inr (.inr (.inr g)))))
abbrev cellN (G : GG) (q n : Nat) (g : Nat → Option Nat) : Nat × va_E := (q, .inl (G.2.1 3, n, .inr (.inr (.inr (.inr g)))))
def BG (G : GG) (pl : va_W) (q n : Nat) : Prop := ∃ f, cellB G q n f ∈ pl ∧ sb_Fit f
def sm (f : Nat → Nat) : Nat → Nat
  | 0 => 0
  | n + 1 => sm f n + f n
/-- a number of at most c digits; its sign -/
def NumOk (x : Int32) (c : Nat) (sg : Int) : Prop := (1 ≤ c ∧ c ≤ 9) ∧ ((0 ≤ x.toInt ∧ sg = 0 ∧ x.toInt < 10 ^ c) ∨ (x.toInt < 0 ∧ sg = 1 ∧ -x.toInt < 10 ^ c))
/-- what a Part's numbers are, and how many bytes it is at most when written: w -/
def KD (kd x y : Int32) (m : Nat) (b it nm : Option Nat) (w : Nat) (ws nl : Nat → Nat) : Prop :=
  ((kd = 0 ∨ kd = 1 ∨ kd = 2) ∧ m = 0 ∧ b = none ∧ nm = none ∧ 5 ≤ w) ∨
  (kd = 3 ∧ m = 0 ∧ b = none ∧ nm = none ∧ ∃ (c : Nat) (sg : Int), NumOk x c sg ∧ c + sg ≤ w) ∨
  (kd = 4 ∧ m = 0 ∧ b ≠ none ∧ nm = none ∧ nl 0 ≤ 100 ∧ 1 + nl 0 ≤ w) ∨
  (kd = 5 ∧ m = 0 ∧ b ≠ none ∧ nm = none ∧ nl 0 ≤ 100 ∧ 2 + 2 * nl 0 ≤ w) ∨
  (kd = 8 ∧ m = 0 ∧ b = none ∧ nm = none ∧ ∃ c1 c2 : Nat, NumOk x c1 0 ∧ NumOk y c2 0 ∧ c1 + c2 + 3 ≤ w) ∨
  (kd = 6 ∧ b = none ∧ nm = none ∧ it ≠ none ∧ 2 + sm (fun j => ws j + 1) m ≤ w) ∨
  (kd = 7 ∧ b = none ∧ nm ≠ none ∧ it ≠ none ∧ (∀ j, j < m → nl j ≤ 20) ∧ 4 + sm (fun j => ws j + nl j + 3) m ≤ w)
/-- a good Part: its depth d, its written size at most w -/
def GP (G : GG) (pl : va_W) : Nat → Nat → Nat → Prop
  | 0, _, _ => False
  | d + 1, w, a => ∃ (kd x y : Int32) (m : Nat) (b it nm : Option Nat) (ws nl : Nat → Nat), cellP a kd x y m b it nm ∈ pl ∧ m ≤ 60 ∧ KD kd x y m b it nm w ws nl ∧
      (∀ q, b = some q → BG G pl q (nl 0)) ∧
      (∀ q, it = some q → ∃ n g, cellI G q n g ∈ pl ∧ m ≤ n ∧ n ≤ 64 ∧ ∀ j, j < m → ∃ c, g j = some c ∧ GP G pl d (ws j) c) ∧
      (∀ q, nm = some q → ∃ n g, cellN G q n g ∈ pl ∧ m ≤ n ∧ n ≤ 64 ∧ ∀ j, j < m → ∃ c, g j = some c ∧ BG G pl c (nl j))
theorem BG.mono {G : GG} {pl pl' : va_W} {q n : Nat} (hs : ∀ z ∈ pl, z ∈ pl') (h : BG G pl q n) : BG G pl' q n := by
  obtain ⟨f, h1, h2⟩ := h
  exact ⟨f, hs _ h1, h2⟩
theorem GP.mono {G : GG} {pl pl' : va_W} (hs : ∀ z ∈ pl, z ∈ pl') : ∀ {d w a : Nat}, GP G pl d w a → GP G pl' d w a := by
  intro d
  induction d with
  | zero => intro w a h; exact h
  | succ d ih =>
    intro w a h
    obtain ⟨kd, x, y, m, b, it, nm, ws, nl, h1, h2, h3, h4, h5, h6⟩ := h
    refine ⟨kd, x, y, m, b, it, nm, ws, nl, hs _ h1, h2, h3, fun q hq => (h4 q hq).mono hs, fun q hq => ?_, fun q hq => ?_⟩
    · obtain ⟨n, g, g1, g2, g3, g4⟩ := h5 q hq
      refine ⟨n, g, hs _ g1, g2, g3, fun j hj => ?_⟩
      obtain ⟨c, c1, c2⟩ := g4 j hj
      exact ⟨c, c1, ih c2⟩
    · obtain ⟨n, g, g1, g2, g3, g4⟩ := h6 q hq
      refine ⟨n, g, hs _ g1, g2, g3, fun j hj => ?_⟩
      obtain ⟨c, c1, c2⟩ := g4 j hj
      exact ⟨c, c1, c2.mono hs⟩
theorem GP.wide {G : GG} {pl : va_W} {d w w' a : Nat} (h : GP G pl d w a) (hw : w ≤ w') : GP G pl d w' a := by
  cases d with
  | zero => exact h
  | succ d =>
    obtain ⟨kd, x, y, m, b, it, nm, ws, nl, h1, h2, h3, h4⟩ := h
    refine ⟨kd, x, y, m, b, it, nm, ws, nl, h1, h2, ?_, h4⟩
    rcases h3 with h | h | h | h | h | h | h
    · exact Or.inl ⟨h.1, h.2.1, h.2.2.1, h.2.2.2.1, by omega⟩
    · obtain ⟨e1, e2, e3, e4, c, sg, e5, e6⟩ := h
      exact Or.inr (Or.inl ⟨e1, e2, e3, e4, c, sg, e5, by omega⟩)
    · exact Or.inr (Or.inr (Or.inl ⟨h.1, h.2.1, h.2.2.1, h.2.2.2.1, h.2.2.2.2.1, by omega⟩))
    · exact Or.inr (Or.inr (Or.inr (Or.inl ⟨h.1, h.2.1, h.2.2.1, h.2.2.2.1, h.2.2.2.2.1, by omega⟩)))
    · obtain ⟨e1, e2, e3, e4, c1, c2, e5, e6, e7⟩ := h
      exact Or.inr (Or.inr (Or.inr (Or.inr (Or.inl ⟨e1, e2, e3, e4, c1, c2, e5, e6, by omega⟩))))
    · exact Or.inr (Or.inr (Or.inr (Or.inr (Or.inr (Or.inl ⟨h.1, h.2.1, h.2.2.1, h.2.2.2.1, by omega⟩)))))
    · exact Or.inr (Or.inr (Or.inr (Or.inr (Or.inr (Or.inr ⟨h.1, h.2.1, h.2.2.1, h.2.2.2.1, h.2.2.2.2.1, by omega⟩)))))
theorem GP.leaf {G : GG} {pl : va_W} {d a : Nat} {kd x y : Int32} (h1 : cellP a kd x y 0 none none none ∈ pl) (hk : kd = 0 ∨ kd = 1 ∨ kd = 2) : GP G pl (d + 1) 5 a :=
  ⟨kd, x, y, 0, none, none, none, fun _ => 0, fun _ => 0, h1, by omega, Or.inl ⟨hk, rfl, rfl, rfl, by omega⟩, (fun _ h => by cases h), (fun _ h => by cases h), (fun _ h => by cases h)⟩
theorem GP.int {G : GG} {pl : va_W} {d a : Nat} {x y : Int32} {c w : Nat} {sg : Int} (h1 : cellP a 3 x y 0 none none none ∈ pl) (hn : NumOk x c sg) (hw : c + sg ≤ w) : GP G pl (d + 1) w a :=
  ⟨3, x, y, 0, none, none, none, fun _ => 0, fun _ => 0, h1, by omega, Or.inr (Or.inl ⟨rfl, rfl, rfl, rfl, c, sg, hn, hw⟩), (fun _ h => by cases h), (fun _ h => by cases h), (fun _ h => by cases h)⟩
theorem GP.ref {G : GG} {pl : va_W} {d a : Nat} {x y : Int32} {c1 c2 w : Nat} (h1 : cellP a 8 x y 0 none none none ∈ pl) (hn : NumOk x c1 0) (hm : NumOk y c2 0) (hw : c1 + c2 + 3 ≤ w) : GP G pl (d + 1) w a :=
  ⟨8, x, y, 0, none, none, none, fun _ => 0, fun _ => 0, h1, by omega, Or.inr (Or.inr (Or.inr (Or.inr (Or.inl ⟨rfl, rfl, rfl, rfl, c1, c2, hn, hm, hw⟩)))), (fun _ h => by cases h), (fun _ h => by cases h), (fun _ h => by cases h)⟩
theorem GP.name {G : GG} {pl : va_W} {d a q n : Nat} {x y : Int32} (h1 : cellP a 4 x y 0 (some q) none none ∈ pl) (hb : BG G pl q n) (hn : n ≤ 100) : GP G pl (d + 1) (1 + n) a :=
  ⟨4, x, y, 0, some q, none, none, fun _ => 0, fun _ => n, h1, by omega, Or.inr (Or.inr (Or.inl ⟨rfl, rfl, by simp, rfl, hn, Nat.le_refl _⟩)), (fun z h => by cases h; exact hb), (fun _ h => by cases h), (fun _ h => by cases h)⟩
theorem GP.str {G : GG} {pl : va_W} {d a q n : Nat} {x y : Int32} (h1 : cellP a 5 x y 0 (some q) none none ∈ pl) (hb : BG G pl q n) (hn : n ≤ 100) : GP G pl (d + 1) (2 + 2 * n) a :=
  ⟨5, x, y, 0, some q, none, none, fun _ => 0, fun _ => n, h1, by omega, Or.inr (Or.inr (Or.inr (Or.inl ⟨rfl, rfl, by simp, rfl, hn, Nat.le_refl _⟩))), (fun z h => by cases h; exact hb), (fun _ h => by cases h), (fun _ h => by cases h)⟩
/-- what name(), string(), digits(), reference(v) answer -/
def NameR (G : GG) (pl pl2 : va_W) (a0 a2 sz : Int32) (v : Option Nat) : Prop := (v = none ∧ pl2 = pl ∧ a2.toInt = a0.toInt) ∨ ∃ (p q n : Nat) (f : Nat → Int32), v = some p ∧ pl2 = cellP p 4 0 0 0 (some q) none none :: cellB G q n f :: pl ∧ sb_Fit f ∧ 1 ≤ n ∧ n ≤ 20 ∧ a2.toInt = a0.toInt + 1 + n ∧ a2.toInt ≤ sz.toInt
def StrR (G : GG) (pl pl2 : va_W) (a0 a2 sz : Int32) (v : Option Nat) : Prop := (v = none ∧ pl2 = pl) ∨ ∃ (p q n : Nat) (f : Nat → Int32), v = some p ∧ pl2 = cellP p 5 0 0 0 (some q) none none :: cellB G q n f :: pl ∧ sb_Fit f ∧ n ≤ 100 ∧ a0.toInt + n + 2 ≤ a2.toInt ∧ a2.toInt ≤ sz.toInt
def RefR (pl pl2 : va_W) (x : Int32) (a0 a2 sz : Int32) (v : Option Nat) : Prop := (v = none ∧ pl2 = pl) ∨ ∃ (p c2 : Nat) (g : Int32), v = some p ∧ pl2 = cellP p 8 x g 0 none none none :: pl ∧ NumOk g c2 0 ∧ a0.toInt + c2 + 2 ≤ a2.toInt ∧ a2.toInt ≤ sz.toInt
theorem ref_ok {pl : va_W} {x g : Int32} {p : Nat} {a0 b0 b1 a2 sz : Int32} (h : (g.toInt < 0 ∧ b1.toInt = b0.toInt) ∨ (0 ≤ g.toInt ∧ g.toInt < 10 ^ (b1.toInt - b0.toInt).toNat ∧ 1 ≤ b1.toInt - b0.toInt ∧ b1.toInt - b0.toInt ≤ 9 ∧ b1.toInt ≤ sz.toInt)) (hg : 0 ≤ g.toInt) (hz : b1.toInt + 2 ≤ a2.toInt ∧ a2.toInt ≤ sz.toInt) (h0 : a0.toInt ≤ b0.toInt) : RefR pl (cellP p 8 x g 0 none none none :: pl) x a0 a2 sz (some p) := by
  rcases h with h | h
  · omega
  · exact Or.inr ⟨p, (b1.toInt - b0.toInt).toNat, g, rfl, rfl, ⟨⟨by omega, by omega⟩, Or.inl ⟨hg, rfl, h.2.1⟩⟩, by omega, hz.2⟩
def rm_M_ofBytes : Room := { frames := 2, cells := 2, slots := 107, locals := 50 }
set_option maxHeartbeats 4000000 in
set_option maxRecDepth 100000 in
theorem c_M_ofBytes (l : Launch) (G : GG) (mm : Nat) (tp : Nat) (tk : Nat) (ou : Nat) (pg : Nat) (sz : Int32) (at0 : Int32) (tm : Int32) (om : Int32) (wr : Int32) (al : Value) (pt : Value) (tx : Value) (tkf : Nat → Int32) (n : Int32) (nn : Nat) (hsf : sb_Fit tkf) (hr : n.toInt = nn ∧ nn ≤ 100) : MR l y_M_ofBytes b_M_ofBytes 3 (.object "ValueTextsModel$Part") rm_M_ofBytes G [.ref mm, .int n] [(mm, .inr (5, [tx, .int sz, .int at0, .ref tk, .ref tp, .ref ou, .int tm, .int om, al, pt, .ref pg, .int wr])), (tk, .inl (G.2.1 0, 101, .inl tkf))] (fun (v : Nat) (u : Nat × Nat × (Nat → Int32)) => (u.1 = v) ∧ (sb_Fit u.2.2)) (fun (u : Nat × Nat × (Nat → Int32)) => [(mm, .inr (5, [tx, .int sz, .int at0, .ref tk, .ref tp, .ref ou, .int tm, .int om, al, pt, .ref pg, .int wr])), (tk, .inl (G.2.1 0, 101, .inl tkf)), (u.1, .inr (6, [.int 5, .int 0, .int 0, .int 0, .ref u.2.1, .null, .null])), (u.2.1, .inl (G.2.1 0, nn, .inl u.2.2))]) 2 107 := by
  refine MR.of (cc := b_M_ofBytes) (maxL := 3) (ty := .object "ValueTextsModel$Part") (C := R_M) (by decide +kernel) rfl (Nat.le_of_ble_eq_true rfl) (Or.inl ⟨_, rfl⟩) ?_
  intro p e s m args below meth c A Q H ls hx hb hml hown hw hE hA hP hD hS ret hl
  have hl : lv_has ls 3 [(0, .ref mm), (1, .int n)] := hl
  refine va_new (ci := 6) (fs := [.int 0, .int 0, .int 0, .int 0, .null, .null, .null]) (C := R_Part) (T := F_Part) (N := 7) hx hb hw i_Part t_Part t_Part_ok hown (hw _ m_535) (hw _ m_536) (hw _ m_10) hE.1 hP hD hS hA rfl (fun j hj => by rcases (show j = 0 ∨ j = 1 ∨ j = 2 ∨ j = 3 ∨ j = 4 ∨ j = 5 ∨ j = 6 by omega) with rfl | rfl | rfl | rfl | rfl | rfl | rfl <;> rfl) (Nat.le_of_ble_eq_true rfl) (Nat.le_of_ble_eq_true rfl) d_M_ofBytes_0 (fun q_1 H hP hD hS => ?_)
  have hP : va_P G.1 vwCl [(mm, .inr (5, [tx, .int sz, .int at0, .ref tk, .ref tp, .ref ou, .int tm, .int om, al, pt, .ref pg, .int wr])), (tk, .inl (G.2.1 0, 101, .inl tkf)), (q_1, .inr (6, [.int 0, .int 0, .int 0, .int 0, .null, .null, .null]))] H := hP
  have hD : va_D A [(mm, .inr (5, [tx, .int sz, .int at0, .ref tk, .ref tp, .ref ou, .int tm, .int om, al, pt, .ref pg, .int wr])), (tk, .inl (G.2.1 0, 101, .inl tkf)), (q_1, .inr (6, [.int 0, .int 0, .int 0, .int 0, .null, .null, .null]))] := hD
  refine W.widen (k := 1) (n := 7) (Nat.le_of_ble_eq_true rfl) (Nat.le_of_ble_eq_true rfl) ?_
  refine lv_dup hx hb d_M_ofBytes_3 rfl ?_
  refine lv_iconst (v := 5) hx hb d_M_ofBytes_4 (by decide) ?_
  refine gc_v (wr := [(mm, .inr (5, [tx, .int sz, .int at0, .ref tk, .ref tp, .ref ou, .int tm, .int om, al, pt, .ref pg, .int wr])), (tk, .inl (G.2.1 0, 101, .inl tkf))]) (gc_I (wc := [(q_1, .inr (6, [.int 0, .int 0, .int 0, .int 0, .null, .null, .null]))]) (As := [.int 5]) (rest := [.ref q_1]) ⟨hx, hb, hml, hown, hw⟩ (c_Part_init l G q_1 5 H.size) (cwI 1 hw (good_U m_539) rfl rfl rfl (hw _ m_10) (hw _ m_537) (hw _ m_538) rfl hy_Part_init.2 ⟨Nat.le_of_ble_eq_true rfl, Nat.le_of_ble_eq_true rfl⟩) hE hP hD hS hA [2] rfl (by decide) rfl hl rfl (Nat.le_of_ble_eq_true rfl) d_M_ofBytes_5 ⟨Nat.le_of_ble_eq_true rfl, Nat.le_of_ble_eq_true rfl⟩) hP hD hS hA [2] [0, 1] rfl rfl (by decide) (by decide) (fun u_3 H locs hw_4 hP hD hS => ?_)
  have hP : va_P G.1 vwCl [(mm, .inr (5, [tx, .int sz, .int at0, .ref tk, .ref tp, .ref ou, .int tm, .int om, al, pt, .ref pg, .int wr])), (tk, .inl (G.2.1 0, 101, .inl tkf)), (q_1, .inr (6, [.int 5, .int 0, .int 0, .int 0, .null, .null, .null]))] H := hP
  have hD : va_D A [(mm, .inr (5, [tx, .int sz, .int at0, .ref tk, .ref tp, .ref ou, .int tm, .int om, al, pt, .ref pg, .int wr])), (tk, .inl (G.2.1 0, 101, .inl tkf)), (q_1, .inr (6, [.int 5, .int 0, .int 0, .int 0, .null, .null, .null]))] := hD
  refine lv_astore_n (lv' := [(2, .ref q_1), (0, .ref mm), (1, .int n)]) hx hb d_M_ofBytes_8 rfl hl (by decide) rfl (fun ls hl => ?_)
  refine lv_aload_n hx hb d_M_ofBytes_9 rfl (lv_at hl 0 rfl) ?_
  refine lv_aload_n hx hb d_M_ofBytes_10 rfl (lv_at hl 1 rfl) ?_
  refine va_get (D := G.1) (ci := 5) (v := .ref tk) (C := R_M) (T := F_M) (N := 12) hx hb hw i_M hown hE.1 hP 0 rfl rfl 3 (by decide) (hw _ m_456) (fun _ h9 => h9) rfl d_M_ofBytes_11 ?_
  refine lv_iload_n hx hb d_M_ofBytes_14 rfl (lv_at hl 2 rfl) ?_
  refine gc_r (wr := [(mm, .inr (5, [tx, .int sz, .int at0, .ref tk, .ref tp, .ref ou, .int tm, .int om, al, pt, .ref pg, .int wr])), (q_1, .inr (6, [.int 5, .int 0, .int 0, .int 0, .null, .null, .null]))]) (gc_S (wc := [(tk, .inl (G.2.1 0, 101, .inl tkf))]) (As := [.ref tk, .int n]) (rest := [.ref q_1]) ⟨hx, hb, hml, hown, hw⟩ (c_Arr_copyOf l G tk 101 tkf n nn hsf (by decide) (⟨hr.1, hr.2, by omega⟩) H.size) (va_cwS 2 hw (good_S m_605 m_606 m_11 m_607) rfl rfl rfl hy_Arr_copyOf.2 ⟨Nat.le_of_ble_eq_true rfl, Nat.le_of_ble_eq_true rfl⟩) hE hP hD hS hA [1] rfl (by decide) rfl hl rfl (Nat.le_of_ble_eq_true rfl) d_M_ofBytes_15 ⟨Nat.le_of_ble_eq_true rfl, Nat.le_of_ble_eq_true rfl⟩) hP hD hS hA [1] [0, 2] rfl rfl (by decide) (by decide) (fun r_5 u_6 H locs hw_7 hP hD hS => ?_)
  obtain ⟨q_8, cf_9⟩ := u_6
  try dsimp only at hw_7
  obtain ⟨h_10, h_11⟩ := hw_7
  subst h_10
  have hP : va_P G.1 vwCl [(mm, .inr (5, [tx, .int sz, .int at0, .ref tk, .ref tp, .ref ou, .int tm, .int om, al, pt, .ref pg, .int wr])), (q_1, .inr (6, [.int 5, .int 0, .int 0, .int 0, .null, .null, .null])), (tk, .inl (G.2.1 0, 101, .inl tkf)), (q_8, .inl (G.2.1 0, nn, .inl cf_9))] H := hP
  have hD : va_D A [(mm, .inr (5, [tx, .int sz, .int at0, .ref tk, .ref tp, .ref ou, .int tm, .int om, al, pt, .ref pg, .int wr])), (q_1, .inr (6, [.int 5, .int 0, .int 0, .int 0, .null, .null, .null])), (tk, .inl (G.2.1 0, 101, .inl tkf)), (q_8, .inl (G.2.1 0, nn, .inl cf_9))] := hD
  refine W.widen (k := 2) (n := 107) (Nat.le_of_ble_eq_true rfl) (Nat.le_of_ble_eq_true rfl) ?_
  refine va_put (D := G.1) (ci := 6) (v := .ref q_8) (ty := (.array .byte)) (C := R_Part) (T := F_Part) (N := 7) hx hb hw i_Part t_Part t_Part_ok n_Part hown hE.1 hP hD hS 1 rfl rfl 4 (by decide) (hw _ m_547) (fun _ h9 => h9) rfl (by decide +kernel) rfl rfl (Nat.le_of_ble_eq_true rfl) d_M_ofBytes_18 (fun H locs hP hD hS => ?_)
  have hP : va_P G.1 vwCl [(mm, .inr (5, [tx, .int sz, .int at0, .ref tk, .ref tp, .ref ou, .int tm, .int om, al, pt, .ref pg, .int wr])), (q_1, .inr (6, [.int 5, .int 0, .int 0, .int 0, .ref q_8, .null, .null])), (tk, .inl (G.2.1 0, 101, .inl tkf)), (q_8, .inl (G.2.1 0, nn, .inl cf_9))] H := hP
  have hD : va_D A [(mm, .inr (5, [tx, .int sz, .int at0, .ref tk, .ref tp, .ref ou, .int tm, .int om, al, pt, .ref pg, .int wr])), (q_1, .inr (6, [.int 5, .int 0, .int 0, .int 0, .ref q_8, .null, .null])), (tk, .inl (G.2.1 0, 101, .inl tkf)), (q_8, .inl (G.2.1 0, nn, .inl cf_9))] := hD
  refine lv_aload_n hx hb d_M_ofBytes_21 rfl (lv_at hl 0 rfl) ?_
  exact ret q_1 (q_1, q_8, cf_9) (Nat.le_of_ble_eq_true rfl) (Nat.le_of_ble_eq_true rfl) d_M_ofBytes_22 ⟨rfl, h_11⟩ (hP.sub [0, 2, 1, 3] rfl) (hD.sub [0, 2, 1, 3] (by decide) rfl) hS
def rm_M_name : Room := { frames := 3, cells := 2, slots := 107, locals := 74 }
set_option maxHeartbeats 4000000 in
set_option maxRecDepth 100000 in
theorem c_M_name (l : Launch) (G : GG) (mm : Nat) (tp : Nat) (tk : Nat) (ou : Nat) (pg : Nat) (sz : Int32) (at0 : Int32) (tm : Int32) (om : Int32) (wr : Int32) (al : Value) (pt : Value) (tpf : Nat → Int32) (pl : va_W) (hz : 0 ≤ sz.toInt ∧ sz.toInt ≤ 1000) (hc : 0 ≤ at0.toInt ∧ at0.toInt ≤ sz.toInt) (hlt : at0.toInt < sz.toInt) (hft : sb_Fit tpf) : MO l y_M_name b_M_name 3 (.object "ValueTextsModel$Part") rm_M_name G [.ref mm] ([(mm, .inr (5, [.ref tp, .int sz, .int at0, .ref tk, .ref tp, .ref ou, .int tm, .int om, al, pt, .ref pg, .int wr])), (tp, .inl (G.2.1 0, 1000, .inl tpf))] ++ pl) (fun (v : Option Nat) (u : Int32 × va_W) => (NameR G pl u.2 at0 u.1 sz v) ∧ (at0.toInt ≤ u.1.toInt ∧ u.1.toInt ≤ sz.toInt)) (fun (u : Int32 × va_W) => ([(mm, .inr (5, [.ref tp, .int sz, .int u.1, .ref tk, .ref tp, .ref ou, .int tm, .int om, al, pt, .ref pg, .int wr])), (tp, .inl (G.2.1 0, 1000, .inl tpf))] ++ u.2)) (fun (v : Option Nat) (u : Int32 × va_W) => 2) (fun (v : Option Nat) (u : Int32 × va_W) => 107) 2 107 := by
  refine MO.of (cc := b_M_name) (maxL := 3) (ty := .object "ValueTextsModel$Part") (C := R_M) (by decide +kernel) rfl (Nat.le_of_ble_eq_true rfl) (Or.inl ⟨_, rfl⟩) ?_
  intro p e s m args below meth c A Q H ls hx hb hml hown hw hE hA hP hD hS ret hl
  have hl : lv_has ls 3 [(0, .ref mm)] := hl
  refine lv_aload_n hx hb d_M_name_0 rfl (lv_at hl 0 rfl) ?_
  refine lv_aload_n hx hb d_M_name_1 rfl (lv_at hl 0 rfl) ?_
  refine va_get (D := G.1) (ci := 5) (v := .int at0) (C := R_M) (T := F_M) (N := 12) hx hb hw i_M hown hE.1 hP 0 rfl rfl 2 (by decide) (hw _ m_455) (fun _ h9 => h9) rfl d_M_name_2 ?_
  refine lv_iconst (v := 1) hx hb d_M_name_5 (by decide) ?_
  refine lv_iadd hx hb d_M_name_6 ?_
  refine lv_topi (fun y_1 ey_1 => ?_)
  have tl_1 : (1 : Int32).toInt = 1 := by decide
  have ty_1 := z_addE ey_1
  refine gq_i (X := [(mm, .inr (5, [.ref tp, .int sz, .int at0, .ref tk, .ref tp, .ref ou, .int tm, .int om, al, pt, .ref pg, .int wr])), (tp, .inl (G.2.1 0, 1000, .inl tpf))]) (wr := []) (gh_V (wc := [(mm, .inr (5, [.ref tp, .int sz, .int at0, .ref tk, .ref tp, .ref ou, .int tm, .int om, al, pt, .ref pg, .int wr])), (tp, .inl (G.2.1 0, 1000, .inl tpf))]) (As := [.int y_1]) (rest := []) ⟨hx, hb, hml, hown, hw⟩ (c_M_wordEnd l G mm tp tk ou pg sz at0 tm om wr al pt tpf y_1 hz (by first | assumption | trivial | omega | (dsimp only; omega)) H.size) (cwV 1 hw (good_V m_524 m_526 ms_34 m_4 m_527) rfl rfl rfl hy_M_wordEnd ⟨Nat.le_of_ble_eq_true rfl, Nat.le_of_ble_eq_true rfl⟩) (gP.here (wc := [(mm, .inr (5, [.ref tp, .int sz, .int at0, .ref tk, .ref tp, .ref ou, .int tm, .int om, al, pt, .ref pg, .int wr])), (tp, .inl (G.2.1 0, 1000, .inl tpf))]) hE hP hD hS hA [0, 1] rfl (by decide)) (va_recv hE.1 hP (ci := 5) (q0 := 0) rfl rfl) rfl hl rfl (Nat.le_of_ble_eq_true rfl) d_M_name_7 ⟨Nat.le_of_ble_eq_true rfl, Nat.le_of_ble_eq_true rfl⟩) hP hD hS hA [0, 1] [] rfl rfl rfl (by decide) (by decide) (fun r_2 u_3 H locs hw_4 hP hD hS => ?_)
  try dsimp only at hw_4
  have h_5 := hw_4
  have hP : va_P G.1 vwCl ([(mm, .inr (5, [.ref tp, .int sz, .int at0, .ref tk, .ref tp, .ref ou, .int tm, .int om, al, pt, .ref pg, .int wr])), (tp, .inl (G.2.1 0, 1000, .inl tpf))] ++ pl) H := hP
  have hD : va_D A ([(mm, .inr (5, [.ref tp, .int sz, .int at0, .ref tk, .ref tp, .ref ou, .int tm, .int om, al, pt, .ref pg, .int wr])), (tp, .inl (G.2.1 0, 1000, .inl tpf))] ++ pl) := hD
  refine lv_istore_n (lv' := [(1, .int r_2), (0, .ref mm)]) hx hb d_M_name_10 rfl hl (by decide) rfl (fun ls hl => ?_)
  refine lv_iload_n hx hb d_M_name_11 rfl (lv_at hl 0 rfl) ?_
  refine lv_aload_n hx hb d_M_name_12 rfl (lv_at hl 1 rfl) ?_
  refine va_get (D := G.1) (ci := 5) (v := .int at0) (C := R_M) (T := F_M) (N := 12) hx hb hw i_M hown hE.1 hP 0 rfl rfl 2 (by decide) (hw _ m_455) (fun _ h9 => h9) rfl d_M_name_13 ?_
  refine lv_isub hx hb d_M_name_16 ?_
  refine lv_topi (fun y_6 ey_6 => ?_)
  have ty_6 := z_subE ey_6
  refine lv_iconst (v := 1) hx hb d_M_name_17 (by decide) ?_
  refine lv_isub hx hb d_M_name_18 ?_
  refine lv_topi (fun y_7 ey_7 => ?_)
  have ty_7 := z_subE ey_7
  refine lv_i2l hx hb d_M_name_19 rfl ?_
  refine lv_lconst (v := 1) hx hb d_M_name_20 rfl ?_
  refine lv_ldc2 (v := 20) hx hb hown (hw _ m_534) d_M_name_21 ?_
  refine gq_i (X := [(mm, .inr (5, [.ref tp, .int sz, .int at0, .ref tk, .ref tp, .ref ou, .int tm, .int om, al, pt, .ref pg, .int wr])), (tp, .inl (G.2.1 0, 1000, .inl tpf))]) (wr := [(mm, .inr (5, [.ref tp, .int sz, .int at0, .ref tk, .ref tp, .ref ou, .int tm, .int om, al, pt, .ref pg, .int wr])), (tp, .inl (G.2.1 0, 1000, .inl tpf))]) (gh_S (wc := []) (As := [.long y_7.toInt64, .long 1, .long 20]) (rest := []) ⟨hx, hb, hml, hown, hw⟩ (c_M_in l G y_7.toInt64 1 20 y_7.toInt 1 20 (Int32.toInt_toInt64 _) (by decide) (by decide) H.size) (va_cwS 3 hw (good_S m_498 m_499 m_4 m_500) rfl rfl rfl hy_M_in.2 ⟨Nat.le_of_ble_eq_true rfl, Nat.le_of_ble_eq_true rfl⟩) (gP.here (wc := []) hE hP hD hS hA [] rfl (by decide)) rfl hl rfl (Nat.le_of_ble_eq_true rfl) d_M_name_24 ⟨Nat.le_of_ble_eq_true rfl, Nat.le_of_ble_eq_true rfl⟩) hP hD hS hA [] [0, 1] rfl rfl rfl (by decide) (by decide) (fun r_8 u_9 H locs hw_10 hP hD hS => ?_)
  try dsimp only at hw_10
  have h_11 := hw_10
  have hP : va_P G.1 vwCl ([(mm, .inr (5, [.ref tp, .int sz, .int at0, .ref tk, .ref tp, .ref ou, .int tm, .int om, al, pt, .ref pg, .int wr])), (tp, .inl (G.2.1 0, 1000, .inl tpf))] ++ pl) H := hP
  have hD : va_D A ([(mm, .inr (5, [.ref tp, .int sz, .int at0, .ref tk, .ref tp, .ref ou, .int tm, .int om, al, pt, .ref pg, .int wr])), (tp, .inl (G.2.1 0, 1000, .inl tpf))] ++ pl) := hD
  refine lv_if_ne (tgt := 32) hx hb d_M_name_27 (by decide) (fun c_12 => ?_) (fun c_12 => ?_)
  · have tc_12 := bool_t h_11 c_12
    obtain ⟨nn, hnn⟩ : ∃ nn : Nat, (nn : Int) = r_2.toInt - at0.toInt - 1 := ⟨(r_2.toInt - at0.toInt - 1).toNat, by omega⟩
    refine va_new (ci := 6) (fs := [.int 0, .int 0, .int 0, .int 0, .null, .null, .null]) (C := R_Part) (T := F_Part) (N := 7) hx hb hw i_Part t_Part t_Part_ok hown (hw _ m_535) (hw _ m_536) (hw _ m_10) hE.1 hP hD hS hA rfl (fun j hj => by rcases (show j = 0 ∨ j = 1 ∨ j = 2 ∨ j = 3 ∨ j = 4 ∨ j = 5 ∨ j = 6 by omega) with rfl | rfl | rfl | rfl | rfl | rfl | rfl <;> rfl) (Nat.le_of_ble_eq_true rfl) (Nat.le_of_ble_eq_true rfl) d_M_name_32 (fun q_13 H hP hD hS => ?_)
    have hP := pl_front hP
    have hD := pl_frontD hD
    have hP : va_P G.1 vwCl ([(mm, .inr (5, [.ref tp, .int sz, .int at0, .ref tk, .ref tp, .ref ou, .int tm, .int om, al, pt, .ref pg, .int wr])), (tp, .inl (G.2.1 0, 1000, .inl tpf)), (q_13, .inr (6, [.int 0, .int 0, .int 0, .int 0, .null, .null, .null]))] ++ pl) H := hP
    have hD : va_D A ([(mm, .inr (5, [.ref tp, .int sz, .int at0, .ref tk, .ref tp, .ref ou, .int tm, .int om, al, pt, .ref pg, .int wr])), (tp, .inl (G.2.1 0, 1000, .inl tpf)), (q_13, .inr (6, [.int 0, .int 0, .int 0, .int 0, .null, .null, .null]))] ++ pl) := hD
    refine W.widen (k := 1) (n := 7) (Nat.le_of_ble_eq_true rfl) (Nat.le_of_ble_eq_true rfl) ?_
    refine lv_dup hx hb d_M_name_35 rfl ?_
    refine lv_iconst (v := 4) hx hb d_M_name_36 (by decide) ?_
    refine gq_v (X := [(mm, .inr (5, [.ref tp, .int sz, .int at0, .ref tk, .ref tp, .ref ou, .int tm, .int om, al, pt, .ref pg, .int wr])), (tp, .inl (G.2.1 0, 1000, .inl tpf)), (q_13, .inr (6, [.int 0, .int 0, .int 0, .int 0, .null, .null, .null]))]) (wr := [(mm, .inr (5, [.ref tp, .int sz, .int at0, .ref tk, .ref tp, .ref ou, .int tm, .int om, al, pt, .ref pg, .int wr])), (tp, .inl (G.2.1 0, 1000, .inl tpf))]) (gh_I (wc := [(q_13, .inr (6, [.int 0, .int 0, .int 0, .int 0, .null, .null, .null]))]) (As := [.int 4]) (rest := [.ref q_13]) ⟨hx, hb, hml, hown, hw⟩ (c_Part_init l G q_13 4 H.size) (cwI 1 hw (good_U m_539) rfl rfl rfl (hw _ m_10) (hw _ m_537) (hw _ m_538) rfl hy_Part_init.2 ⟨Nat.le_of_ble_eq_true rfl, Nat.le_of_ble_eq_true rfl⟩) (gP.here (wc := [(q_13, .inr (6, [.int 0, .int 0, .int 0, .int 0, .null, .null, .null]))]) hE hP hD hS hA [2] rfl (by decide)) rfl hl rfl (Nat.le_of_ble_eq_true rfl) d_M_name_37 ⟨Nat.le_of_ble_eq_true rfl, Nat.le_of_ble_eq_true rfl⟩) hP hD hS hA [2] [0, 1] rfl rfl rfl (by decide) (by decide) (fun u_15 H locs hw_16 hP hD hS => ?_)
    have hP : va_P G.1 vwCl ([(mm, .inr (5, [.ref tp, .int sz, .int at0, .ref tk, .ref tp, .ref ou, .int tm, .int om, al, pt, .ref pg, .int wr])), (tp, .inl (G.2.1 0, 1000, .inl tpf)), (q_13, .inr (6, [.int 4, .int 0, .int 0, .int 0, .null, .null, .null]))] ++ pl) H := hP
    have hD : va_D A ([(mm, .inr (5, [.ref tp, .int sz, .int at0, .ref tk, .ref tp, .ref ou, .int tm, .int om, al, pt, .ref pg, .int wr])), (tp, .inl (G.2.1 0, 1000, .inl tpf)), (q_13, .inr (6, [.int 4, .int 0, .int 0, .int 0, .null, .null, .null]))] ++ pl) := hD
    refine lv_astore_n (lv' := [(2, .ref q_13), (1, .int r_2), (0, .ref mm)]) hx hb d_M_name_40 rfl hl (by decide) rfl (fun ls hl => ?_)
    refine lv_aload_n hx hb d_M_name_41 rfl (lv_at hl 0 rfl) ?_
    refine lv_aload_n hx hb d_M_name_42 rfl (lv_at hl 2 rfl) ?_
    refine va_get (D := G.1) (ci := 5) (v := .ref tp) (C := R_M) (T := F_M) (N := 12) hx hb hw i_M hown hE.1 hP 0 rfl rfl 0 (by decide) (hw _ m_453) (fun _ h9 => h9) rfl d_M_name_43 ?_
    refine lv_aload_n hx hb d_M_name_46 rfl (lv_at hl 2 rfl) ?_
    refine va_get (D := G.1) (ci := 5) (v := .int at0) (C := R_M) (T := F_M) (N := 12) hx hb hw i_M hown hE.1 hP 0 rfl rfl 2 (by decide) (hw _ m_455) (fun _ h9 => h9) rfl d_M_name_47 ?_
    refine lv_iconst (v := 1) hx hb d_M_name_50 (by decide) ?_
    refine lv_iadd hx hb d_M_name_51 ?_
    refine lv_topi (fun y_17 ey_17 => ?_)
    have ty_17 := z_addE ey_17
    refine lv_iload_n hx hb d_M_name_52 rfl (lv_at hl 1 rfl) ?_
    refine gq_r (X := [(mm, .inr (5, [.ref tp, .int sz, .int at0, .ref tk, .ref tp, .ref ou, .int tm, .int om, al, pt, .ref pg, .int wr])), (tp, .inl (G.2.1 0, 1000, .inl tpf)), (q_13, .inr (6, [.int 4, .int 0, .int 0, .int 0, .null, .null, .null]))]) (wr := [(mm, .inr (5, [.ref tp, .int sz, .int at0, .ref tk, .ref tp, .ref ou, .int tm, .int om, al, pt, .ref pg, .int wr])), (q_13, .inr (6, [.int 4, .int 0, .int 0, .int 0, .null, .null, .null]))]) (gh_S (wc := [(tp, .inl (G.2.1 0, 1000, .inl tpf))]) (As := [.ref tp, .int y_17, .int r_2]) (rest := [.ref q_13]) ⟨hx, hb, hml, hown, hw⟩ (c_Arr_copyOfRange l G tp 1000 tpf y_17 r_2 nn hft (by decide) (by first | assumption | trivial | omega | (dsimp only; omega)) (by first | assumption | trivial | omega | (dsimp only; omega)) H.size) (va_cwS 3 hw (good_S m_567 m_568 m_11 m_569) rfl rfl rfl hy_Arr_copyOfRange.2 ⟨Nat.le_of_ble_eq_true rfl, Nat.le_of_ble_eq_true rfl⟩) (gP.here (wc := [(tp, .inl (G.2.1 0, 1000, .inl tpf))]) hE hP hD hS hA [1] rfl (by decide)) rfl hl rfl (Nat.le_of_ble_eq_true rfl) d_M_name_53 ⟨Nat.le_of_ble_eq_true rfl, Nat.le_of_ble_eq_true rfl⟩) hP hD hS hA [1] [0, 2] rfl rfl rfl (by decide) (by decide) (fun r_18 u_19 H locs hw_20 hP hD hS => ?_)
    obtain ⟨q_21, cf_22⟩ := u_19
    try dsimp only at hw_20
    obtain ⟨h_23, h_24⟩ := hw_20
    subst h_23
    have hP : va_P G.1 vwCl ([(mm, .inr (5, [.ref tp, .int sz, .int at0, .ref tk, .ref tp, .ref ou, .int tm, .int om, al, pt, .ref pg, .int wr])), (q_13, .inr (6, [.int 4, .int 0, .int 0, .int 0, .null, .null, .null])), (tp, .inl (G.2.1 0, 1000, .inl tpf)), (q_21, .inl (G.2.1 0, nn, .inl cf_22))] ++ pl) H := hP
    have hD : va_D A ([(mm, .inr (5, [.ref tp, .int sz, .int at0, .ref tk, .ref tp, .ref ou, .int tm, .int om, al, pt, .ref pg, .int wr])), (q_13, .inr (6, [.int 4, .int 0, .int 0, .int 0, .null, .null, .null])), (tp, .inl (G.2.1 0, 1000, .inl tpf)), (q_21, .inl (G.2.1 0, nn, .inl cf_22))] ++ pl) := hD
    refine W.widen (k := 2) (n := 107) (Nat.le_of_ble_eq_true rfl) (Nat.le_of_ble_eq_true rfl) ?_
    refine va_put (D := G.1) (ci := 6) (v := .ref q_21) (ty := (.array .byte)) (C := R_Part) (T := F_Part) (N := 7) hx hb hw i_Part t_Part t_Part_ok n_Part hown hE.1 hP hD hS 1 rfl rfl 4 (by decide) (hw _ m_547) (fun _ h9 => h9) rfl (by decide +kernel) rfl rfl (Nat.le_of_ble_eq_true rfl) d_M_name_56 (fun H locs hP hD hS => ?_)
    have hP : va_P G.1 vwCl ([(mm, .inr (5, [.ref tp, .int sz, .int at0, .ref tk, .ref tp, .ref ou, .int tm, .int om, al, pt, .ref pg, .int wr])), (q_13, .inr (6, [.int 4, .int 0, .int 0, .int 0, .ref q_21, .null, .null])), (tp, .inl (G.2.1 0, 1000, .inl tpf)), (q_21, .inl (G.2.1 0, nn, .inl cf_22))] ++ pl) H := hP
    have hD : va_D A ([(mm, .inr (5, [.ref tp, .int sz, .int at0, .ref tk, .ref tp, .ref ou, .int tm, .int om, al, pt, .ref pg, .int wr])), (q_13, .inr (6, [.int 4, .int 0, .int 0, .int 0, .ref q_21, .null, .null])), (tp, .inl (G.2.1 0, 1000, .inl tpf)), (q_21, .inl (G.2.1 0, nn, .inl cf_22))] ++ pl) := hD
    refine lv_aload_n hx hb d_M_name_59 rfl (lv_at hl 2 rfl) ?_
    refine lv_iload_n hx hb d_M_name_60 rfl (lv_at hl 1 rfl) ?_
    refine va_put (D := G.1) (ci := 5) (v := .int r_2) (ty := .int) (C := R_M) (T := F_M) (N := 12) hx hb hw i_M t_M t_M_ok n_M hown hE.1 hP hD hS 0 rfl rfl 2 (by decide) (hw _ m_455) (fun _ h9 => h9) rfl (by decide +kernel) rfl rfl (Nat.le_of_ble_eq_true rfl) d_M_name_61 (fun H locs hP hD hS => ?_)
    have hP : va_P G.1 vwCl ([(mm, .inr (5, [.ref tp, .int sz, .int r_2, .ref tk, .ref tp, .ref ou, .int tm, .int om, al, pt, .ref pg, .int wr])), (q_13, .inr (6, [.int 4, .int 0, .int 0, .int 0, .ref q_21, .null, .null])), (tp, .inl (G.2.1 0, 1000, .inl tpf)), (q_21, .inl (G.2.1 0, nn, .inl cf_22))] ++ pl) H := hP
    have hD : va_D A ([(mm, .inr (5, [.ref tp, .int sz, .int r_2, .ref tk, .ref tp, .ref ou, .int tm, .int om, al, pt, .ref pg, .int wr])), (q_13, .inr (6, [.int 4, .int 0, .int 0, .int 0, .ref q_21, .null, .null])), (tp, .inl (G.2.1 0, 1000, .inl tpf)), (q_21, .inl (G.2.1 0, nn, .inl cf_22))] ++ pl) := hD
    refine lv_aload_n hx hb d_M_name_64 rfl (lv_at hl 0 rfl) ?_
    exact ret (some q_13) (r_2, ((q_13, .inr (6, [.int 4, .int 0, .int 0, .int 0, .ref q_21, .null, .null])) :: ((q_21, .inl (G.2.1 0, nn, .inl cf_22)) :: pl))) (Nat.le_of_ble_eq_true rfl) (Nat.le_of_ble_eq_true rfl) (Nat.le_of_ble_eq_true rfl) (Nat.le_of_ble_eq_true rfl) d_M_name_65 ⟨(Or.inr ⟨_, _, nn, _, rfl, rfl, (by assumption), (by first | omega | (dsimp only; omega)), (by first | omega | (dsimp only; omega)), (by first | omega | (dsimp only; omega)), (by first | omega | (dsimp only; omega))⟩), (by first | assumption | trivial | omega | (dsimp only; omega))⟩ (hP.part (cx := [(mm, .inr (5, [.ref tp, .int sz, .int r_2, .ref tk, .ref tp, .ref ou, .int tm, .int om, al, pt, .ref pg, .int wr])), (tp, .inl (G.2.1 0, 1000, .inl tpf)), (q_13, .inr (6, [.int 4, .int 0, .int 0, .int 0, .ref q_21, .null, .null])), (q_21, .inl (G.2.1 0, nn, .inl cf_22))]) [0, 2, 1, 3] rfl) (hD.part (cx := [(mm, .inr (5, [.ref tp, .int sz, .int r_2, .ref tk, .ref tp, .ref ou, .int tm, .int om, al, pt, .ref pg, .int wr])), (tp, .inl (G.2.1 0, 1000, .inl tpf)), (q_13, .inr (6, [.int 4, .int 0, .int 0, .int 0, .ref q_21, .null, .null])), (q_21, .inl (G.2.1 0, nn, .inl cf_22))]) [0, 2, 1, 3] (by decide) rfl) hS
  · have tc_12 := bool_f h_11 c_12
    refine lv_null hx hb d_M_name_30 ?_
    exact ret none (at0, pl) (Nat.le_of_ble_eq_true rfl) (Nat.le_of_ble_eq_true rfl) (Nat.le_of_ble_eq_true rfl) (Nat.le_of_ble_eq_true rfl) d_M_name_31 ⟨Or.inl ⟨rfl, rfl, rfl⟩, (by first | assumption | trivial | omega | (dsimp only; omega))⟩ (hP.part (cx := [(mm, .inr (5, [.ref tp, .int sz, .int at0, .ref tk, .ref tp, .ref ou, .int tm, .int om, al, pt, .ref pg, .int wr])), (tp, .inl (G.2.1 0, 1000, .inl tpf))]) [0, 1] rfl) (hD.part (cx := [(mm, .inr (5, [.ref tp, .int sz, .int at0, .ref tk, .ref tp, .ref ou, .int tm, .int om, al, pt, .ref pg, .int wr])), (tp, .inl (G.2.1 0, 1000, .inl tpf))]) [0, 1] (by decide) rfl) hS
def rm_M_reference : Room := { frames := 7, cells := 2, slots := 107, locals := 153 }
set_option maxHeartbeats 4000000 in
set_option maxRecDepth 100000 in
theorem c_M_reference (l : Launch) (G : GG) (mm : Nat) (tp : Nat) (tk : Nat) (ou : Nat) (pg : Nat) (sz : Int32) (at0 : Int32) (tm : Int32) (om : Int32) (wr : Int32) (al : Value) (pt : Value) (tpf : Nat → Int32) (pl : va_W) (x : Int32) (hz : 0 ≤ sz.toInt ∧ sz.toInt ≤ 1000) (hc : 0 ≤ at0.toInt ∧ at0.toInt ≤ sz.toInt) : MO l y_M_reference b_M_reference 5 (.object "ValueTextsModel$Part") rm_M_reference G [.ref mm, .int x] ([(mm, .inr (5, [.ref tp, .int sz, .int at0, .ref tk, .ref tp, .ref ou, .int tm, .int om, al, pt, .ref pg, .int wr])), (tp, .inl (G.2.1 0, 1000, .inl tpf))] ++ pl) (fun (v : Option Nat) (u : Int32 × va_W) => (RefR pl u.2 x at0 u.1 sz v) ∧ (at0.toInt ≤ u.1.toInt ∧ u.1.toInt ≤ sz.toInt)) (fun (u : Int32 × va_W) => ([(mm, .inr (5, [.ref tp, .int sz, .int u.1, .ref tk, .ref tp, .ref ou, .int tm, .int om, al, pt, .ref pg, .int wr])), (tp, .inl (G.2.1 0, 1000, .inl tpf))] ++ u.2)) (fun (v : Option Nat) (u : Int32 × va_W) => 2) (fun (v : Option Nat) (u : Int32 × va_W) => 107) 2 107 := by
  refine MO.of (cc := b_M_reference) (maxL := 5) (ty := .object "ValueTextsModel$Part") (C := R_M) (by decide +kernel) rfl (Nat.le_of_ble_eq_true rfl) (Or.inl ⟨_, rfl⟩) ?_
  intro p e s m args below meth c A Q H ls hx hb hml hown hw hE hA hP hD hS ret hl
  have hl : lv_has ls 5 [(0, .ref mm), (1, .int x)] := hl
  refine lv_aload_n hx hb d_M_reference_0 rfl (lv_at hl 0 rfl) ?_
  refine gq_v (X := [(mm, .inr (5, [.ref tp, .int sz, .int at0, .ref tk, .ref tp, .ref ou, .int tm, .int om, al, pt, .ref pg, .int wr])), (tp, .inl (G.2.1 0, 1000, .inl tpf))]) (wr := []) (gh_V (wc := [(mm, .inr (5, [.ref tp, .int sz, .int at0, .ref tk, .ref tp, .ref ou, .int tm, .int om, al, pt, .ref pg, .int wr])), (tp, .inl (G.2.1 0, 1000, .inl tpf))]) (As := []) (rest := []) ⟨hx, hb, hml, hown, hw⟩ (c_M_white l G mm tp tk ou pg sz at0 tm om wr al pt tpf hz hc H.size) (cwV 0 hw (good_V m_513 m_515 ms_32 m_4 m_516) rfl rfl rfl hy_M_white ⟨Nat.le_of_ble_eq_true rfl, Nat.le_of_ble_eq_true rfl⟩) (gP.here (wc := [(mm, .inr (5, [.ref tp, .int sz, .int at0, .ref tk, .ref tp, .ref ou, .int tm, .int om, al, pt, .ref pg, .int wr])), (tp, .inl (G.2.1 0, 1000, .inl tpf))]) hE hP hD hS hA [0, 1] rfl (by decide)) (va_recv hE.1 hP (ci := 5) (q0 := 0) rfl rfl) rfl hl rfl (Nat.le_of_ble_eq_true rfl) d_M_reference_1 ⟨Nat.le_of_ble_eq_true rfl, Nat.le_of_ble_eq_true rfl⟩) hP hD hS hA [0, 1] [] rfl rfl rfl (by decide) (by decide) (fun u_2 H locs hw_3 hP hD hS => ?_)
  obtain ⟨at2_4, rfl⟩ : ∃ z, z = u_2 := ⟨_, rfl⟩
  try dsimp only at hw_3
  have h_5 := hw_3
  have hP : va_P G.1 vwCl ([(mm, .inr (5, [.ref tp, .int sz, .int at2_4, .ref tk, .ref tp, .ref ou, .int tm, .int om, al, pt, .ref pg, .int wr])), (tp, .inl (G.2.1 0, 1000, .inl tpf))] ++ pl) H := hP
  have hD : va_D A ([(mm, .inr (5, [.ref tp, .int sz, .int at2_4, .ref tk, .ref tp, .ref ou, .int tm, .int om, al, pt, .ref pg, .int wr])), (tp, .inl (G.2.1 0, 1000, .inl tpf))] ++ pl) := hD
  refine lv_aload_n hx hb d_M_reference_4 rfl (lv_at hl 0 rfl) ?_
  refine gq_i (X := [(mm, .inr (5, [.ref tp, .int sz, .int at2_4, .ref tk, .ref tp, .ref ou, .int tm, .int om, al, pt, .ref pg, .int wr])), (tp, .inl (G.2.1 0, 1000, .inl tpf))]) (wr := []) (gh_V (wc := [(mm, .inr (5, [.ref tp, .int sz, .int at2_4, .ref tk, .ref tp, .ref ou, .int tm, .int om, al, pt, .ref pg, .int wr])), (tp, .inl (G.2.1 0, 1000, .inl tpf))]) (As := []) (rest := []) ⟨hx, hb, hml, hown, hw⟩ (c_M_takeNumber l G mm tp tk ou pg sz at2_4 tm om wr al pt tpf hz (by first | assumption | trivial | omega | (dsimp only; omega)) H.size) (cwV 0 hw (good_V m_661 m_663 ms_46 m_4 m_664) rfl rfl rfl hy_M_takeNumber ⟨Nat.le_of_ble_eq_true rfl, Nat.le_of_ble_eq_true rfl⟩) (gP.here (wc := [(mm, .inr (5, [.ref tp, .int sz, .int at2_4, .ref tk, .ref tp, .ref ou, .int tm, .int om, al, pt, .ref pg, .int wr])), (tp, .inl (G.2.1 0, 1000, .inl tpf))]) hE hP hD hS hA [0, 1] rfl (by decide)) (va_recv hE.1 hP (ci := 5) (q0 := 0) rfl rfl) rfl hl rfl (Nat.le_of_ble_eq_true rfl) d_M_reference_5 ⟨Nat.le_of_ble_eq_true rfl, Nat.le_of_ble_eq_true rfl⟩) hP hD hS hA [0, 1] [] rfl rfl rfl (by decide) (by decide) (fun r_6 u_7 H locs hw_8 hP hD hS => ?_)
  obtain ⟨at2_9, rfl⟩ : ∃ z, z = u_7 := ⟨_, rfl⟩
  try dsimp only at hw_8
  have h_10 := hw_8
  have hP : va_P G.1 vwCl ([(mm, .inr (5, [.ref tp, .int sz, .int at2_9, .ref tk, .ref tp, .ref ou, .int tm, .int om, al, pt, .ref pg, .int wr])), (tp, .inl (G.2.1 0, 1000, .inl tpf))] ++ pl) H := hP
  have hD : va_D A ([(mm, .inr (5, [.ref tp, .int sz, .int at2_9, .ref tk, .ref tp, .ref ou, .int tm, .int om, al, pt, .ref pg, .int wr])), (tp, .inl (G.2.1 0, 1000, .inl tpf))] ++ pl) := hD
  refine lv_istore_n (lv' := [(2, .int r_6), (0, .ref mm), (1, .int x)]) hx hb d_M_reference_8 rfl hl (by decide) rfl (fun ls hl => ?_)
  refine lv_iload_n hx hb d_M_reference_9 rfl (lv_at hl 0 rfl) ?_
  refine lv_if_ge (tgt := 15) hx hb d_M_reference_10 (by decide) (fun c_11 => ?_) (fun c_11 => ?_)
  · have tl_0 : (0 : Int32).toInt = 0 := by decide
    have tc_11 := z_le.mp c_11
    refine lv_aload_n hx hb d_M_reference_15 rfl (lv_at hl 1 rfl) ?_
    refine va_get (D := G.1) (ci := 5) (v := .int at2_9) (C := R_M) (T := F_M) (N := 12) hx hb hw i_M hown hE.1 hP 0 rfl rfl 2 (by decide) (hw _ m_455) (fun _ h9 => h9) rfl d_M_reference_16 ?_
    refine lv_istore_n (lv' := [(3, .int at2_9), (2, .int r_6), (0, .ref mm), (1, .int x)]) hx hb d_M_reference_19 rfl hl (by decide) rfl (fun ls hl => ?_)
    refine lv_aload_n hx hb d_M_reference_20 rfl (lv_at hl 2 rfl) ?_
    refine gq_v (X := [(mm, .inr (5, [.ref tp, .int sz, .int at2_9, .ref tk, .ref tp, .ref ou, .int tm, .int om, al, pt, .ref pg, .int wr])), (tp, .inl (G.2.1 0, 1000, .inl tpf))]) (wr := []) (gh_V (wc := [(mm, .inr (5, [.ref tp, .int sz, .int at2_9, .ref tk, .ref tp, .ref ou, .int tm, .int om, al, pt, .ref pg, .int wr])), (tp, .inl (G.2.1 0, 1000, .inl tpf))]) (As := []) (rest := []) ⟨hx, hb, hml, hown, hw⟩ (c_M_white l G mm tp tk ou pg sz at2_9 tm om wr al pt tpf hz (by first | assumption | trivial | omega | (dsimp only; omega)) H.size) (cwV 0 hw (good_V m_513 m_515 ms_32 m_4 m_516) rfl rfl rfl hy_M_white ⟨Nat.le_of_ble_eq_true rfl, Nat.le_of_ble_eq_true rfl⟩) (gP.here (wc := [(mm, .inr (5, [.ref tp, .int sz, .int at2_9, .ref tk, .ref tp, .ref ou, .int tm, .int om, al, pt, .ref pg, .int wr])), (tp, .inl (G.2.1 0, 1000, .inl tpf))]) hE hP hD hS hA [0, 1] rfl (by decide)) (va_recv hE.1 hP (ci := 5) (q0 := 0) rfl rfl) rfl hl rfl (Nat.le_of_ble_eq_true rfl) d_M_reference_21 ⟨Nat.le_of_ble_eq_true rfl, Nat.le_of_ble_eq_true rfl⟩) hP hD hS hA [0, 1] [] rfl rfl rfl (by decide) (by decide) (fun u_13 H locs hw_14 hP hD hS => ?_)
    obtain ⟨at2_15, rfl⟩ : ∃ z, z = u_13 := ⟨_, rfl⟩
    try dsimp only at hw_14
    have h_16 := hw_14
    have hP : va_P G.1 vwCl ([(mm, .inr (5, [.ref tp, .int sz, .int at2_15, .ref tk, .ref tp, .ref ou, .int tm, .int om, al, pt, .ref pg, .int wr])), (tp, .inl (G.2.1 0, 1000, .inl tpf))] ++ pl) H := hP
    have hD : va_D A ([(mm, .inr (5, [.ref tp, .int sz, .int at2_15, .ref tk, .ref tp, .ref ou, .int tm, .int om, al, pt, .ref pg, .int wr])), (tp, .inl (G.2.1 0, 1000, .inl tpf))] ++ pl) := hD
    refine lv_aload_n hx hb d_M_reference_24 rfl (lv_at hl 2 rfl) ?_
    refine va_get (D := G.1) (ci := 5) (v := .int at2_15) (C := R_M) (T := F_M) (N := 12) hx hb hw i_M hown hE.1 hP 0 rfl rfl 2 (by decide) (hw _ m_455) (fun _ h9 => h9) rfl d_M_reference_25 ?_
    refine lv_iload_n hx hb d_M_reference_28 rfl (lv_at hl 0 rfl) ?_
    refine lv_icmp_eq (tgt := 54) hx hb d_M_reference_29 (by decide) (fun c_17 => ?_) (fun c_17 => ?_)
    · have tc_17 := congrArg Int32.toInt c_17
      refine lv_null hx hb d_M_reference_54 ?_
      exact ret none (at2_15, pl) (Nat.le_of_ble_eq_true rfl) (Nat.le_of_ble_eq_true rfl) (Nat.le_of_ble_eq_true rfl) (Nat.le_of_ble_eq_true rfl) d_M_reference_55 ⟨Or.inl ⟨rfl, rfl⟩, (by first | assumption | trivial | omega | (dsimp only; omega))⟩ (hP.part (cx := [(mm, .inr (5, [.ref tp, .int sz, .int at2_15, .ref tk, .ref tp, .ref ou, .int tm, .int om, al, pt, .ref pg, .int wr])), (tp, .inl (G.2.1 0, 1000, .inl tpf))]) [0, 1] rfl) (hD.part (cx := [(mm, .inr (5, [.ref tp, .int sz, .int at2_15, .ref tk, .ref tp, .ref ou, .int tm, .int om, al, pt, .ref pg, .int wr])), (tp, .inl (G.2.1 0, 1000, .inl tpf))]) [0, 1] (by decide) rfl) hS
    · have tc_17 := z_ne c_17
      refine lv_aload_n hx hb d_M_reference_32 rfl (lv_at hl 2 rfl) ?_
      refine va_ldcS (q := (G.2.2.1 12)) hx hb hown (hE.2.1 12 (by decide)).2 d_M_reference_33 ?_
      have tk_12 : (nI (lenS.getD 12 0)).toInt = 1 := by decide
      refine gq_i (X := [(mm, .inr (5, [.ref tp, .int sz, .int at2_15, .ref tk, .ref tp, .ref ou, .int tm, .int om, al, pt, .ref pg, .int wr])), (tp, .inl (G.2.1 0, 1000, .inl tpf))]) (wr := []) (gh_V (wc := [(mm, .inr (5, [.ref tp, .int sz, .int at2_15, .ref tk, .ref tp, .ref ou, .int tm, .int om, al, pt, .ref pg, .int wr])), (tp, .inl (G.2.1 0, 1000, .inl tpf))]) (As := [.ref (G.2.2.1 12)]) (rest := []) ⟨hx, hb, hml, hown, hw⟩ (c_M_takeWord l G mm tp tk ou pg sz at2_15 tm om wr al pt tpf 12 hz (by first | assumption | trivial | omega | (dsimp only; omega)) (by decide) H.size) (cwV 1 hw (good_V m_666 m_668 ms_47 m_4 m_669) rfl rfl rfl hy_M_takeWord ⟨Nat.le_of_ble_eq_true rfl, Nat.le_of_ble_eq_true rfl⟩) (gP.here (wc := [(mm, .inr (5, [.ref tp, .int sz, .int at2_15, .ref tk, .ref tp, .ref ou, .int tm, .int om, al, pt, .ref pg, .int wr])), (tp, .inl (G.2.1 0, 1000, .inl tpf))]) hE hP hD hS hA [0, 1] rfl (by decide)) (va_recv hE.1 hP (ci := 5) (q0 := 0) rfl rfl) rfl hl rfl (Nat.le_of_ble_eq_true rfl) d_M_reference_35 ⟨Nat.le_of_ble_eq_true rfl, Nat.le_of_ble_eq_true rfl⟩) hP hD hS hA [0, 1] [] rfl rfl rfl (by decide) (by decide) (fun r_18 u_19 H locs hw_20 hP hD hS => ?_)
      obtain ⟨at2_21, rfl⟩ : ∃ z, z = u_19 := ⟨_, rfl⟩
      try dsimp only at hw_20
      obtain ⟨h_22, h_23⟩ := hw_20
      have hP : va_P G.1 vwCl ([(mm, .inr (5, [.ref tp, .int sz, .int at2_21, .ref tk, .ref tp, .ref ou, .int tm, .int om, al, pt, .ref pg, .int wr])), (tp, .inl (G.2.1 0, 1000, .inl tpf))] ++ pl) H := hP
      have hD : va_D A ([(mm, .inr (5, [.ref tp, .int sz, .int at2_21, .ref tk, .ref tp, .ref ou, .int tm, .int om, al, pt, .ref pg, .int wr])), (tp, .inl (G.2.1 0, 1000, .inl tpf))] ++ pl) := hD
      refine lv_if_eq (tgt := 54) hx hb d_M_reference_38 (by decide) (fun c_24 => ?_) (fun c_24 => ?_)
      · have tc_24 := bool_f h_22 c_24
        refine lv_null hx hb d_M_reference_54 ?_
        exact ret none (at2_21, pl) (Nat.le_of_ble_eq_true rfl) (Nat.le_of_ble_eq_true rfl) (Nat.le_of_ble_eq_true rfl) (Nat.le_of_ble_eq_true rfl) d_M_reference_55 ⟨Or.inl ⟨rfl, rfl⟩, (by first | assumption | trivial | omega | (dsimp only; omega))⟩ (hP.part (cx := [(mm, .inr (5, [.ref tp, .int sz, .int at2_21, .ref tk, .ref tp, .ref ou, .int tm, .int om, al, pt, .ref pg, .int wr])), (tp, .inl (G.2.1 0, 1000, .inl tpf))]) [0, 1] rfl) (hD.part (cx := [(mm, .inr (5, [.ref tp, .int sz, .int at2_21, .ref tk, .ref tp, .ref ou, .int tm, .int om, al, pt, .ref pg, .int wr])), (tp, .inl (G.2.1 0, 1000, .inl tpf))]) [0, 1] (by decide) rfl) hS
      · have tc_24 := bool_t h_22 c_24
        refine lv_iload_n hx hb d_M_reference_41 rfl (lv_at hl 3 rfl) ?_
        refine lv_sipush (v := 300) hx hb d_M_reference_42 (by decide) ?_
        refine lv_icmp_ge (tgt := 54) hx hb d_M_reference_45 (by decide) (fun c_25 => ?_) (fun c_25 => ?_)
        · have tl_300 : (300 : Int32).toInt = 300 := by decide
          have tc_25 := z_le.mp c_25
          refine lv_null hx hb d_M_reference_54 ?_
          exact ret none (at2_21, pl) (Nat.le_of_ble_eq_true rfl) (Nat.le_of_ble_eq_true rfl) (Nat.le_of_ble_eq_true rfl) (Nat.le_of_ble_eq_true rfl) d_M_reference_55 ⟨Or.inl ⟨rfl, rfl⟩, (by first | assumption | trivial | omega | (dsimp only; omega))⟩ (hP.part (cx := [(mm, .inr (5, [.ref tp, .int sz, .int at2_21, .ref tk, .ref tp, .ref ou, .int tm, .int om, al, pt, .ref pg, .int wr])), (tp, .inl (G.2.1 0, 1000, .inl tpf))]) [0, 1] rfl) (hD.part (cx := [(mm, .inr (5, [.ref tp, .int sz, .int at2_21, .ref tk, .ref tp, .ref ou, .int tm, .int om, al, pt, .ref pg, .int wr])), (tp, .inl (G.2.1 0, 1000, .inl tpf))]) [0, 1] (by decide) rfl) hS
        · have tl_300 : (300 : Int32).toInt = 300 := by decide
          have tc_25 := z_nle c_25
          refine lv_iload_n hx hb d_M_reference_48 rfl (lv_at hl 1 rfl) ?_
          refine lv_ldc (v := 65535) hx hb hown (hw _ m_670) d_M_reference_49 ?_
          refine lv_icmp_le (tgt := 56) hx hb d_M_reference_51 (by decide) (fun c_26 => ?_) (fun c_26 => ?_)
          · have tl_65535 : (65535 : Int32).toInt = 65535 := by decide
            have tc_26 := z_le.mp c_26
            refine va_new (ci := 6) (fs := [.int 0, .int 0, .int 0, .int 0, .null, .null, .null]) (C := R_Part) (T := F_Part) (N := 7) hx hb hw i_Part t_Part t_Part_ok hown (hw _ m_535) (hw _ m_536) (hw _ m_10) hE.1 hP hD hS hA rfl (fun j hj => by rcases (show j = 0 ∨ j = 1 ∨ j = 2 ∨ j = 3 ∨ j = 4 ∨ j = 5 ∨ j = 6 by omega) with rfl | rfl | rfl | rfl | rfl | rfl | rfl <;> rfl) (Nat.le_of_ble_eq_true rfl) (Nat.le_of_ble_eq_true rfl) d_M_reference_56 (fun q_27 H hP hD hS => ?_)
            have hP := pl_front hP
            have hD := pl_frontD hD
            have hP : va_P G.1 vwCl ([(mm, .inr (5, [.ref tp, .int sz, .int at2_21, .ref tk, .ref tp, .ref ou, .int tm, .int om, al, pt, .ref pg, .int wr])), (tp, .inl (G.2.1 0, 1000, .inl tpf)), (q_27, .inr (6, [.int 0, .int 0, .int 0, .int 0, .null, .null, .null]))] ++ pl) H := hP
            have hD : va_D A ([(mm, .inr (5, [.ref tp, .int sz, .int at2_21, .ref tk, .ref tp, .ref ou, .int tm, .int om, al, pt, .ref pg, .int wr])), (tp, .inl (G.2.1 0, 1000, .inl tpf)), (q_27, .inr (6, [.int 0, .int 0, .int 0, .int 0, .null, .null, .null]))] ++ pl) := hD
            refine W.widen (k := 1) (n := 7) (Nat.le_of_ble_eq_true rfl) (Nat.le_of_ble_eq_true rfl) ?_
            refine lv_dup hx hb d_M_reference_59 rfl ?_
            refine lv_bipush (v := 8) hx hb d_M_reference_60 (by decide) ?_
            refine gq_v (X := [(mm, .inr (5, [.ref tp, .int sz, .int at2_21, .ref tk, .ref tp, .ref ou, .int tm, .int om, al, pt, .ref pg, .int wr])), (tp, .inl (G.2.1 0, 1000, .inl tpf)), (q_27, .inr (6, [.int 0, .int 0, .int 0, .int 0, .null, .null, .null]))]) (wr := [(mm, .inr (5, [.ref tp, .int sz, .int at2_21, .ref tk, .ref tp, .ref ou, .int tm, .int om, al, pt, .ref pg, .int wr])), (tp, .inl (G.2.1 0, 1000, .inl tpf))]) (gh_I (wc := [(q_27, .inr (6, [.int 0, .int 0, .int 0, .int 0, .null, .null, .null]))]) (As := [.int 8]) (rest := [.ref q_27]) ⟨hx, hb, hml, hown, hw⟩ (c_Part_init l G q_27 8 H.size) (cwI 1 hw (good_U m_539) rfl rfl rfl (hw _ m_10) (hw _ m_537) (hw _ m_538) rfl hy_Part_init.2 ⟨Nat.le_of_ble_eq_true rfl, Nat.le_of_ble_eq_true rfl⟩) (gP.here (wc := [(q_27, .inr (6, [.int 0, .int 0, .int 0, .int 0, .null, .null, .null]))]) hE hP hD hS hA [2] rfl (by decide)) rfl hl rfl (Nat.le_of_ble_eq_true rfl) d_M_reference_62 ⟨Nat.le_of_ble_eq_true rfl, Nat.le_of_ble_eq_true rfl⟩) hP hD hS hA [2] [0, 1] rfl rfl rfl (by decide) (by decide) (fun u_29 H locs hw_30 hP hD hS => ?_)
            have hP : va_P G.1 vwCl ([(mm, .inr (5, [.ref tp, .int sz, .int at2_21, .ref tk, .ref tp, .ref ou, .int tm, .int om, al, pt, .ref pg, .int wr])), (tp, .inl (G.2.1 0, 1000, .inl tpf)), (q_27, .inr (6, [.int 8, .int 0, .int 0, .int 0, .null, .null, .null]))] ++ pl) H := hP
            have hD : va_D A ([(mm, .inr (5, [.ref tp, .int sz, .int at2_21, .ref tk, .ref tp, .ref ou, .int tm, .int om, al, pt, .ref pg, .int wr])), (tp, .inl (G.2.1 0, 1000, .inl tpf)), (q_27, .inr (6, [.int 8, .int 0, .int 0, .int 0, .null, .null, .null]))] ++ pl) := hD
            refine lv_astore (lv' := [(4, .ref q_27), (3, .int at2_9), (2, .int r_6), (0, .ref mm), (1, .int x)]) hx hb d_M_reference_65 hl (by decide) rfl (fun ls hl => ?_)
            refine lv_aload hx hb d_M_reference_67 (lv_at hl 0 rfl) ?_
            refine lv_iload_n hx hb d_M_reference_69 rfl (lv_at hl 4 rfl) ?_
            refine va_put (D := G.1) (ci := 6) (v := .int x) (ty := .int) (C := R_Part) (T := F_Part) (N := 7) hx hb hw i_Part t_Part t_Part_ok n_Part hown hE.1 hP hD hS 2 rfl rfl 1 (by decide) (hw _ m_543) (fun _ h9 => h9) rfl (by decide +kernel) rfl rfl (Nat.le_of_ble_eq_true rfl) d_M_reference_70 (fun H locs hP hD hS => ?_)
            have hP : va_P G.1 vwCl ([(mm, .inr (5, [.ref tp, .int sz, .int at2_21, .ref tk, .ref tp, .ref ou, .int tm, .int om, al, pt, .ref pg, .int wr])), (tp, .inl (G.2.1 0, 1000, .inl tpf)), (q_27, .inr (6, [.int 8, .int x, .int 0, .int 0, .null, .null, .null]))] ++ pl) H := hP
            have hD : va_D A ([(mm, .inr (5, [.ref tp, .int sz, .int at2_21, .ref tk, .ref tp, .ref ou, .int tm, .int om, al, pt, .ref pg, .int wr])), (tp, .inl (G.2.1 0, 1000, .inl tpf)), (q_27, .inr (6, [.int 8, .int x, .int 0, .int 0, .null, .null, .null]))] ++ pl) := hD
            refine lv_aload hx hb d_M_reference_73 (lv_at hl 0 rfl) ?_
            refine lv_iload_n hx hb d_M_reference_75 rfl (lv_at hl 2 rfl) ?_
            refine va_put (D := G.1) (ci := 6) (v := .int r_6) (ty := .int) (C := R_Part) (T := F_Part) (N := 7) hx hb hw i_Part t_Part t_Part_ok n_Part hown hE.1 hP hD hS 2 rfl rfl 2 (by decide) (hw _ m_544) (fun _ h9 => h9) rfl (by decide +kernel) rfl rfl (Nat.le_of_ble_eq_true rfl) d_M_reference_76 (fun H locs hP hD hS => ?_)
            have hP : va_P G.1 vwCl ([(mm, .inr (5, [.ref tp, .int sz, .int at2_21, .ref tk, .ref tp, .ref ou, .int tm, .int om, al, pt, .ref pg, .int wr])), (tp, .inl (G.2.1 0, 1000, .inl tpf)), (q_27, .inr (6, [.int 8, .int x, .int r_6, .int 0, .null, .null, .null]))] ++ pl) H := hP
            have hD : va_D A ([(mm, .inr (5, [.ref tp, .int sz, .int at2_21, .ref tk, .ref tp, .ref ou, .int tm, .int om, al, pt, .ref pg, .int wr])), (tp, .inl (G.2.1 0, 1000, .inl tpf)), (q_27, .inr (6, [.int 8, .int x, .int r_6, .int 0, .null, .null, .null]))] ++ pl) := hD
            refine lv_aload hx hb d_M_reference_79 (lv_at hl 0 rfl) ?_
            exact ret (some q_27) (at2_21, ((q_27, .inr (6, [.int 8, .int x, .int r_6, .int 0, .null, .null, .null])) :: pl)) (Nat.le_of_ble_eq_true rfl) (Nat.le_of_ble_eq_true rfl) (Nat.le_of_ble_eq_true rfl) (Nat.le_of_ble_eq_true rfl) d_M_reference_81 ⟨(ref_ok (by assumption) (by omega) (by first | omega | (dsimp only; omega)) (by omega)), (by first | assumption | trivial | omega | (dsimp only; omega))⟩ (hP.part (cx := [(mm, .inr (5, [.ref tp, .int sz, .int at2_21, .ref tk, .ref tp, .ref ou, .int tm, .int om, al, pt, .ref pg, .int wr])), (tp, .inl (G.2.1 0, 1000, .inl tpf)), (q_27, .inr (6, [.int 8, .int x, .int r_6, .int 0, .null, .null, .null]))]) [0, 1, 2] rfl) (hD.part (cx := [(mm, .inr (5, [.ref tp, .int sz, .int at2_21, .ref tk, .ref tp, .ref ou, .int tm, .int om, al, pt, .ref pg, .int wr])), (tp, .inl (G.2.1 0, 1000, .inl tpf)), (q_27, .inr (6, [.int 8, .int x, .int r_6, .int 0, .null, .null, .null]))]) [0, 1, 2] (by decide) rfl) hS
          · have tl_65535 : (65535 : Int32).toInt = 65535 := by decide
            have tc_26 := z_nle c_26
            refine lv_null hx hb d_M_reference_54 ?_
            exact ret none (at2_21, pl) (Nat.le_of_ble_eq_true rfl) (Nat.le_of_ble_eq_true rfl) (Nat.le_of_ble_eq_true rfl) (Nat.le_of_ble_eq_true rfl) d_M_reference_55 ⟨Or.inl ⟨rfl, rfl⟩, (by first | assumption | trivial | omega | (dsimp only; omega))⟩ (hP.part (cx := [(mm, .inr (5, [.ref tp, .int sz, .int at2_21, .ref tk, .ref tp, .ref ou, .int tm, .int om, al, pt, .ref pg, .int wr])), (tp, .inl (G.2.1 0, 1000, .inl tpf))]) [0, 1] rfl) (hD.part (cx := [(mm, .inr (5, [.ref tp, .int sz, .int at2_21, .ref tk, .ref tp, .ref ou, .int tm, .int om, al, pt, .ref pg, .int wr])), (tp, .inl (G.2.1 0, 1000, .inl tpf))]) [0, 1] (by decide) rfl) hS
  · have tl_0 : (0 : Int32).toInt = 0 := by decide
    have tc_11 := z_nle c_11
    refine lv_null hx hb d_M_reference_13 ?_
    exact ret none (at2_9, pl) (Nat.le_of_ble_eq_true rfl) (Nat.le_of_ble_eq_true rfl) (Nat.le_of_ble_eq_true rfl) (Nat.le_of_ble_eq_true rfl) d_M_reference_14 ⟨Or.inl ⟨rfl, rfl⟩, (by first | assumption | trivial | omega | (dsimp only; omega))⟩ (hP.part (cx := [(mm, .inr (5, [.ref tp, .int sz, .int at2_9, .ref tk, .ref tp, .ref ou, .int tm, .int om, al, pt, .ref pg, .int wr])), (tp, .inl (G.2.1 0, 1000, .inl tpf))]) [0, 1] rfl) (hD.part (cx := [(mm, .inr (5, [.ref tp, .int sz, .int at2_9, .ref tk, .ref tp, .ref ou, .int tm, .int om, al, pt, .ref pg, .int wr])), (tp, .inl (G.2.1 0, 1000, .inl tpf))]) [0, 1] (by decide) rfl) hS
def rm_M_string : Room := { frames := 3, cells := 2, slots := 107, locals := 72 }
set_option maxHeartbeats 4000000 in
set_option maxRecDepth 100000 in
theorem c_M_string (l : Launch) (G : GG) (mm : Nat) (tp : Nat) (tk : Nat) (ou : Nat) (pg : Nat) (sz : Int32) (at0 : Int32) (tm : Int32) (om : Int32) (wr : Int32) (al : Value) (pt : Value) (tpf : Nat → Int32) (tkf : Nat → Int32) (pl : va_W) (hz : 0 ≤ sz.toInt ∧ sz.toInt ≤ 1000) (hc : 0 ≤ at0.toInt ∧ at0.toInt ≤ sz.toInt) (hlt : at0.toInt < sz.toInt) (htf : sb_Fit tkf) : MO l y_M_string b_M_string 3 (.object "ValueTextsModel$Part") rm_M_string G [.ref mm] ([(mm, .inr (5, [.ref tp, .int sz, .int at0, .ref tk, .ref tp, .ref ou, .int tm, .int om, al, pt, .ref pg, .int wr])), (tp, .inl (G.2.1 0, 1000, .inl tpf)), (tk, .inl (G.2.1 0, 101, .inl tkf))] ++ pl) (fun (v : Option Nat) (u : Int32 × (Nat → Int32) × va_W) => (StrR G pl u.2.2 at0 u.1 sz v) ∧ (at0.toInt ≤ u.1.toInt ∧ u.1.toInt ≤ sz.toInt) ∧ (sb_Fit u.2.1)) (fun (u : Int32 × (Nat → Int32) × va_W) => ([(mm, .inr (5, [.ref tp, .int sz, .int u.1, .ref tk, .ref tp, .ref ou, .int tm, .int om, al, pt, .ref pg, .int wr])), (tp, .inl (G.2.1 0, 1000, .inl tpf)), (tk, .inl (G.2.1 0, 101, .inl u.2.1))] ++ u.2.2)) (fun (v : Option Nat) (u : Int32 × (Nat → Int32) × va_W) => 2) (fun (v : Option Nat) (u : Int32 × (Nat → Int32) × va_W) => 107) 2 107 := by
  refine MO.of (cc := b_M_string) (maxL := 3) (ty := .object "ValueTextsModel$Part") (C := R_M) (by decide +kernel) rfl (Nat.le_of_ble_eq_true rfl) (Or.inl ⟨_, rfl⟩) ?_
  intro p e s m args below meth c A Q H ls hx hb hml hown hw hE hA hP hD hS ret hl
  have hl : lv_has ls 3 [(0, .ref mm)] := hl
  have J_102 : ∀ (x1_102 : Int32) (at2_102 : Int32) (tkf2_102 : Nat → Int32) (hj0_102 : at0.toInt ≤ at2_102.toInt ∧ at2_102.toInt ≤ sz.toInt) (hj1_102 : sb_Fit tkf2_102) (hk0_102 : at0.toInt + 1 + x1_102.toInt ≤ at2_102.toInt) (hk1_102 : 0 ≤ x1_102.toInt ∧ x1_102.toInt ≤ 100) (H : Heap) (locs : List Loc), va_P G.1 vwCl ([(mm, .inr (5, [.ref tp, .int sz, .int at2_102, .ref tk, .ref tp, .ref ou, .int tm, .int om, al, pt, .ref pg, .int wr])), (tp, .inl (G.2.1 0, 1000, .inl tpf)), (tk, .inl (G.2.1 0, 101, .inl tkf2_102))] ++ pl) H → va_D A ([(mm, .inr (5, [.ref tp, .int sz, .int at2_102, .ref tk, .ref tp, .ref ou, .int tm, .int om, al, pt, .ref pg, .int wr])), (tp, .inl (G.2.1 0, 1000, .inl tpf)), (tk, .inl (G.2.1 0, 101, .inl tkf2_102))] ++ pl) → va_S A s.heap H locs → ∀ ls : Array Slot, lv_has ls 3 [(1, .int x1_102), (0, .ref mm)] → W p l e rm_M_string s m args below meth c H locs 0 0 Q (F0 m 102 ls []) := by
    intro x1_102 at2_102 tkf2_102 hj0_102 hj1_102 hk0_102 hk1_102 H locs hP hD hS ls hl
    refine lv_aload_n hx hb d_M_string_102 rfl (lv_at hl 1 rfl) ?_
    refine lv_bipush (v := 41) hx hb d_M_string_103 (by decide) ?_
    refine gq_i (X := [(mm, .inr (5, [.ref tp, .int sz, .int at2_102, .ref tk, .ref tp, .ref ou, .int tm, .int om, al, pt, .ref pg, .int wr])), (tp, .inl (G.2.1 0, 1000, .inl tpf)), (tk, .inl (G.2.1 0, 101, .inl tkf2_102))]) (wr := [(tk, .inl (G.2.1 0, 101, .inl tkf2_102))]) (gh_V (wc := [(mm, .inr (5, [.ref tp, .int sz, .int at2_102, .ref tk, .ref tp, .ref ou, .int tm, .int om, al, pt, .ref pg, .int wr])), (tp, .inl (G.2.1 0, 1000, .inl tpf))]) (As := [.int 41]) (rest := []) ⟨hx, hb, hml, hown, hw⟩ (c_M_takeByte l G mm tp tk ou pg sz at2_102 tm om wr al pt tpf 41 hz (by first | assumption | trivial | omega | (dsimp only; omega)) H.size) (cwV 1 hw (good_V m_597 m_599 ms_37 m_4 m_600) rfl rfl rfl hy_M_takeByte ⟨Nat.le_of_ble_eq_true rfl, Nat.le_of_ble_eq_true rfl⟩) (gP.here (wc := [(mm, .inr (5, [.ref tp, .int sz, .int at2_102, .ref tk, .ref tp, .ref ou, .int tm, .int om, al, pt, .ref pg, .int wr])), (tp, .inl (G.2.1 0, 1000, .inl tpf))]) hE hP hD hS hA [0, 1] rfl (by decide)) (va_recv hE.1 hP (ci := 5) (q0 := 0) rfl rfl) rfl hl rfl (Nat.le_of_ble_eq_true rfl) d_M_string_105 ⟨Nat.le_of_ble_eq_true rfl, Nat.le_of_ble_eq_true rfl⟩) hP hD hS hA [0, 1] [2] rfl rfl rfl (by decide) (by decide) (fun r_1 u_2 H locs hw_3 hP hD hS => ?_)
    obtain ⟨at2_4, rfl⟩ : ∃ z, z = u_2 := ⟨_, rfl⟩
    try dsimp only at hw_3
    have h_5 := hw_3
    have hP : va_P G.1 vwCl ([(tk, .inl (G.2.1 0, 101, .inl tkf2_102)), (mm, .inr (5, [.ref tp, .int sz, .int at2_4, .ref tk, .ref tp, .ref ou, .int tm, .int om, al, pt, .ref pg, .int wr])), (tp, .inl (G.2.1 0, 1000, .inl tpf))] ++ pl) H := hP
    have hD : va_D A ([(tk, .inl (G.2.1 0, 101, .inl tkf2_102)), (mm, .inr (5, [.ref tp, .int sz, .int at2_4, .ref tk, .ref tp, .ref ou, .int tm, .int om, al, pt, .ref pg, .int wr])), (tp, .inl (G.2.1 0, 1000, .inl tpf))] ++ pl) := hD
    refine lv_if_eq (tgt := 119) hx hb d_M_string_108 (by decide) (fun c_6 => ?_) (fun c_6 => ?_)
    · have tc_6 := bool_f h_5 c_6
      refine lv_null hx hb d_M_string_119 ?_
      exact ret none (at2_4, tkf2_102, pl) (Nat.le_of_ble_eq_true rfl) (Nat.le_of_ble_eq_true rfl) (Nat.le_of_ble_eq_true rfl) (Nat.le_of_ble_eq_true rfl) d_M_string_120 ⟨Or.inl ⟨rfl, rfl⟩, (by first | assumption | trivial | omega | (dsimp only; omega)), hj1_102⟩ (hP.part (cx := [(mm, .inr (5, [.ref tp, .int sz, .int at2_4, .ref tk, .ref tp, .ref ou, .int tm, .int om, al, pt, .ref pg, .int wr])), (tp, .inl (G.2.1 0, 1000, .inl tpf)), (tk, .inl (G.2.1 0, 101, .inl tkf2_102))]) [1, 2, 0] rfl) (hD.part (cx := [(mm, .inr (5, [.ref tp, .int sz, .int at2_4, .ref tk, .ref tp, .ref ou, .int tm, .int om, al, pt, .ref pg, .int wr])), (tp, .inl (G.2.1 0, 1000, .inl tpf)), (tk, .inl (G.2.1 0, 101, .inl tkf2_102))]) [1, 2, 0] (by decide) rfl) hS
    · have tc_6 := bool_t h_5 c_6
      obtain ⟨nn, hnn⟩ : ∃ nn : Nat, (nn : Int) = x1_102.toInt := ⟨x1_102.toInt.toNat, by omega⟩
      refine lv_aload_n hx hb d_M_string_111 rfl (lv_at hl 1 rfl) ?_
      refine lv_iload_n hx hb d_M_string_112 rfl (lv_at hl 0 rfl) ?_
      refine gq_r (X := [(tk, .inl (G.2.1 0, 101, .inl tkf2_102)), (mm, .inr (5, [.ref tp, .int sz, .int at2_4, .ref tk, .ref tp, .ref ou, .int tm, .int om, al, pt, .ref pg, .int wr])), (tp, .inl (G.2.1 0, 1000, .inl tpf))]) (wr := [(tp, .inl (G.2.1 0, 1000, .inl tpf))]) (gh_V (wc := [(mm, .inr (5, [(.ref tp), .int sz, .int at2_4, .ref tk, .ref tp, .ref ou, .int tm, .int om, al, pt, .ref pg, .int wr])), (tk, .inl (G.2.1 0, 101, .inl tkf2_102))]) (As := [.int x1_102]) (rest := []) ⟨hx, hb, hml, hown, hw⟩ (c_M_ofBytes l G mm tp tk ou pg sz at2_4 tm om wr al pt (.ref tp) tkf2_102 x1_102 nn hj1_102 (by first | assumption | trivial | omega | (dsimp only; omega)) H.size) (cwV 1 hw (good_V m_601 m_603 ms_38 m_4 m_604) rfl rfl rfl hy_M_ofBytes ⟨Nat.le_of_ble_eq_true rfl, Nat.le_of_ble_eq_true rfl⟩) (gP.here (wc := [(mm, .inr (5, [(.ref tp), .int sz, .int at2_4, .ref tk, .ref tp, .ref ou, .int tm, .int om, al, pt, .ref pg, .int wr])), (tk, .inl (G.2.1 0, 101, .inl tkf2_102))]) hE hP hD hS hA [1, 0] rfl (by decide)) (va_recv hE.1 hP (ci := 5) (q0 := 1) rfl rfl) rfl hl rfl (Nat.le_of_ble_eq_true rfl) d_M_string_113 ⟨Nat.le_of_ble_eq_true rfl, Nat.le_of_ble_eq_true rfl⟩) hP hD hS hA [1, 0] [2] rfl rfl rfl (by decide) (by decide) (fun r_7 u_8 H locs hw_9 hP hD hS => ?_)
      obtain ⟨p_10, q_11, cf_12⟩ := u_8
      try dsimp only at hw_9
      obtain ⟨h_13, h_14⟩ := hw_9
      subst h_13
      have hP : va_P G.1 vwCl ([(tp, .inl (G.2.1 0, 1000, .inl tpf)), (mm, .inr (5, [(.ref tp), .int sz, .int at2_4, .ref tk, .ref tp, .ref ou, .int tm, .int om, al, pt, .ref pg, .int wr])), (tk, .inl (G.2.1 0, 101, .inl tkf2_102)), (p_10, .inr (6, [.int 5, .int 0, .int 0, .int 0, .ref q_11, .null, .null])), (q_11, .inl (G.2.1 0, nn, .inl cf_12))] ++ pl) H := hP
      have hD : va_D A ([(tp, .inl (G.2.1 0, 1000, .inl tpf)), (mm, .inr (5, [(.ref tp), .int sz, .int at2_4, .ref tk, .ref tp, .ref ou, .int tm, .int om, al, pt, .ref pg, .int wr])), (tk, .inl (G.2.1 0, 101, .inl tkf2_102)), (p_10, .inr (6, [.int 5, .int 0, .int 0, .int 0, .ref q_11, .null, .null])), (q_11, .inl (G.2.1 0, nn, .inl cf_12))] ++ pl) := hD
      refine W.widen (k := 2) (n := 107) (Nat.le_of_ble_eq_true rfl) (Nat.le_of_ble_eq_true rfl) ?_
      refine lv_goto (tgt := 120) hx hb d_M_string_116 (by decide) ?_
      exact ret (some p_10) (at2_4, tkf2_102, ((p_10, .inr (6, [.int 5, .int 0, .int 0, .int 0, .ref q_11, .null, .null])) :: ((q_11, .inl (G.2.1 0, nn, .inl cf_12)) :: pl))) (Nat.le_of_ble_eq_true rfl) (Nat.le_of_ble_eq_true rfl) (Nat.le_of_ble_eq_true rfl) (Nat.le_of_ble_eq_true rfl) d_M_string_120 ⟨(Or.inr ⟨_, _, nn, _, rfl, rfl, (by assumption), (by first | omega | (dsimp only; omega)), (by first | omega | (dsimp only; omega)), (by first | omega | (dsimp only; omega))⟩), (by first | assumption | trivial | omega | (dsimp only; omega)), hj1_102⟩ (hP.part (cx := [(mm, .inr (5, [.ref tp, .int sz, .int at2_4, .ref tk, .ref tp, .ref ou, .int tm, .int om, al, pt, .ref pg, .int wr])), (tp, .inl (G.2.1 0, 1000, .inl tpf)), (tk, .inl (G.2.1 0, 101, .inl tkf2_102)), (p_10, .inr (6, [.int 5, .int 0, .int 0, .int 0, .ref q_11, .null, .null])), (q_11, .inl (G.2.1 0, nn, .inl cf_12))]) [1, 0, 2, 3, 4] rfl) (hD.part (cx := [(mm, .inr (5, [.ref tp, .int sz, .int at2_4, .ref tk, .ref tp, .ref ou, .int tm, .int om, al, pt, .ref pg, .int wr])), (tp, .inl (G.2.1 0, 1000, .inl tpf)), (tk, .inl (G.2.1 0, 101, .inl tkf2_102)), (p_10, .inr (6, [.int 5, .int 0, .int 0, .int 0, .ref q_11, .null, .null])), (q_11, .inl (G.2.1 0, nn, .inl cf_12))]) [1, 0, 2, 3, 4] (by decide) rfl) hS
  have J_12 : ∀ (fu : Nat) (x1_12 : Int32) (at2_12 : Int32) (tkf2_12 : Nat → Int32) (hj0_12 : at0.toInt ≤ at2_12.toInt ∧ at2_12.toInt ≤ sz.toInt) (hj1_12 : sb_Fit tkf2_12) (hk0_12 : at0.toInt + 1 + x1_12.toInt ≤ at2_12.toInt) (hk1_12 : 0 ≤ x1_12.toInt ∧ x1_12.toInt ≤ 100), (sz.toInt - at2_12.toInt).toNat < fu → ∀ (H : Heap) (locs : List Loc), va_P G.1 vwCl ([(mm, .inr (5, [.ref tp, .int sz, .int at2_12, .ref tk, .ref tp, .ref ou, .int tm, .int om, al, pt, .ref pg, .int wr])), (tp, .inl (G.2.1 0, 1000, .inl tpf)), (tk, .inl (G.2.1 0, 101, .inl tkf2_12))] ++ pl) H → va_D A ([(mm, .inr (5, [.ref tp, .int sz, .int at2_12, .ref tk, .ref tp, .ref ou, .int tm, .int om, al, pt, .ref pg, .int wr])), (tp, .inl (G.2.1 0, 1000, .inl tpf)), (tk, .inl (G.2.1 0, 101, .inl tkf2_12))] ++ pl) → va_S A s.heap H locs → ∀ ls : Array Slot, lv_has ls 3 [(1, .int x1_12), (0, .ref mm)] → W p l e rm_M_string s m args below meth c H locs 0 0 Q (F0 m 12 ls []) := by
    intro fu
    induction fu with
    | zero =>
      intro x1_12 at2_12 tkf2_12 hj0_12 hj1_12 hk0_12 hk1_12 hm
      exact absurd hm (Nat.not_lt_zero _)
    | succ fu ih_12 =>
      intro x1_12 at2_12 tkf2_12 hj0_12 hj1_12 hk0_12 hk1_12 hm_12 H locs hP hD hS ls hl
      have J_88 : ∀ (x2_88 : Int32) (at2_88 : Int32) (tkf2_88 : Nat → Int32) (hj0_88 : at0.toInt ≤ at2_88.toInt ∧ at2_88.toInt ≤ sz.toInt) (hj1_88 : sb_Fit tkf2_88) (hk0_88 : at0.toInt + 1 + x1_12.toInt + 1 ≤ at2_88.toInt) (hk1_88 : 0 ≤ x1_12.toInt ∧ x1_12.toInt < 100) (hk2_88 : at2_12.toInt < at2_88.toInt) (H : Heap) (locs : List Loc), va_P G.1 vwCl ([(mm, .inr (5, [.ref tp, .int sz, .int at2_88, .ref tk, .ref tp, .ref ou, .int tm, .int om, al, pt, .ref pg, .int wr])), (tp, .inl (G.2.1 0, 1000, .inl tpf)), (tk, .inl (G.2.1 0, 101, .inl tkf2_88))] ++ pl) H → va_D A ([(mm, .inr (5, [.ref tp, .int sz, .int at2_88, .ref tk, .ref tp, .ref ou, .int tm, .int om, al, pt, .ref pg, .int wr])), (tp, .inl (G.2.1 0, 1000, .inl tpf)), (tk, .inl (G.2.1 0, 101, .inl tkf2_88))] ++ pl) → va_S A s.heap H locs → ∀ ls : Array Slot, lv_has ls 3 [(2, .int x2_88), (1, .int x1_12), (0, .ref mm)] → W p l e rm_M_string s m args below meth c H locs 0 0 Q (F0 m 88 ls []) := by
        intro x2_88 at2_88 tkf2_88 hj0_88 hj1_88 hk0_88 hk1_88 hk2_88 H locs hP hD hS ls hl
        refine lv_aload_n hx hb d_M_string_88 rfl (lv_at hl 2 rfl) ?_
        refine va_get (D := G.1) (ci := 5) (v := .ref tk) (C := R_M) (T := F_M) (N := 12) hx hb hw i_M hown hE.1 hP 0 rfl rfl 3 (by decide) (hw _ m_456) (fun _ h9 => h9) rfl d_M_string_89 ?_
        refine lv_iload_n hx hb d_M_string_92 rfl (lv_at hl 1 rfl) ?_
        refine lv_iload_n hx hb d_M_string_93 rfl (lv_at hl 0 rfl) ?_
        refine lv_i2b hx hb d_M_string_94 rfl ?_
        refine lv_topi (fun y_15 ey_15 => ?_)
        refine va_bast hx hb hE.1 hP hD hS 2 0 rfl rfl (i := x1_12) (z_in (by omega) (by omega)) d_M_string_95 (fun H locs hP hD hS => ?_)
        obtain ⟨f_16, ef_16⟩ : ∃ y : Nat → Int32, y = upd tkf2_88 x1_12.toNatClampNeg (vp_nar .byte y_15) := ⟨_, rfl⟩
        rw [← ef_16] at hP hD
        have hP : va_P G.1 vwCl ([(mm, .inr (5, [.ref tp, .int sz, .int at2_88, .ref tk, .ref tp, .ref ou, .int tm, .int om, al, pt, .ref pg, .int wr])), (tp, .inl (G.2.1 0, 1000, .inl tpf)), (tk, .inl (G.2.1 0, 101, .inl f_16))] ++ pl) H := hP
        have hD : va_D A ([(mm, .inr (5, [.ref tp, .int sz, .int at2_88, .ref tk, .ref tp, .ref ou, .int tm, .int om, al, pt, .ref pg, .int wr])), (tp, .inl (G.2.1 0, 1000, .inl tpf)), (tk, .inl (G.2.1 0, 101, .inl f_16))] ++ pl) := hD
        have hff_16 : sb_Fit f_16 := by rw [ef_16]; exact fit_upd hj1_88
        obtain ⟨y_17, ey_17⟩ : ∃ y : Int32, y = x1_12 + 1 := ⟨_, rfl⟩
        have tl_1 : (1 : Int32).toInt = 1 := by decide
        have ty_17 := z_addE ey_17
        refine lv_iinc (v := y_17) (lv' := [(1, .int y_17), (2, .int x2_88), (0, .ref mm)]) hx hb d_M_string_96 hl (k := 1) rfl (by rw [ey_17]; rfl) (by decide) rfl (fun ls hl => ?_)
        refine lv_goto (tgt := 12) hx hb d_M_string_99 (by decide) ?_
        exact ih_12 y_17 at2_88 f_16 hj0_88 hff_16 (by first | assumption | trivial | omega | (dsimp only; omega)) (by first | assumption | trivial | omega | (dsimp only; omega)) (by omega) _ _ (hP.part [0, 1, 2] rfl) (hD.part [0, 1, 2] (by decide) rfl) hS _ (lv_sub hl [0, 2] rfl)
      refine lv_aload_n hx hb d_M_string_12 rfl (lv_at hl 1 rfl) ?_
      refine va_get (D := G.1) (ci := 5) (v := .int at2_12) (C := R_M) (T := F_M) (N := 12) hx hb hw i_M hown hE.1 hP 0 rfl rfl 2 (by decide) (hw _ m_455) (fun _ h9 => h9) rfl d_M_string_13 ?_
      refine lv_aload_n hx hb d_M_string_16 rfl (lv_at hl 1 rfl) ?_
      refine va_get (D := G.1) (ci := 5) (v := .int sz) (C := R_M) (T := F_M) (N := 12) hx hb hw i_M hown hE.1 hP 0 rfl rfl 1 (by decide) (hw _ m_454) (fun _ h9 => h9) rfl d_M_string_17 ?_
      refine lv_icmp_ge (tgt := 102) hx hb d_M_string_20 (by decide) (fun c_18 => ?_) (fun c_18 => ?_)
      · have tc_18 := z_le.mp c_18
        exact J_102 x1_12 at2_12 tkf2_12 hj0_12 hj1_12 hk0_12 hk1_12 _ _ (hP.part [0, 1, 2] rfl) (hD.part [0, 1, 2] (by decide) rfl) hS _ (lv_sub hl [0, 1] rfl)
      · have tc_18 := z_nle c_18
        refine lv_aload_n hx hb d_M_string_23 rfl (lv_at hl 1 rfl) ?_
        refine va_get (D := G.1) (ci := 5) (v := .ref tp) (C := R_M) (T := F_M) (N := 12) hx hb hw i_M hown hE.1 hP 0 rfl rfl 0 (by decide) (hw _ m_453) (fun _ h9 => h9) rfl d_M_string_24 ?_
        refine lv_aload_n hx hb d_M_string_27 rfl (lv_at hl 1 rfl) ?_
        refine va_get (D := G.1) (ci := 5) (v := .int at2_12) (C := R_M) (T := F_M) (N := 12) hx hb hw i_M hown hE.1 hP 0 rfl rfl 2 (by decide) (hw _ m_455) (fun _ h9 => h9) rfl d_M_string_28 ?_
        refine va_bald hx hb hE.1 hP 1 0 rfl rfl (i := at2_12) (z_in (by omega) (by omega)) d_M_string_31 ?_
        refine lv_topi (fun y_19 ey_19 => ?_)
        refine lv_bipush (v := 41) hx hb d_M_string_32 (by decide) ?_
        refine lv_icmp_eq (tgt := 102) hx hb d_M_string_34 (by decide) (fun c_20 => ?_) (fun c_20 => ?_)
        · have tl_41 : (41 : Int32).toInt = 41 := by decide
          have tc_20 := congrArg Int32.toInt c_20
          exact J_102 x1_12 at2_12 tkf2_12 hj0_12 hj1_12 hk0_12 hk1_12 _ _ (hP.part [0, 1, 2] rfl) (hD.part [0, 1, 2] (by decide) rfl) hS _ (lv_sub hl [0, 1] rfl)
        · have tl_41 : (41 : Int32).toInt = 41 := by decide
          have tc_20 := z_ne c_20
          refine lv_aload_n hx hb d_M_string_37 rfl (lv_at hl 1 rfl) ?_
          refine va_get (D := G.1) (ci := 5) (v := .ref tp) (C := R_M) (T := F_M) (N := 12) hx hb hw i_M hown hE.1 hP 0 rfl rfl 0 (by decide) (hw _ m_453) (fun _ h9 => h9) rfl d_M_string_38 ?_
          refine lv_aload_n hx hb d_M_string_41 rfl (lv_at hl 1 rfl) ?_
          refine va_get (D := G.1) (ci := 5) (v := .int at2_12) (C := R_M) (T := F_M) (N := 12) hx hb hw i_M hown hE.1 hP 0 rfl rfl 2 (by decide) (hw _ m_455) (fun _ h9 => h9) rfl d_M_string_42 ?_
          refine va_bald hx hb hE.1 hP 1 0 rfl rfl (i := at2_12) (z_in (by omega) (by omega)) d_M_string_45 ?_
          refine lv_topi (fun y_21 ey_21 => ?_)
          refine lv_istore_n (lv' := [(2, .int y_21), (1, .int x1_12), (0, .ref mm)]) hx hb d_M_string_46 rfl hl (by decide) rfl (fun ls hl => ?_)
          refine lv_iload_n hx hb d_M_string_47 rfl (lv_at hl 0 rfl) ?_
          refine lv_bipush (v := 40) hx hb d_M_string_48 (by decide) ?_
          refine lv_icmp_eq (tgt := 59) hx hb d_M_string_50 (by decide) (fun c_22 => ?_) (fun c_22 => ?_)
          · have tl_40 : (40 : Int32).toInt = 40 := by decide
            have tc_22 := congrArg Int32.toInt c_22
            refine lv_null hx hb d_M_string_59 ?_
            exact ret none (at2_12, tkf2_12, pl) (Nat.le_of_ble_eq_true rfl) (Nat.le_of_ble_eq_true rfl) (Nat.le_of_ble_eq_true rfl) (Nat.le_of_ble_eq_true rfl) d_M_string_60 ⟨Or.inl ⟨rfl, rfl⟩, hj0_12, hj1_12⟩ (hP.part (cx := [(mm, .inr (5, [.ref tp, .int sz, .int at2_12, .ref tk, .ref tp, .ref ou, .int tm, .int om, al, pt, .ref pg, .int wr])), (tp, .inl (G.2.1 0, 1000, .inl tpf)), (tk, .inl (G.2.1 0, 101, .inl tkf2_12))]) [0, 1, 2] rfl) (hD.part (cx := [(mm, .inr (5, [.ref tp, .int sz, .int at2_12, .ref tk, .ref tp, .ref ou, .int tm, .int om, al, pt, .ref pg, .int wr])), (tp, .inl (G.2.1 0, 1000, .inl tpf)), (tk, .inl (G.2.1 0, 101, .inl tkf2_12))]) [0, 1, 2] (by decide) rfl) hS
          · have tl_40 : (40 : Int32).toInt = 40 := by decide
            have tc_22 := z_ne c_22
            refine lv_iload_n hx hb d_M_string_53 rfl (lv_at hl 1 rfl) ?_
            refine lv_bipush (v := 100) hx hb d_M_string_54 (by decide) ?_
            refine lv_icmp_ne (tgt := 61) hx hb d_M_string_56 (by decide) (fun c_23 => ?_) (fun c_23 => ?_)
            · have tl_100 : (100 : Int32).toInt = 100 := by decide
              have tc_23 := z_ne c_23
              refine lv_aload_n hx hb d_M_string_61 rfl (lv_at hl 2 rfl) ?_
              refine lv_dup hx hb d_M_string_62 rfl ?_
              refine va_get (D := G.1) (ci := 5) (v := .int at2_12) (C := R_M) (T := F_M) (N := 12) hx hb hw i_M hown hE.1 hP 0 rfl rfl 2 (by decide) (hw _ m_455) (fun _ h9 => h9) rfl d_M_string_63 ?_
              refine lv_iconst (v := 1) hx hb d_M_string_66 (by decide) ?_
              refine lv_iadd hx hb d_M_string_67 ?_
              refine lv_topi (fun y_24 ey_24 => ?_)
              have tl_1 : (1 : Int32).toInt = 1 := by decide
              have ty_24 := z_addE ey_24
              refine va_put (D := G.1) (ci := 5) (v := .int y_24) (ty := .int) (C := R_M) (T := F_M) (N := 12) hx hb hw i_M t_M t_M_ok n_M hown hE.1 hP hD hS 0 rfl rfl 2 (by decide) (hw _ m_455) (fun _ h9 => h9) rfl (by decide +kernel) rfl rfl (Nat.le_of_ble_eq_true rfl) d_M_string_68 (fun H locs hP hD hS => ?_)
              have hP : va_P G.1 vwCl ([(mm, .inr (5, [.ref tp, .int sz, .int y_24, .ref tk, .ref tp, .ref ou, .int tm, .int om, al, pt, .ref pg, .int wr])), (tp, .inl (G.2.1 0, 1000, .inl tpf)), (tk, .inl (G.2.1 0, 101, .inl tkf2_12))] ++ pl) H := hP
              have hD : va_D A ([(mm, .inr (5, [.ref tp, .int sz, .int y_24, .ref tk, .ref tp, .ref ou, .int tm, .int om, al, pt, .ref pg, .int wr])), (tp, .inl (G.2.1 0, 1000, .inl tpf)), (tk, .inl (G.2.1 0, 101, .inl tkf2_12))] ++ pl) := hD
              refine lv_iload_n hx hb d_M_string_71 rfl (lv_at hl 0 rfl) ?_
              refine lv_bipush (v := 92) hx hb d_M_string_72 (by decide) ?_
              refine lv_icmp_ne (tgt := 88) hx hb d_M_string_74 (by decide) (fun c_25 => ?_) (fun c_25 => ?_)
              · have tl_92 : (92 : Int32).toInt = 92 := by decide
                have tc_25 := z_ne c_25
                exact J_88 y_21 y_24 tkf2_12 (by first | assumption | trivial | omega | (dsimp only; omega)) hj1_12 (by first | assumption | trivial | omega | (dsimp only; omega)) (by first | assumption | trivial | omega | (dsimp only; omega)) (by first | assumption | trivial | omega | (dsimp only; omega)) _ _ (hP.part [0, 1, 2] rfl) (hD.part [0, 1, 2] (by decide) rfl) hS _ (lv_sub hl [0, 1, 2] rfl)
              · have tl_92 : (92 : Int32).toInt = 92 := by decide
                have tc_25 := congrArg Int32.toInt c_25
                refine lv_aload_n hx hb d_M_string_77 rfl (lv_at hl 2 rfl) ?_
                refine gq_i (X := [(mm, .inr (5, [.ref tp, .int sz, .int y_24, .ref tk, .ref tp, .ref ou, .int tm, .int om, al, pt, .ref pg, .int wr])), (tp, .inl (G.2.1 0, 1000, .inl tpf)), (tk, .inl (G.2.1 0, 101, .inl tkf2_12))]) (wr := [(tk, .inl (G.2.1 0, 101, .inl tkf2_12))]) (gh_V (wc := [(mm, .inr (5, [.ref tp, .int sz, .int y_24, .ref tk, .ref tp, .ref ou, .int tm, .int om, al, pt, .ref pg, .int wr])), (tp, .inl (G.2.1 0, 1000, .inl tpf))]) (As := []) (rest := []) ⟨hx, hb, hml, hown, hw⟩ (c_M_escaped l G mm tp tk ou pg sz y_24 tm om wr al pt tpf hz (by first | assumption | trivial | omega | (dsimp only; omega)) H.size) (cwV 0 hw (good_V m_593 m_595 ms_36 m_4 m_596) rfl rfl rfl hy_M_escaped ⟨Nat.le_of_ble_eq_true rfl, Nat.le_of_ble_eq_true rfl⟩) (gP.here (wc := [(mm, .inr (5, [.ref tp, .int sz, .int y_24, .ref tk, .ref tp, .ref ou, .int tm, .int om, al, pt, .ref pg, .int wr])), (tp, .inl (G.2.1 0, 1000, .inl tpf))]) hE hP hD hS hA [0, 1] rfl (by decide)) (va_recv hE.1 hP (ci := 5) (q0 := 0) rfl rfl) rfl hl rfl (Nat.le_of_ble_eq_true rfl) d_M_string_78 ⟨Nat.le_of_ble_eq_true rfl, Nat.le_of_ble_eq_true rfl⟩) hP hD hS hA [0, 1] [2] rfl rfl rfl (by decide) (by decide) (fun r_26 u_27 H locs hw_28 hP hD hS => ?_)
                obtain ⟨at2_29, rfl⟩ : ∃ z, z = u_27 := ⟨_, rfl⟩
                try dsimp only at hw_28
                have h_30 := hw_28
                have hP : va_P G.1 vwCl ([(tk, .inl (G.2.1 0, 101, .inl tkf2_12)), (mm, .inr (5, [.ref tp, .int sz, .int at2_29, .ref tk, .ref tp, .ref ou, .int tm, .int om, al, pt, .ref pg, .int wr])), (tp, .inl (G.2.1 0, 1000, .inl tpf))] ++ pl) H := hP
                have hD : va_D A ([(tk, .inl (G.2.1 0, 101, .inl tkf2_12)), (mm, .inr (5, [.ref tp, .int sz, .int at2_29, .ref tk, .ref tp, .ref ou, .int tm, .int om, al, pt, .ref pg, .int wr])), (tp, .inl (G.2.1 0, 1000, .inl tpf))] ++ pl) := hD
                refine lv_istore_n (lv' := [(2, .int r_26), (1, .int x1_12), (0, .ref mm)]) hx hb d_M_string_81 rfl hl (by decide) rfl (fun ls hl => ?_)
                refine lv_iload_n hx hb d_M_string_82 rfl (lv_at hl 0 rfl) ?_
                refine lv_if_ge (tgt := 88) hx hb d_M_string_83 (by decide) (fun c_31 => ?_) (fun c_31 => ?_)
                · have tl_0 : (0 : Int32).toInt = 0 := by decide
                  have tc_31 := z_le.mp c_31
                  exact J_88 r_26 at2_29 tkf2_12 (by first | assumption | trivial | omega | (dsimp only; omega)) hj1_12 (by first | assumption | trivial | omega | (dsimp only; omega)) (by first | assumption | trivial | omega | (dsimp only; omega)) (by first | assumption | trivial | omega | (dsimp only; omega)) _ _ (hP.part [1, 2, 0] rfl) (hD.part [1, 2, 0] (by decide) rfl) hS _ (lv_sub hl [0, 1, 2] rfl)
                · have tl_0 : (0 : Int32).toInt = 0 := by decide
                  have tc_31 := z_nle c_31
                  refine lv_null hx hb d_M_string_86 ?_
                  exact ret none (at2_29, tkf2_12, pl) (Nat.le_of_ble_eq_true rfl) (Nat.le_of_ble_eq_true rfl) (Nat.le_of_ble_eq_true rfl) (Nat.le_of_ble_eq_true rfl) d_M_string_87 ⟨Or.inl ⟨rfl, rfl⟩, (by first | assumption | trivial | omega | (dsimp only; omega)), hj1_12⟩ (hP.part (cx := [(mm, .inr (5, [.ref tp, .int sz, .int at2_29, .ref tk, .ref tp, .ref ou, .int tm, .int om, al, pt, .ref pg, .int wr])), (tp, .inl (G.2.1 0, 1000, .inl tpf)), (tk, .inl (G.2.1 0, 101, .inl tkf2_12))]) [1, 2, 0] rfl) (hD.part (cx := [(mm, .inr (5, [.ref tp, .int sz, .int at2_29, .ref tk, .ref tp, .ref ou, .int tm, .int om, al, pt, .ref pg, .int wr])), (tp, .inl (G.2.1 0, 1000, .inl tpf)), (tk, .inl (G.2.1 0, 101, .inl tkf2_12))]) [1, 2, 0] (by decide) rfl) hS
            · have tl_100 : (100 : Int32).toInt = 100 := by decide
              have tc_23 := congrArg Int32.toInt c_23
              refine lv_null hx hb d_M_string_59 ?_
              exact ret none (at2_12, tkf2_12, pl) (Nat.le_of_ble_eq_true rfl) (Nat.le_of_ble_eq_true rfl) (Nat.le_of_ble_eq_true rfl) (Nat.le_of_ble_eq_true rfl) d_M_string_60 ⟨Or.inl ⟨rfl, rfl⟩, hj0_12, hj1_12⟩ (hP.part (cx := [(mm, .inr (5, [.ref tp, .int sz, .int at2_12, .ref tk, .ref tp, .ref ou, .int tm, .int om, al, pt, .ref pg, .int wr])), (tp, .inl (G.2.1 0, 1000, .inl tpf)), (tk, .inl (G.2.1 0, 101, .inl tkf2_12))]) [0, 1, 2] rfl) (hD.part (cx := [(mm, .inr (5, [.ref tp, .int sz, .int at2_12, .ref tk, .ref tp, .ref ou, .int tm, .int om, al, pt, .ref pg, .int wr])), (tp, .inl (G.2.1 0, 1000, .inl tpf)), (tk, .inl (G.2.1 0, 101, .inl tkf2_12))]) [0, 1, 2] (by decide) rfl) hS
  refine lv_aload_n hx hb d_M_string_0 rfl (lv_at hl 0 rfl) ?_
  refine lv_dup hx hb d_M_string_1 rfl ?_
  refine va_get (D := G.1) (ci := 5) (v := .int at0) (C := R_M) (T := F_M) (N := 12) hx hb hw i_M hown hE.1 hP 0 rfl rfl 2 (by decide) (hw _ m_455) (fun _ h9 => h9) rfl d_M_string_2 ?_
  refine lv_iconst (v := 1) hx hb d_M_string_5 (by decide) ?_
  refine lv_iadd hx hb d_M_string_6 ?_
  refine lv_topi (fun y_32 ey_32 => ?_)
  have tl_1 : (1 : Int32).toInt = 1 := by decide
  have ty_32 := z_addE ey_32
  refine va_put (D := G.1) (ci := 5) (v := .int y_32) (ty := .int) (C := R_M) (T := F_M) (N := 12) hx hb hw i_M t_M t_M_ok n_M hown hE.1 hP hD hS 0 rfl rfl 2 (by decide) (hw _ m_455) (fun _ h9 => h9) rfl (by decide +kernel) rfl rfl (Nat.le_of_ble_eq_true rfl) d_M_string_7 (fun H locs hP hD hS => ?_)
  have hP : va_P G.1 vwCl ([(mm, .inr (5, [.ref tp, .int sz, .int y_32, .ref tk, .ref tp, .ref ou, .int tm, .int om, al, pt, .ref pg, .int wr])), (tp, .inl (G.2.1 0, 1000, .inl tpf)), (tk, .inl (G.2.1 0, 101, .inl tkf))] ++ pl) H := hP
  have hD : va_D A ([(mm, .inr (5, [.ref tp, .int sz, .int y_32, .ref tk, .ref tp, .ref ou, .int tm, .int om, al, pt, .ref pg, .int wr])), (tp, .inl (G.2.1 0, 1000, .inl tpf)), (tk, .inl (G.2.1 0, 101, .inl tkf))] ++ pl) := hD
  refine lv_iconst (v := 0) hx hb d_M_string_10 (by decide) ?_
  refine lv_istore_n (lv' := [(1, .int 0), (0, .ref mm)]) hx hb d_M_string_11 rfl hl (by decide) rfl (fun ls hl => ?_)
  have tl_0 : (0 : Int32).toInt = 0 := by decide
  exact J_12 _ 0 y_32 tkf (by first | assumption | trivial | omega | (dsimp only; omega)) htf (by first | assumption | trivial | omega | (dsimp only; omega)) (by first | assumption | trivial | omega | (dsimp only; omega)) (Nat.lt_succ_self _) _ _ (hP.part [0, 1, 2] rfl) (hD.part [0, 1, 2] (by decide) rfl) hS _ (lv_sub hl [0, 1] rfl)
def rm_M_digits : Room := { frames := 3, cells := 2, slots := 107, locals := 72 }
set_option maxHeartbeats 4000000 in
set_option maxRecDepth 100000 in
theorem c_M_digits (l : Launch) (G : GG) (mm : Nat) (tp : Nat) (tk : Nat) (ou : Nat) (pg : Nat) (sz : Int32) (at0 : Int32) (tm : Int32) (om : Int32) (wr : Int32) (al : Value) (pt : Value) (tpf : Nat → Int32) (tkf : Nat → Int32) (pl : va_W) (hz : 0 ≤ sz.toInt ∧ sz.toInt ≤ 1000) (hc : 0 ≤ at0.toInt ∧ at0.toInt ≤ sz.toInt) (hlt : at0.toInt < sz.toInt) (htf : sb_Fit tkf) : MO l y_M_digits b_M_digits 2 (.object "ValueTextsModel$Part") rm_M_digits G [.ref mm] ([(mm, .inr (5, [.ref tp, .int sz, .int at0, .ref tk, .ref tp, .ref ou, .int tm, .int om, al, pt, .ref pg, .int wr])), (tp, .inl (G.2.1 0, 1000, .inl tpf)), (tk, .inl (G.2.1 0, 101, .inl tkf))] ++ pl) (fun (v : Option Nat) (u : Int32 × (Nat → Int32) × va_W) => (StrR G pl u.2.2 at0 u.1 sz v) ∧ (at0.toInt ≤ u.1.toInt ∧ u.1.toInt ≤ sz.toInt) ∧ (sb_Fit u.2.1)) (fun (u : Int32 × (Nat → Int32) × va_W) => ([(mm, .inr (5, [.ref tp, .int sz, .int u.1, .ref tk, .ref tp, .ref ou, .int tm, .int om, al, pt, .ref pg, .int wr])), (tp, .inl (G.2.1 0, 1000, .inl tpf)), (tk, .inl (G.2.1 0, 101, .inl u.2.1))] ++ u.2.2)) (fun (v : Option Nat) (u : Int32 × (Nat → Int32) × va_W) => 2) (fun (v : Option Nat) (u : Int32 × (Nat → Int32) × va_W) => 107) 2 107 := by
  refine MO.of (cc := b_M_digits) (maxL := 2) (ty := .object "ValueTextsModel$Part") (C := R_M) (by decide +kernel) rfl (Nat.le_of_ble_eq_true rfl) (Or.inl ⟨_, rfl⟩) ?_
  intro p e s m args below meth c A Q H ls hx hb hml hown hw hE hA hP hD hS ret hl
  have hl : lv_has ls 2 [(0, .ref mm)] := hl
  have J_143 : ∀ (x1_143 : Int32) (at2_143 : Int32) (tkf2_143 : Nat → Int32) (hj0_143 : at0.toInt ≤ at2_143.toInt ∧ at2_143.toInt ≤ sz.toInt) (hj1_143 : sb_Fit tkf2_143) (hk0_143 : at0.toInt + 1 + x1_143.toInt ≤ at2_143.toInt) (hk1_143 : 0 ≤ x1_143.toInt ∧ x1_143.toInt ≤ 100) (H : Heap) (locs : List Loc), va_P G.1 vwCl ([(mm, .inr (5, [.ref tp, .int sz, .int at2_143, .ref tk, .ref tp, .ref ou, .int tm, .int om, al, pt, .ref pg, .int wr])), (tp, .inl (G.2.1 0, 1000, .inl tpf)), (tk, .inl (G.2.1 0, 101, .inl tkf2_143))] ++ pl) H → va_D A ([(mm, .inr (5, [.ref tp, .int sz, .int at2_143, .ref tk, .ref tp, .ref ou, .int tm, .int om, al, pt, .ref pg, .int wr])), (tp, .inl (G.2.1 0, 1000, .inl tpf)), (tk, .inl (G.2.1 0, 101, .inl tkf2_143))] ++ pl) → va_S A s.heap H locs → ∀ ls : Array Slot, lv_has ls 2 [(1, .int x1_143), (0, .ref mm)] → W p l e rm_M_digits s m args below meth c H locs 0 0 Q (F0 m 143 ls []) := by
    intro x1_143 at2_143 tkf2_143 hj0_143 hj1_143 hk0_143 hk1_143 H locs hP hD hS ls hl
    refine lv_aload_n hx hb d_M_digits_143 rfl (lv_at hl 1 rfl) ?_
    refine lv_bipush (v := 62) hx hb d_M_digits_144 (by decide) ?_
    refine gq_i (X := [(mm, .inr (5, [.ref tp, .int sz, .int at2_143, .ref tk, .ref tp, .ref ou, .int tm, .int om, al, pt, .ref pg, .int wr])), (tp, .inl (G.2.1 0, 1000, .inl tpf)), (tk, .inl (G.2.1 0, 101, .inl tkf2_143))]) (wr := [(tk, .inl (G.2.1 0, 101, .inl tkf2_143))]) (gh_V (wc := [(mm, .inr (5, [.ref tp, .int sz, .int at2_143, .ref tk, .ref tp, .ref ou, .int tm, .int om, al, pt, .ref pg, .int wr])), (tp, .inl (G.2.1 0, 1000, .inl tpf))]) (As := [.int 62]) (rest := []) ⟨hx, hb, hml, hown, hw⟩ (c_M_takeByte l G mm tp tk ou pg sz at2_143 tm om wr al pt tpf 62 hz (by first | assumption | trivial | omega | (dsimp only; omega)) H.size) (cwV 1 hw (good_V m_597 m_599 ms_37 m_4 m_600) rfl rfl rfl hy_M_takeByte ⟨Nat.le_of_ble_eq_true rfl, Nat.le_of_ble_eq_true rfl⟩) (gP.here (wc := [(mm, .inr (5, [.ref tp, .int sz, .int at2_143, .ref tk, .ref tp, .ref ou, .int tm, .int om, al, pt, .ref pg, .int wr])), (tp, .inl (G.2.1 0, 1000, .inl tpf))]) hE hP hD hS hA [0, 1] rfl (by decide)) (va_recv hE.1 hP (ci := 5) (q0 := 0) rfl rfl) rfl hl rfl (Nat.le_of_ble_eq_true rfl) d_M_digits_146 ⟨Nat.le_of_ble_eq_true rfl, Nat.le_of_ble_eq_true rfl⟩) hP hD hS hA [0, 1] [2] rfl rfl rfl (by decide) (by decide) (fun r_1 u_2 H locs hw_3 hP hD hS => ?_)
    obtain ⟨at2_4, rfl⟩ : ∃ z, z = u_2 := ⟨_, rfl⟩
    try dsimp only at hw_3
    have h_5 := hw_3
    have hP : va_P G.1 vwCl ([(tk, .inl (G.2.1 0, 101, .inl tkf2_143)), (mm, .inr (5, [.ref tp, .int sz, .int at2_4, .ref tk, .ref tp, .ref ou, .int tm, .int om, al, pt, .ref pg, .int wr])), (tp, .inl (G.2.1 0, 1000, .inl tpf))] ++ pl) H := hP
    have hD : va_D A ([(tk, .inl (G.2.1 0, 101, .inl tkf2_143)), (mm, .inr (5, [.ref tp, .int sz, .int at2_4, .ref tk, .ref tp, .ref ou, .int tm, .int om, al, pt, .ref pg, .int wr])), (tp, .inl (G.2.1 0, 1000, .inl tpf))] ++ pl) := hD
    refine lv_if_eq (tgt := 160) hx hb d_M_digits_149 (by decide) (fun c_6 => ?_) (fun c_6 => ?_)
    · have tc_6 := bool_f h_5 c_6
      refine lv_null hx hb d_M_digits_160 ?_
      exact ret none (at2_4, tkf2_143, pl) (Nat.le_of_ble_eq_true rfl) (Nat.le_of_ble_eq_true rfl) (Nat.le_of_ble_eq_true rfl) (Nat.le_of_ble_eq_true rfl) d_M_digits_161 ⟨Or.inl ⟨rfl, rfl⟩, (by first | assumption | trivial | omega | (dsimp only; omega)), hj1_143⟩ (hP.part (cx := [(mm, .inr (5, [.ref tp, .int sz, .int at2_4, .ref tk, .ref tp, .ref ou, .int tm, .int om, al, pt, .ref pg, .int wr])), (tp, .inl (G.2.1 0, 1000, .inl tpf)), (tk, .inl (G.2.1 0, 101, .inl tkf2_143))]) [1, 2, 0] rfl) (hD.part (cx := [(mm, .inr (5, [.ref tp, .int sz, .int at2_4, .ref tk, .ref tp, .ref ou, .int tm, .int om, al, pt, .ref pg, .int wr])), (tp, .inl (G.2.1 0, 1000, .inl tpf)), (tk, .inl (G.2.1 0, 101, .inl tkf2_143))]) [1, 2, 0] (by decide) rfl) hS
    · have tc_6 := bool_t h_5 c_6
      obtain ⟨nn, hnn⟩ : ∃ nn : Nat, (nn : Int) = x1_143.toInt := ⟨x1_143.toInt.toNat, by omega⟩
      refine lv_aload_n hx hb d_M_digits_152 rfl (lv_at hl 1 rfl) ?_
      refine lv_iload_n hx hb d_M_digits_153 rfl (lv_at hl 0 rfl) ?_
      refine gq_r (X := [(tk, .inl (G.2.1 0, 101, .inl tkf2_143)), (mm, .inr (5, [.ref tp, .int sz, .int at2_4, .ref tk, .ref tp, .ref ou, .int tm, .int om, al, pt, .ref pg, .int wr])), (tp, .inl (G.2.1 0, 1000, .inl tpf))]) (wr := [(tp, .inl (G.2.1 0, 1000, .inl tpf))]) (gh_V (wc := [(mm, .inr (5, [(.ref tp), .int sz, .int at2_4, .ref tk, .ref tp, .ref ou, .int tm, .int om, al, pt, .ref pg, .int wr])), (tk, .inl (G.2.1 0, 101, .inl tkf2_143))]) (As := [.int x1_143]) (rest := []) ⟨hx, hb, hml, hown, hw⟩ (c_M_ofBytes l G mm tp tk ou pg sz at2_4 tm om wr al pt (.ref tp) tkf2_143 x1_143 nn hj1_143 (by first | assumption | trivial | omega | (dsimp only; omega)) H.size) (cwV 1 hw (good_V m_601 m_603 ms_38 m_4 m_604) rfl rfl rfl hy_M_ofBytes ⟨Nat.le_of_ble_eq_true rfl, Nat.le_of_ble_eq_true rfl⟩) (gP.here (wc := [(mm, .inr (5, [(.ref tp), .int sz, .int at2_4, .ref tk, .ref tp, .ref ou, .int tm, .int om, al, pt, .ref pg, .int wr])), (tk, .inl (G.2.1 0, 101, .inl tkf2_143))]) hE hP hD hS hA [1, 0] rfl (by decide)) (va_recv hE.1 hP (ci := 5) (q0 := 1) rfl rfl) rfl hl rfl (Nat.le_of_ble_eq_true rfl) d_M_digits_154 ⟨Nat.le_of_ble_eq_true rfl, Nat.le_of_ble_eq_true rfl⟩) hP hD hS hA [1, 0] [2] rfl rfl rfl (by decide) (by decide) (fun r_7 u_8 H locs hw_9 hP hD hS => ?_)
      obtain ⟨p_10, q_11, cf_12⟩ := u_8
      try dsimp only at hw_9
      obtain ⟨h_13, h_14⟩ := hw_9
      subst h_13
      have hP : va_P G.1 vwCl ([(tp, .inl (G.2.1 0, 1000, .inl tpf)), (mm, .inr (5, [(.ref tp), .int sz, .int at2_4, .ref tk, .ref tp, .ref ou, .int tm, .int om, al, pt, .ref pg, .int wr])), (tk, .inl (G.2.1 0, 101, .inl tkf2_143)), (p_10, .inr (6, [.int 5, .int 0, .int 0, .int 0, .ref q_11, .null, .null])), (q_11, .inl (G.2.1 0, nn, .inl cf_12))] ++ pl) H := hP
      have hD : va_D A ([(tp, .inl (G.2.1 0, 1000, .inl tpf)), (mm, .inr (5, [(.ref tp), .int sz, .int at2_4, .ref tk, .ref tp, .ref ou, .int tm, .int om, al, pt, .ref pg, .int wr])), (tk, .inl (G.2.1 0, 101, .inl tkf2_143)), (p_10, .inr (6, [.int 5, .int 0, .int 0, .int 0, .ref q_11, .null, .null])), (q_11, .inl (G.2.1 0, nn, .inl cf_12))] ++ pl) := hD
      refine W.widen (k := 2) (n := 107) (Nat.le_of_ble_eq_true rfl) (Nat.le_of_ble_eq_true rfl) ?_
      refine lv_goto (tgt := 161) hx hb d_M_digits_157 (by decide) ?_
      exact ret (some p_10) (at2_4, tkf2_143, ((p_10, .inr (6, [.int 5, .int 0, .int 0, .int 0, .ref q_11, .null, .null])) :: ((q_11, .inl (G.2.1 0, nn, .inl cf_12)) :: pl))) (Nat.le_of_ble_eq_true rfl) (Nat.le_of_ble_eq_true rfl) (Nat.le_of_ble_eq_true rfl) (Nat.le_of_ble_eq_true rfl) d_M_digits_161 ⟨(Or.inr ⟨_, _, nn, _, rfl, rfl, (by assumption), (by first | omega | (dsimp only; omega)), (by first | omega | (dsimp only; omega)), (by first | omega | (dsimp only; omega))⟩), (by first | assumption | trivial | omega | (dsimp only; omega)), hj1_143⟩ (hP.part (cx := [(mm, .inr (5, [.ref tp, .int sz, .int at2_4, .ref tk, .ref tp, .ref ou, .int tm, .int om, al, pt, .ref pg, .int wr])), (tp, .inl (G.2.1 0, 1000, .inl tpf)), (tk, .inl (G.2.1 0, 101, .inl tkf2_143)), (p_10, .inr (6, [.int 5, .int 0, .int 0, .int 0, .ref q_11, .null, .null])), (q_11, .inl (G.2.1 0, nn, .inl cf_12))]) [1, 0, 2, 3, 4] rfl) (hD.part (cx := [(mm, .inr (5, [.ref tp, .int sz, .int at2_4, .ref tk, .ref tp, .ref ou, .int tm, .int om, al, pt, .ref pg, .int wr])), (tp, .inl (G.2.1 0, 1000, .inl tpf)), (tk, .inl (G.2.1 0, 101, .inl tkf2_143)), (p_10, .inr (6, [.int 5, .int 0, .int 0, .int 0, .ref q_11, .null, .null])), (q_11, .inl (G.2.1 0, nn, .inl cf_12))]) [1, 0, 2, 3, 4] (by decide) rfl) hS
  have J_12 : ∀ (fu : Nat) (x1_12 : Int32) (at2_12 : Int32) (tkf2_12 : Nat → Int32) (hj0_12 : at0.toInt ≤ at2_12.toInt ∧ at2_12.toInt ≤ sz.toInt) (hj1_12 : sb_Fit tkf2_12) (hk0_12 : at0.toInt + 1 + x1_12.toInt ≤ at2_12.toInt) (hk1_12 : 0 ≤ x1_12.toInt ∧ x1_12.toInt ≤ 100), (sz.toInt - at2_12.toInt).toNat < fu → ∀ (H : Heap) (locs : List Loc), va_P G.1 vwCl ([(mm, .inr (5, [.ref tp, .int sz, .int at2_12, .ref tk, .ref tp, .ref ou, .int tm, .int om, al, pt, .ref pg, .int wr])), (tp, .inl (G.2.1 0, 1000, .inl tpf)), (tk, .inl (G.2.1 0, 101, .inl tkf2_12))] ++ pl) H → va_D A ([(mm, .inr (5, [.ref tp, .int sz, .int at2_12, .ref tk, .ref tp, .ref ou, .int tm, .int om, al, pt, .ref pg, .int wr])), (tp, .inl (G.2.1 0, 1000, .inl tpf)), (tk, .inl (G.2.1 0, 101, .inl tkf2_12))] ++ pl) → va_S A s.heap H locs → ∀ ls : Array Slot, lv_has ls 2 [(1, .int x1_12), (0, .ref mm)] → W p l e rm_M_digits s m args below meth c H locs 0 0 Q (F0 m 12 ls []) := by
    intro fu
    induction fu with
    | zero =>
      intro x1_12 at2_12 tkf2_12 hj0_12 hj1_12 hk0_12 hk1_12 hm
      exact absurd hm (Nat.not_lt_zero _)
    | succ fu ih_12 =>
      intro x1_12 at2_12 tkf2_12 hj0_12 hj1_12 hk0_12 hk1_12 hm_12 H locs hP hD hS ls hl
      refine lv_aload_n hx hb d_M_digits_12 rfl (lv_at hl 1 rfl) ?_
      refine va_get (D := G.1) (ci := 5) (v := .int at2_12) (C := R_M) (T := F_M) (N := 12) hx hb hw i_M hown hE.1 hP 0 rfl rfl 2 (by decide) (hw _ m_455) (fun _ h9 => h9) rfl d_M_digits_13 ?_
      refine lv_aload_n hx hb d_M_digits_16 rfl (lv_at hl 1 rfl) ?_
      refine va_get (D := G.1) (ci := 5) (v := .int sz) (C := R_M) (T := F_M) (N := 12) hx hb hw i_M hown hE.1 hP 0 rfl rfl 1 (by decide) (hw _ m_454) (fun _ h9 => h9) rfl d_M_digits_17 ?_
      refine lv_icmp_ge (tgt := 143) hx hb d_M_digits_20 (by decide) (fun c_15 => ?_) (fun c_15 => ?_)
      · have tc_15 := z_le.mp c_15
        exact J_143 x1_12 at2_12 tkf2_12 hj0_12 hj1_12 hk0_12 hk1_12 _ _ (hP.part [0, 1, 2] rfl) (hD.part [0, 1, 2] (by decide) rfl) hS _ (lv_sub hl [0, 1] rfl)
      · have tc_15 := z_nle c_15
        refine lv_aload_n hx hb d_M_digits_23 rfl (lv_at hl 1 rfl) ?_
        refine va_get (D := G.1) (ci := 5) (v := .ref tp) (C := R_M) (T := F_M) (N := 12) hx hb hw i_M hown hE.1 hP 0 rfl rfl 0 (by decide) (hw _ m_453) (fun _ h9 => h9) rfl d_M_digits_24 ?_
        refine lv_aload_n hx hb d_M_digits_27 rfl (lv_at hl 1 rfl) ?_
        refine va_get (D := G.1) (ci := 5) (v := .int at2_12) (C := R_M) (T := F_M) (N := 12) hx hb hw i_M hown hE.1 hP 0 rfl rfl 2 (by decide) (hw _ m_455) (fun _ h9 => h9) rfl d_M_digits_28 ?_
        refine va_bald hx hb hE.1 hP 1 0 rfl rfl (i := at2_12) (z_in (by omega) (by omega)) d_M_digits_31 ?_
        refine lv_topi (fun y_16 ey_16 => ?_)
        refine lv_bipush (v := 62) hx hb d_M_digits_32 (by decide) ?_
        refine lv_icmp_eq (tgt := 143) hx hb d_M_digits_34 (by decide) (fun c_17 => ?_) (fun c_17 => ?_)
        · have tl_62 : (62 : Int32).toInt = 62 := by decide
          have tc_17 := congrArg Int32.toInt c_17
          exact J_143 x1_12 at2_12 tkf2_12 hj0_12 hj1_12 hk0_12 hk1_12 _ _ (hP.part [0, 1, 2] rfl) (hD.part [0, 1, 2] (by decide) rfl) hS _ (lv_sub hl [0, 1] rfl)
        · have tl_62 : (62 : Int32).toInt = 62 := by decide
          have tc_17 := z_ne c_17
          refine lv_aload_n hx hb d_M_digits_37 rfl (lv_at hl 1 rfl) ?_
          refine va_get (D := G.1) (ci := 5) (v := .int at2_12) (C := R_M) (T := F_M) (N := 12) hx hb hw i_M hown hE.1 hP 0 rfl rfl 2 (by decide) (hw _ m_455) (fun _ h9 => h9) rfl d_M_digits_38 ?_
          refine lv_iconst (v := 1) hx hb d_M_digits_41 (by decide) ?_
          refine lv_iadd hx hb d_M_digits_42 ?_
          refine lv_topi (fun y_18 ey_18 => ?_)
          have tl_1 : (1 : Int32).toInt = 1 := by decide
          have ty_18 := z_addE ey_18
          refine lv_aload_n hx hb d_M_digits_43 rfl (lv_at hl 1 rfl) ?_
          refine va_get (D := G.1) (ci := 5) (v := .int sz) (C := R_M) (T := F_M) (N := 12) hx hb hw i_M hown hE.1 hP 0 rfl rfl 1 (by decide) (hw _ m_454) (fun _ h9 => h9) rfl d_M_digits_44 ?_
          refine lv_icmp_ge (tgt := 88) hx hb d_M_digits_47 (by decide) (fun c_19 => ?_) (fun c_19 => ?_)
          · have tc_19 := z_le.mp c_19
            refine lv_null hx hb d_M_digits_88 ?_
            exact ret none (at2_12, tkf2_12, pl) (Nat.le_of_ble_eq_true rfl) (Nat.le_of_ble_eq_true rfl) (Nat.le_of_ble_eq_true rfl) (Nat.le_of_ble_eq_true rfl) d_M_digits_89 ⟨Or.inl ⟨rfl, rfl⟩, hj0_12, hj1_12⟩ (hP.part (cx := [(mm, .inr (5, [.ref tp, .int sz, .int at2_12, .ref tk, .ref tp, .ref ou, .int tm, .int om, al, pt, .ref pg, .int wr])), (tp, .inl (G.2.1 0, 1000, .inl tpf)), (tk, .inl (G.2.1 0, 101, .inl tkf2_12))]) [0, 1, 2] rfl) (hD.part (cx := [(mm, .inr (5, [.ref tp, .int sz, .int at2_12, .ref tk, .ref tp, .ref ou, .int tm, .int om, al, pt, .ref pg, .int wr])), (tp, .inl (G.2.1 0, 1000, .inl tpf)), (tk, .inl (G.2.1 0, 101, .inl tkf2_12))]) [0, 1, 2] (by decide) rfl) hS
          · have tc_19 := z_nle c_19
            refine lv_aload_n hx hb d_M_digits_50 rfl (lv_at hl 1 rfl) ?_
            refine va_get (D := G.1) (ci := 5) (v := .ref tp) (C := R_M) (T := F_M) (N := 12) hx hb hw i_M hown hE.1 hP 0 rfl rfl 0 (by decide) (hw _ m_453) (fun _ h9 => h9) rfl d_M_digits_51 ?_
            refine lv_aload_n hx hb d_M_digits_54 rfl (lv_at hl 1 rfl) ?_
            refine va_get (D := G.1) (ci := 5) (v := .int at2_12) (C := R_M) (T := F_M) (N := 12) hx hb hw i_M hown hE.1 hP 0 rfl rfl 2 (by decide) (hw _ m_455) (fun _ h9 => h9) rfl d_M_digits_55 ?_
            refine va_bald hx hb hE.1 hP 1 0 rfl rfl (i := at2_12) (z_in (by omega) (by omega)) d_M_digits_58 ?_
            refine lv_topi (fun y_20 ey_20 => ?_)
            refine gq_i (X := [(mm, .inr (5, [.ref tp, .int sz, .int at2_12, .ref tk, .ref tp, .ref ou, .int tm, .int om, al, pt, .ref pg, .int wr])), (tp, .inl (G.2.1 0, 1000, .inl tpf)), (tk, .inl (G.2.1 0, 101, .inl tkf2_12))]) (wr := [(mm, .inr (5, [.ref tp, .int sz, .int at2_12, .ref tk, .ref tp, .ref ou, .int tm, .int om, al, pt, .ref pg, .int wr])), (tp, .inl (G.2.1 0, 1000, .inl tpf)), (tk, .inl (G.2.1 0, 101, .inl tkf2_12))]) (gh_S (wc := []) (As := [.int y_20]) (rest := []) ⟨hx, hb, hml, hown, hw⟩ (c_M_hexOf l G y_20 H.size) (va_cwS 1 hw (good_S m_633 m_634 m_4 m_635) rfl rfl rfl hy_M_hexOf.2 ⟨Nat.le_of_ble_eq_true rfl, Nat.le_of_ble_eq_true rfl⟩) (gP.here (wc := []) hE hP hD hS hA [] rfl (by decide)) rfl hl rfl (Nat.le_of_ble_eq_true rfl) d_M_digits_59 ⟨Nat.le_of_ble_eq_true rfl, Nat.le_of_ble_eq_true rfl⟩) hP hD hS hA [] [0, 1, 2] rfl rfl rfl (by decide) (by decide) (fun r_21 u_22 H locs hw_23 hP hD hS => ?_)
            have hP : va_P G.1 vwCl ([(mm, .inr (5, [.ref tp, .int sz, .int at2_12, .ref tk, .ref tp, .ref ou, .int tm, .int om, al, pt, .ref pg, .int wr])), (tp, .inl (G.2.1 0, 1000, .inl tpf)), (tk, .inl (G.2.1 0, 101, .inl tkf2_12))] ++ pl) H := hP
            have hD : va_D A ([(mm, .inr (5, [.ref tp, .int sz, .int at2_12, .ref tk, .ref tp, .ref ou, .int tm, .int om, al, pt, .ref pg, .int wr])), (tp, .inl (G.2.1 0, 1000, .inl tpf)), (tk, .inl (G.2.1 0, 101, .inl tkf2_12))] ++ pl) := hD
            refine lv_if_lt (tgt := 88) hx hb d_M_digits_62 (by decide) (fun c_24 => ?_) (fun c_24 => ?_)
            · have tl_0 : (0 : Int32).toInt = 0 := by decide
              have tc_24 := z_lt.mp c_24
              refine lv_null hx hb d_M_digits_88 ?_
              exact ret none (at2_12, tkf2_12, pl) (Nat.le_of_ble_eq_true rfl) (Nat.le_of_ble_eq_true rfl) (Nat.le_of_ble_eq_true rfl) (Nat.le_of_ble_eq_true rfl) d_M_digits_89 ⟨Or.inl ⟨rfl, rfl⟩, hj0_12, hj1_12⟩ (hP.part (cx := [(mm, .inr (5, [.ref tp, .int sz, .int at2_12, .ref tk, .ref tp, .ref ou, .int tm, .int om, al, pt, .ref pg, .int wr])), (tp, .inl (G.2.1 0, 1000, .inl tpf)), (tk, .inl (G.2.1 0, 101, .inl tkf2_12))]) [0, 1, 2] rfl) (hD.part (cx := [(mm, .inr (5, [.ref tp, .int sz, .int at2_12, .ref tk, .ref tp, .ref ou, .int tm, .int om, al, pt, .ref pg, .int wr])), (tp, .inl (G.2.1 0, 1000, .inl tpf)), (tk, .inl (G.2.1 0, 101, .inl tkf2_12))]) [0, 1, 2] (by decide) rfl) hS
            · have tl_0 : (0 : Int32).toInt = 0 := by decide
              have tc_24 := z_nlt c_24
              refine lv_aload_n hx hb d_M_digits_65 rfl (lv_at hl 1 rfl) ?_
              refine va_get (D := G.1) (ci := 5) (v := .ref tp) (C := R_M) (T := F_M) (N := 12) hx hb hw i_M hown hE.1 hP 0 rfl rfl 0 (by decide) (hw _ m_453) (fun _ h9 => h9) rfl d_M_digits_66 ?_
              refine lv_aload_n hx hb d_M_digits_69 rfl (lv_at hl 1 rfl) ?_
              refine va_get (D := G.1) (ci := 5) (v := .int at2_12) (C := R_M) (T := F_M) (N := 12) hx hb hw i_M hown hE.1 hP 0 rfl rfl 2 (by decide) (hw _ m_455) (fun _ h9 => h9) rfl d_M_digits_70 ?_
              refine lv_iconst (v := 1) hx hb d_M_digits_73 (by decide) ?_
              refine lv_iadd hx hb d_M_digits_74 ?_
              refine lv_topi (fun y_25 ey_25 => ?_)
              have ty_25 := z_addE ey_25
              refine va_bald hx hb hE.1 hP 1 0 rfl rfl (i := y_25) (z_in (by omega) (by omega)) d_M_digits_75 ?_
              refine lv_topi (fun y_26 ey_26 => ?_)
              refine gq_i (X := [(mm, .inr (5, [.ref tp, .int sz, .int at2_12, .ref tk, .ref tp, .ref ou, .int tm, .int om, al, pt, .ref pg, .int wr])), (tp, .inl (G.2.1 0, 1000, .inl tpf)), (tk, .inl (G.2.1 0, 101, .inl tkf2_12))]) (wr := [(mm, .inr (5, [.ref tp, .int sz, .int at2_12, .ref tk, .ref tp, .ref ou, .int tm, .int om, al, pt, .ref pg, .int wr])), (tp, .inl (G.2.1 0, 1000, .inl tpf)), (tk, .inl (G.2.1 0, 101, .inl tkf2_12))]) (gh_S (wc := []) (As := [.int y_26]) (rest := []) ⟨hx, hb, hml, hown, hw⟩ (c_M_hexOf l G y_26 H.size) (va_cwS 1 hw (good_S m_633 m_634 m_4 m_635) rfl rfl rfl hy_M_hexOf.2 ⟨Nat.le_of_ble_eq_true rfl, Nat.le_of_ble_eq_true rfl⟩) (gP.here (wc := []) hE hP hD hS hA [] rfl (by decide)) rfl hl rfl (Nat.le_of_ble_eq_true rfl) d_M_digits_76 ⟨Nat.le_of_ble_eq_true rfl, Nat.le_of_ble_eq_true rfl⟩) hP hD hS hA [] [0, 1, 2] rfl rfl rfl (by decide) (by decide) (fun r_27 u_28 H locs hw_29 hP hD hS => ?_)
              have hP : va_P G.1 vwCl ([(mm, .inr (5, [.ref tp, .int sz, .int at2_12, .ref tk, .ref tp, .ref ou, .int tm, .int om, al, pt, .ref pg, .int wr])), (tp, .inl (G.2.1 0, 1000, .inl tpf)), (tk, .inl (G.2.1 0, 101, .inl tkf2_12))] ++ pl) H := hP
              have hD : va_D A ([(mm, .inr (5, [.ref tp, .int sz, .int at2_12, .ref tk, .ref tp, .ref ou, .int tm, .int om, al, pt, .ref pg, .int wr])), (tp, .inl (G.2.1 0, 1000, .inl tpf)), (tk, .inl (G.2.1 0, 101, .inl tkf2_12))] ++ pl) := hD
              refine lv_if_lt (tgt := 88) hx hb d_M_digits_79 (by decide) (fun c_30 => ?_) (fun c_30 => ?_)
              · have tc_30 := z_lt.mp c_30
                refine lv_null hx hb d_M_digits_88 ?_
                exact ret none (at2_12, tkf2_12, pl) (Nat.le_of_ble_eq_true rfl) (Nat.le_of_ble_eq_true rfl) (Nat.le_of_ble_eq_true rfl) (Nat.le_of_ble_eq_true rfl) d_M_digits_89 ⟨Or.inl ⟨rfl, rfl⟩, hj0_12, hj1_12⟩ (hP.part (cx := [(mm, .inr (5, [.ref tp, .int sz, .int at2_12, .ref tk, .ref tp, .ref ou, .int tm, .int om, al, pt, .ref pg, .int wr])), (tp, .inl (G.2.1 0, 1000, .inl tpf)), (tk, .inl (G.2.1 0, 101, .inl tkf2_12))]) [0, 1, 2] rfl) (hD.part (cx := [(mm, .inr (5, [.ref tp, .int sz, .int at2_12, .ref tk, .ref tp, .ref ou, .int tm, .int om, al, pt, .ref pg, .int wr])), (tp, .inl (G.2.1 0, 1000, .inl tpf)), (tk, .inl (G.2.1 0, 101, .inl tkf2_12))]) [0, 1, 2] (by decide) rfl) hS
              · have tc_30 := z_nlt c_30
                refine lv_iload_n hx hb d_M_digits_82 rfl (lv_at hl 0 rfl) ?_
                refine lv_bipush (v := 100) hx hb d_M_digits_83 (by decide) ?_
                refine lv_icmp_ne (tgt := 90) hx hb d_M_digits_85 (by decide) (fun c_31 => ?_) (fun c_31 => ?_)
                · have tl_100 : (100 : Int32).toInt = 100 := by decide
                  have tc_31 := z_ne c_31
                  refine lv_aload_n hx hb d_M_digits_90 rfl (lv_at hl 1 rfl) ?_
                  refine va_get (D := G.1) (ci := 5) (v := .ref tk) (C := R_M) (T := F_M) (N := 12) hx hb hw i_M hown hE.1 hP 0 rfl rfl 3 (by decide) (hw _ m_456) (fun _ h9 => h9) rfl d_M_digits_91 ?_
                  refine lv_iload_n hx hb d_M_digits_94 rfl (lv_at hl 0 rfl) ?_
                  refine lv_bipush (v := 16) hx hb d_M_digits_95 (by decide) ?_
                  refine lv_aload_n hx hb d_M_digits_97 rfl (lv_at hl 1 rfl) ?_
                  refine va_get (D := G.1) (ci := 5) (v := .ref tp) (C := R_M) (T := F_M) (N := 12) hx hb hw i_M hown hE.1 hP 0 rfl rfl 0 (by decide) (hw _ m_453) (fun _ h9 => h9) rfl d_M_digits_98 ?_
                  refine lv_aload_n hx hb d_M_digits_101 rfl (lv_at hl 1 rfl) ?_
                  refine va_get (D := G.1) (ci := 5) (v := .int at2_12) (C := R_M) (T := F_M) (N := 12) hx hb hw i_M hown hE.1 hP 0 rfl rfl 2 (by decide) (hw _ m_455) (fun _ h9 => h9) rfl d_M_digits_102 ?_
                  refine va_bald hx hb hE.1 hP 1 0 rfl rfl (i := at2_12) (z_in (by omega) (by omega)) d_M_digits_105 ?_
                  refine lv_topi (fun y_32 ey_32 => ?_)
                  refine gq_i (X := [(mm, .inr (5, [.ref tp, .int sz, .int at2_12, .ref tk, .ref tp, .ref ou, .int tm, .int om, al, pt, .ref pg, .int wr])), (tp, .inl (G.2.1 0, 1000, .inl tpf)), (tk, .inl (G.2.1 0, 101, .inl tkf2_12))]) (wr := [(mm, .inr (5, [.ref tp, .int sz, .int at2_12, .ref tk, .ref tp, .ref ou, .int tm, .int om, al, pt, .ref pg, .int wr])), (tp, .inl (G.2.1 0, 1000, .inl tpf)), (tk, .inl (G.2.1 0, 101, .inl tkf2_12))]) (gh_S (wc := []) (As := [.int y_32]) (rest := [.int 16, .int x1_12, .ref tk]) ⟨hx, hb, hml, hown, hw⟩ (c_M_hexOf l G y_32 H.size) (va_cwS 1 hw (good_S m_633 m_634 m_4 m_635) rfl rfl rfl hy_M_hexOf.2 ⟨Nat.le_of_ble_eq_true rfl, Nat.le_of_ble_eq_true rfl⟩) (gP.here (wc := []) hE hP hD hS hA [] rfl (by decide)) rfl hl rfl (Nat.le_of_ble_eq_true rfl) d_M_digits_106 ⟨Nat.le_of_ble_eq_true rfl, Nat.le_of_ble_eq_true rfl⟩) hP hD hS hA [] [0, 1, 2] rfl rfl rfl (by decide) (by decide) (fun r_33 u_34 H locs hw_35 hP hD hS => ?_)
                  have hP : va_P G.1 vwCl ([(mm, .inr (5, [.ref tp, .int sz, .int at2_12, .ref tk, .ref tp, .ref ou, .int tm, .int om, al, pt, .ref pg, .int wr])), (tp, .inl (G.2.1 0, 1000, .inl tpf)), (tk, .inl (G.2.1 0, 101, .inl tkf2_12))] ++ pl) H := hP
                  have hD : va_D A ([(mm, .inr (5, [.ref tp, .int sz, .int at2_12, .ref tk, .ref tp, .ref ou, .int tm, .int om, al, pt, .ref pg, .int wr])), (tp, .inl (G.2.1 0, 1000, .inl tpf)), (tk, .inl (G.2.1 0, 101, .inl tkf2_12))] ++ pl) := hD
                  refine lv_imul hx hb d_M_digits_109 ?_
                  refine lv_topi (fun y_36 ey_36 => ?_)
                  have tl_16 : (16 : Int32).toInt = 16 := by decide
                  have ty_36 := z_mulL (k := 16) (by decide) ey_36
                  refine lv_aload_n hx hb d_M_digits_110 rfl (lv_at hl 1 rfl) ?_
                  refine va_get (D := G.1) (ci := 5) (v := .ref tp) (C := R_M) (T := F_M) (N := 12) hx hb hw i_M hown hE.1 hP 0 rfl rfl 0 (by decide) (hw _ m_453) (fun _ h9 => h9) rfl d_M_digits_111 ?_
                  refine lv_aload_n hx hb d_M_digits_114 rfl (lv_at hl 1 rfl) ?_
                  refine va_get (D := G.1) (ci := 5) (v := .int at2_12) (C := R_M) (T := F_M) (N := 12) hx hb hw i_M hown hE.1 hP 0 rfl rfl 2 (by decide) (hw _ m_455) (fun _ h9 => h9) rfl d_M_digits_115 ?_
                  refine lv_iconst (v := 1) hx hb d_M_digits_118 (by decide) ?_
                  refine lv_iadd hx hb d_M_digits_119 ?_
                  refine lv_topi (fun y_37 ey_37 => ?_)
                  have ty_37 := z_addE ey_37
                  refine va_bald hx hb hE.1 hP 1 0 rfl rfl (i := y_37) (z_in (by omega) (by omega)) d_M_digits_120 ?_
                  refine lv_topi (fun y_38 ey_38 => ?_)
                  refine gq_i (X := [(mm, .inr (5, [.ref tp, .int sz, .int at2_12, .ref tk, .ref tp, .ref ou, .int tm, .int om, al, pt, .ref pg, .int wr])), (tp, .inl (G.2.1 0, 1000, .inl tpf)), (tk, .inl (G.2.1 0, 101, .inl tkf2_12))]) (wr := [(mm, .inr (5, [.ref tp, .int sz, .int at2_12, .ref tk, .ref tp, .ref ou, .int tm, .int om, al, pt, .ref pg, .int wr])), (tp, .inl (G.2.1 0, 1000, .inl tpf)), (tk, .inl (G.2.1 0, 101, .inl tkf2_12))]) (gh_S (wc := []) (As := [.int y_38]) (rest := [.int y_36, .int x1_12, .ref tk]) ⟨hx, hb, hml, hown, hw⟩ (c_M_hexOf l G y_38 H.size) (va_cwS 1 hw (good_S m_633 m_634 m_4 m_635) rfl rfl rfl hy_M_hexOf.2 ⟨Nat.le_of_ble_eq_true rfl, Nat.le_of_ble_eq_true rfl⟩) (gP.here (wc := []) hE hP hD hS hA [] rfl (by decide)) rfl hl rfl (Nat.le_of_ble_eq_true rfl) d_M_digits_121 ⟨Nat.le_of_ble_eq_true rfl, Nat.le_of_ble_eq_true rfl⟩) hP hD hS hA [] [0, 1, 2] rfl rfl rfl (by decide) (by decide) (fun r_39 u_40 H locs hw_41 hP hD hS => ?_)
                  have hP : va_P G.1 vwCl ([(mm, .inr (5, [.ref tp, .int sz, .int at2_12, .ref tk, .ref tp, .ref ou, .int tm, .int om, al, pt, .ref pg, .int wr])), (tp, .inl (G.2.1 0, 1000, .inl tpf)), (tk, .inl (G.2.1 0, 101, .inl tkf2_12))] ++ pl) H := hP
                  have hD : va_D A ([(mm, .inr (5, [.ref tp, .int sz, .int at2_12, .ref tk, .ref tp, .ref ou, .int tm, .int om, al, pt, .ref pg, .int wr])), (tp, .inl (G.2.1 0, 1000, .inl tpf)), (tk, .inl (G.2.1 0, 101, .inl tkf2_12))] ++ pl) := hD
                  refine lv_iadd hx hb d_M_digits_124 ?_
                  refine lv_topi (fun y_42 ey_42 => ?_)
                  have ty_42 := z_addE ey_42
                  refine lv_i2b hx hb d_M_digits_125 rfl ?_
                  refine lv_topi (fun y_43 ey_43 => ?_)
                  refine va_bast hx hb hE.1 hP hD hS 2 0 rfl rfl (i := x1_12) (z_in (by omega) (by omega)) d_M_digits_126 (fun H locs hP hD hS => ?_)
                  obtain ⟨f_44, ef_44⟩ : ∃ y : Nat → Int32, y = upd tkf2_12 x1_12.toNatClampNeg (vp_nar .byte y_43) := ⟨_, rfl⟩
                  rw [← ef_44] at hP hD
                  have hP : va_P G.1 vwCl ([(mm, .inr (5, [.ref tp, .int sz, .int at2_12, .ref tk, .ref tp, .ref ou, .int tm, .int om, al, pt, .ref pg, .int wr])), (tp, .inl (G.2.1 0, 1000, .inl tpf)), (tk, .inl (G.2.1 0, 101, .inl f_44))] ++ pl) H := hP
                  have hD : va_D A ([(mm, .inr (5, [.ref tp, .int sz, .int at2_12, .ref tk, .ref tp, .ref ou, .int tm, .int om, al, pt, .ref pg, .int wr])), (tp, .inl (G.2.1 0, 1000, .inl tpf)), (tk, .inl (G.2.1 0, 101, .inl f_44))] ++ pl) := hD
                  have hff_44 : sb_Fit f_44 := by rw [ef_44]; exact fit_upd hj1_12
                  obtain ⟨y_45, ey_45⟩ : ∃ y : Int32, y = x1_12 + 1 := ⟨_, rfl⟩
                  have ty_45 := z_addE ey_45
                  refine lv_iinc (v := y_45) (lv' := [(1, .int y_45), (0, .ref mm)]) hx hb d_M_digits_127 hl (k := 0) rfl (by rw [ey_45]; rfl) (by decide) rfl (fun ls hl => ?_)
                  refine lv_aload_n hx hb d_M_digits_130 rfl (lv_at hl 1 rfl) ?_
                  refine lv_dup hx hb d_M_digits_131 rfl ?_
                  refine va_get (D := G.1) (ci := 5) (v := .int at2_12) (C := R_M) (T := F_M) (N := 12) hx hb hw i_M hown hE.1 hP 0 rfl rfl 2 (by decide) (hw _ m_455) (fun _ h9 => h9) rfl d_M_digits_132 ?_
                  refine lv_iconst (v := 2) hx hb d_M_digits_135 (by decide) ?_
                  refine lv_iadd hx hb d_M_digits_136 ?_
                  refine lv_topi (fun y_46 ey_46 => ?_)
                  have tl_2 : (2 : Int32).toInt = 2 := by decide
                  have ty_46 := z_addE ey_46
                  refine va_put (D := G.1) (ci := 5) (v := .int y_46) (ty := .int) (C := R_M) (T := F_M) (N := 12) hx hb hw i_M t_M t_M_ok n_M hown hE.1 hP hD hS 0 rfl rfl 2 (by decide) (hw _ m_455) (fun _ h9 => h9) rfl (by decide +kernel) rfl rfl (Nat.le_of_ble_eq_true rfl) d_M_digits_137 (fun H locs hP hD hS => ?_)
                  have hP : va_P G.1 vwCl ([(mm, .inr (5, [.ref tp, .int sz, .int y_46, .ref tk, .ref tp, .ref ou, .int tm, .int om, al, pt, .ref pg, .int wr])), (tp, .inl (G.2.1 0, 1000, .inl tpf)), (tk, .inl (G.2.1 0, 101, .inl f_44))] ++ pl) H := hP
                  have hD : va_D A ([(mm, .inr (5, [.ref tp, .int sz, .int y_46, .ref tk, .ref tp, .ref ou, .int tm, .int om, al, pt, .ref pg, .int wr])), (tp, .inl (G.2.1 0, 1000, .inl tpf)), (tk, .inl (G.2.1 0, 101, .inl f_44))] ++ pl) := hD
                  refine lv_goto (tgt := 12) hx hb d_M_digits_140 (by decide) ?_
                  exact ih_12 y_45 y_46 f_44 (by first | assumption | trivial | omega | (dsimp only; omega)) hff_44 (by first | assumption | trivial | omega | (dsimp only; omega)) (by first | assumption | trivial | omega | (dsimp only; omega)) (by omega) _ _ (hP.part [0, 1, 2] rfl) (hD.part [0, 1, 2] (by decide) rfl) hS _ (lv_sub hl [0, 1] rfl)
                · have tl_100 : (100 : Int32).toInt = 100 := by decide
                  have tc_31 := congrArg Int32.toInt c_31
                  refine lv_null hx hb d_M_digits_88 ?_
                  exact ret none (at2_12, tkf2_12, pl) (Nat.le_of_ble_eq_true rfl) (Nat.le_of_ble_eq_true rfl) (Nat.le_of_ble_eq_true rfl) (Nat.le_of_ble_eq_true rfl) d_M_digits_89 ⟨Or.inl ⟨rfl, rfl⟩, hj0_12, hj1_12⟩ (hP.part (cx := [(mm, .inr (5, [.ref tp, .int sz, .int at2_12, .ref tk, .ref tp, .ref ou, .int tm, .int om, al, pt, .ref pg, .int wr])), (tp, .inl (G.2.1 0, 1000, .inl tpf)), (tk, .inl (G.2.1 0, 101, .inl tkf2_12))]) [0, 1, 2] rfl) (hD.part (cx := [(mm, .inr (5, [.ref tp, .int sz, .int at2_12, .ref tk, .ref tp, .ref ou, .int tm, .int om, al, pt, .ref pg, .int wr])), (tp, .inl (G.2.1 0, 1000, .inl tpf)), (tk, .inl (G.2.1 0, 101, .inl tkf2_12))]) [0, 1, 2] (by decide) rfl) hS
  refine lv_aload_n hx hb d_M_digits_0 rfl (lv_at hl 0 rfl) ?_
  refine lv_dup hx hb d_M_digits_1 rfl ?_
  refine va_get (D := G.1) (ci := 5) (v := .int at0) (C := R_M) (T := F_M) (N := 12) hx hb hw i_M hown hE.1 hP 0 rfl rfl 2 (by decide) (hw _ m_455) (fun _ h9 => h9) rfl d_M_digits_2 ?_
  refine lv_iconst (v := 1) hx hb d_M_digits_5 (by decide) ?_
  refine lv_iadd hx hb d_M_digits_6 ?_
  refine lv_topi (fun y_47 ey_47 => ?_)
  have tl_1 : (1 : Int32).toInt = 1 := by decide
  have ty_47 := z_addE ey_47
  refine va_put (D := G.1) (ci := 5) (v := .int y_47) (ty := .int) (C := R_M) (T := F_M) (N := 12) hx hb hw i_M t_M t_M_ok n_M hown hE.1 hP hD hS 0 rfl rfl 2 (by decide) (hw _ m_455) (fun _ h9 => h9) rfl (by decide +kernel) rfl rfl (Nat.le_of_ble_eq_true rfl) d_M_digits_7 (fun H locs hP hD hS => ?_)
  have hP : va_P G.1 vwCl ([(mm, .inr (5, [.ref tp, .int sz, .int y_47, .ref tk, .ref tp, .ref ou, .int tm, .int om, al, pt, .ref pg, .int wr])), (tp, .inl (G.2.1 0, 1000, .inl tpf)), (tk, .inl (G.2.1 0, 101, .inl tkf))] ++ pl) H := hP
  have hD : va_D A ([(mm, .inr (5, [.ref tp, .int sz, .int y_47, .ref tk, .ref tp, .ref ou, .int tm, .int om, al, pt, .ref pg, .int wr])), (tp, .inl (G.2.1 0, 1000, .inl tpf)), (tk, .inl (G.2.1 0, 101, .inl tkf))] ++ pl) := hD
  refine lv_iconst (v := 0) hx hb d_M_digits_10 (by decide) ?_
  refine lv_istore_n (lv' := [(1, .int 0), (0, .ref mm)]) hx hb d_M_digits_11 rfl hl (by decide) rfl (fun ls hl => ?_)
  have tl_0 : (0 : Int32).toInt = 0 := by decide
  exact J_12 _ 0 y_47 tkf (by first | assumption | trivial | omega | (dsimp only; omega)) htf (by first | assumption | trivial | omega | (dsimp only; omega)) (by first | assumption | trivial | omega | (dsimp only; omega)) (Nat.lt_succ_self _) _ _ (hP.part [0, 1, 2] rfl) (hD.part [0, 1, 2] (by decide) rfl) hS _ (lv_sub hl [0, 1] rfl)
