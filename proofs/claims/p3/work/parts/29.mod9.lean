/-! finished Parts, seen by kind -/
theorem sm_mono {f : Nat → Nat} {k m : Nat} (h : k ≤ m) : sm f k ≤ sm f m := by
  induction m with
  | zero => have : k = 0 := by omega
            rw [this]; exact Nat.le_refl _
  | succ m ih =>
    by_cases q : k = m + 1
    · rw [q]; exact Nat.le_refl _
    · exact Nat.le_trans (ih (by omega)) (Nat.le_add_right _ _)
theorem sm_s {f : Nat → Nat} {k : Nat} : sm f (k + 1) = sm f k + f k := rfl
theorem sm_in {f : Nat → Nat} {k m : Nat} (h : k < m) : sm f k + f k ≤ sm f m := by
  rw [← sm_s]
  exact sm_mono h
theorem GP.deep {G : GG} {pl : va_W} : ∀ {d w a : Nat}, GP G pl d w a → GP G pl (d + 1) w a := by
  intro d
  induction d with
  | zero => intro w a h; exact h.elim
  | succ d ih =>
    intro w a h
    obtain ⟨kd, x, y, m, b, it, nm, ws, nl, h1, h2, h3, h4, h5, h6⟩ := h
    refine ⟨kd, x, y, m, b, it, nm, ws, nl, h1, h2, h3, h4, fun q hq => ?_, h6⟩
    obtain ⟨n, g, g1, g2, g3, g4⟩ := h5 q hq
    refine ⟨n, g, g1, g2, g3, fun j hj => ?_⟩
    obtain ⟨c, c1, c2⟩ := g4 j hj
    exact ⟨c, c1, ih c2⟩
/-- what all or point is: nothing, or a good Part -/
def MP (G : GG) (pl : va_W) (o : Option Nat) : Prop := ∀ p, o = some p → ∃ w, w ≤ 2000 ∧ GP G pl 9 w p
theorem mp_none {G : GG} {pl : va_W} : MP G pl none := fun _ h => by cases h
theorem MP.mono {G : GG} {pl pl' : va_W} {o : Option Nat} (h : MP G pl o) (hs : ∀ z ∈ pl, z ∈ pl') : MP G pl' o := fun p hp => by
  obtain ⟨w, h1, h2⟩ := h p hp
  exact ⟨w, h1, h2.mono hs⟩
theorem mp_ob {G : GG} {pl : va_W} {a2 sz : Int32} {o : Option Nat} (h : ObR G 8 pl 0 a2 o) (h2 : a2.toInt ≤ sz.toInt ∧ sz.toInt ≤ 1000) : MP G pl o := fun p hp => by
  obtain ⟨w, h1, h3, -⟩ := h p hp
  rw [z_0] at h3
  exact ⟨w, by omega, h1⟩
theorem MP.cell {G : GG} {pl : va_W} {p : Nat} (h : MP G pl (some p)) : ∃ (kd : Int32) (v1 v2 v3 v4 v5 v6 : Value), (p, .inr (6, [.int kd, v1, v2, v3, v4, v5, v6])) ∈ pl := by
  obtain ⟨w, -, kd, x, y, m, b, it, nm, ws, nl, h1, -⟩ := h p rfl
  exact ⟨kd, _, _, _, _, _, _, h1⟩
def PvL (pl : va_W) (p : Nat) : Prop := ∃ (kd x y : Int32) (it : Value), (p, .inr (6, [.int kd, .int x, .int y, .int 0, .null, it, .null])) ∈ pl ∧ kd.toInt ≠ 4 ∧ kd.toInt ≠ 5
def PvB (G : GG) (pl : va_W) (p : Nat) : Prop := ∃ (kd x y : Int32) (it : Value) (q n : Nat) (f : Nat → Int32), (p, .inr (6, [.int kd, .int x, .int y, .int 0, .ref q, it, .null])) ∈ pl ∧ cellB G q n f ∈ pl ∧ sb_Fit f ∧ n ≤ 100
def PvA (G : GG) (pl : va_W) (p : Nat) : Prop := ∃ (x y : Int32) (m q n : Nat) (g : Nat → Option Nat), (p, .inr (6, [.int 6, .int x, .int y, .int (nI m), .null, .ref q, .null])) ∈ pl ∧ cellI G q n g ∈ pl ∧ (m ≤ 60 ∧ m ≤ n ∧ n ≤ 64) ∧ ∀ j, j < m → ∃ c, g j = some c ∧ MP G pl (some c)
def PvD (G : GG) (pl : va_W) (p : Nat) : Prop := ∃ (x y : Int32) (m q n : Nat) (g : Nat → Option Nat) (qn nn : Nat) (gn : Nat → Option Nat), (p, .inr (6, [.int 7, .int x, .int y, .int (nI m), .null, .ref q, .ref qn])) ∈ pl ∧ cellI G q n g ∈ pl ∧ cellN G qn nn gn ∈ pl ∧ (m ≤ 60 ∧ m ≤ n ∧ n ≤ 64 ∧ m ≤ nn ∧ nn ≤ 64) ∧ (∀ j, j < m → ∃ c, g j = some c ∧ MP G pl (some c)) ∧ ∀ j, j < m → ∃ c nb f, gn j = some c ∧ cellB G c nb f ∈ pl ∧ sb_Fit f ∧ nb ≤ 100
set_option maxHeartbeats 1000000 in
theorem MP.view {G : GG} {pl : va_W} {p : Nat} (h : MP G pl (some p)) : PvL pl p ∨ PvB G pl p ∨ PvA G pl p ∨ PvD G pl p := by
  obtain ⟨w, hw, kd, x, y, m, b, it, nm, ws, nl, h1, h2, h3, h4, h5, h6⟩ := h p rfl
  rcases h3 with ⟨hk, rfl, rfl, rfl, -⟩ | ⟨rfl, rfl, rfl, rfl, -⟩ | ⟨rfl, rfl, hb, rfl, hl, -⟩ | ⟨rfl, rfl, hb, rfl, hl, -⟩ | ⟨rfl, rfl, rfl, rfl, -⟩ | ⟨rfl, rfl, rfl, hi, hs⟩ | ⟨rfl, rfl, hn, hi, hl, hs⟩
  · refine Or.inl ⟨kd, x, y, va_rf it, h1, ?_⟩
    rcases hk with rfl | rfl | rfl <;> exact ⟨by decide, by decide⟩
  · exact Or.inl ⟨3, x, y, va_rf it, h1, by decide, by decide⟩
  · obtain ⟨q, rfl⟩ := Option.ne_none_iff_exists'.mp hb
    obtain ⟨f, g1, g2⟩ := h4 q rfl
    exact Or.inr (Or.inl ⟨4, x, y, va_rf it, q, nl 0, f, h1, g1, g2, hl⟩)
  · obtain ⟨q, rfl⟩ := Option.ne_none_iff_exists'.mp hb
    obtain ⟨f, g1, g2⟩ := h4 q rfl
    exact Or.inr (Or.inl ⟨5, x, y, va_rf it, q, nl 0, f, h1, g1, g2, hl⟩)
  · exact Or.inl ⟨8, x, y, va_rf it, h1, by decide, by decide⟩
  · obtain ⟨q, rfl⟩ := Option.ne_none_iff_exists'.mp hi
    obtain ⟨n, g, g1, g2, g3, g4⟩ := h5 q rfl
    refine Or.inr (Or.inr (Or.inl ⟨x, y, m, q, n, g, h1, g1, ⟨h2, g2, g3⟩, fun j hj => ?_⟩))
    obtain ⟨c, c1, c2⟩ := g4 j hj
    refine ⟨c, c1, fun p' hp => ?_⟩
    cases hp
    have := sm_in (f := fun j => ws j + 1) hj
    try dsimp only at this
    exact ⟨ws j, by omega, c2.deep⟩
  · obtain ⟨q, rfl⟩ := Option.ne_none_iff_exists'.mp hi
    obtain ⟨r, rfl⟩ := Option.ne_none_iff_exists'.mp hn
    obtain ⟨n, g, g1, g2, g3, g4⟩ := h5 q rfl
    obtain ⟨nn, gn, k1, k2, k3, k4⟩ := h6 r rfl
    refine Or.inr (Or.inr (Or.inr ⟨x, y, m, q, n, g, r, nn, gn, h1, g1, k1, ⟨h2, g2, g3, k2, k3⟩, fun j hj => ?_, fun j hj => ?_⟩))
    · obtain ⟨c, c1, c2⟩ := g4 j hj
      refine ⟨c, c1, fun p' hp => ?_⟩
      cases hp
      have := sm_in (f := fun j => ws j + nl j + 3) hj
      try dsimp only at this
      exact ⟨ws j, by omega, c2.deep⟩
    · obtain ⟨c, c1, f, c2, c3⟩ := k4 j hj
      exact ⟨c, nl j, f, c1, c2, c3, by have := hl j hj; omega⟩
/-- for parts(): has it items or not -/
theorem GP.view2 {G : GG} {pl : va_W} {d w p : Nat} (h : GP G pl (d + 1) w p) : (∃ (v0 v1 v2 v4 v5 v6 : Value), (p, .inr (6, [v0, v1, v2, .int 0, v4, v5, v6])) ∈ pl) ∨ ∃ (v0 v1 v2 : Value) (m : Nat) (v4 : Value) (q : Nat) (v6 : Value) (n : Nat) (g : Nat → Option Nat), (p, .inr (6, [v0, v1, v2, .int (nI m), v4, .ref q, v6])) ∈ pl ∧ cellI G q n g ∈ pl ∧ (m ≤ 60 ∧ m ≤ n ∧ n ≤ 64) ∧ ∀ j, j < m → ∃ c w, g j = some c ∧ GP G pl d w c := by
  obtain ⟨kd, x, y, m, b, it, nm, ws, nl, h1, h2, h3, h4, h5, h6⟩ := h
  by_cases hm : m = 0
  · subst hm
    exact Or.inl ⟨_, _, _, _, _, _, h1⟩
  · have hi : it ≠ none := by
      rcases h3 with h | h | h | h | h | h | h
      · exact absurd h.2.1 hm
      · exact absurd h.2.1 hm
      · exact absurd h.2.1 hm
      · exact absurd h.2.1 hm
      · exact absurd h.2.1 hm
      · exact h.2.2.2.1
      · exact h.2.2.2.1
    obtain ⟨q, rfl⟩ := Option.ne_none_iff_exists'.mp hi
    obtain ⟨n, g, g1, g2, g3, g4⟩ := h5 q rfl
    refine Or.inr ⟨_, _, _, m, _, q, _, n, g, h1, g1, ⟨h2, g2, g3⟩, fun j hj => ?_⟩
    obtain ⟨c, c1, c2⟩ := g4 j hj
    exact ⟨c, ws j, c1, c2⟩
def rm_M_say_b : Room := { frames := 1, cells := 0, slots := 0, locals := 21 }
set_option maxHeartbeats 4000000 in
set_option maxRecDepth 100000 in
theorem c_M_say_b (l : Launch) (G : GG) (mm : Nat) (tp : Nat) (tk : Nat) (ou : Nat) (pg : Nat) (sz : Int32) (at0 : Int32) (tm : Int32) (om : Int32) (wr : Int32) (al : Value) (pt : Value) (tx : Value) (pgf : Nat → Int32) (ba : Nat) (bn : Nat) (bf : Nat → Int32) (pl : va_W) (hpf : sb_Fit pgf) (hba : cellB G ba bn bf ∈ pl) (hw0 : 0 ≤ wr.toInt ∧ wr.toInt + bn ≤ 4000) : MV l y_M_say_b b_M_say_b 6 rm_M_say_b G [.ref mm, .ref ba] ([(mm, .inr (5, [tx, .int sz, .int at0, .ref tk, .ref tp, .ref ou, .int tm, .int om, al, pt, .ref pg, .int wr])), (pg, .inl (G.2.1 0, 4000, .inl pgf))] ++ pl) (fun (u : Int32 × (Nat → Int32)) => (sb_Fit u.2) ∧ (u.1.toInt = wr.toInt + bn)) (fun (u : Int32 × (Nat → Int32)) => ([(mm, .inr (5, [tx, .int sz, .int at0, .ref tk, .ref tp, .ref ou, .int tm, .int om, al, pt, .ref pg, .int u.1])), (pg, .inl (G.2.1 0, 4000, .inl u.2))] ++ pl)) 0 0 := by
  refine MV.of (cc := b_M_say_b) (maxL := 6) (C := R_M) (by decide +kernel) rfl (Nat.le_of_ble_eq_true rfl) ?_
  intro p e s m args below meth c A Q H ls hx hb hml hown hw hE hA hP hD hS hin ret hl
  have hl : lv_has ls 6 [(0, .ref mm), (1, .ref ba)] := hl
  have hbn9 := z_n (n := bn) (by omega)
  have J_8 : ∀ (fu : Nat) (x4_8 : Int32) (x3_8 : Int32) (wr2_8 : Int32) (pgf2_8 : Nat → Int32) (hj0_8 : sb_Fit pgf2_8) (hk0_8 : 0 ≤ x4_8.toInt ∧ x4_8.toInt ≤ bn) (hk1_8 : wr2_8.toInt = wr.toInt + x4_8.toInt) (hk2_8 : x3_8.toInt = bn), ((bn : Int) - x4_8.toInt).toNat < fu → ∀ (H : Heap) (locs : List Loc), va_P G.1 vwCl ([(mm, .inr (5, [tx, .int sz, .int at0, .ref tk, .ref tp, .ref ou, .int tm, .int om, al, pt, .ref pg, .int wr2_8])), (pg, .inl (G.2.1 0, 4000, .inl pgf2_8))] ++ pl) H → va_D A ([(mm, .inr (5, [tx, .int sz, .int at0, .ref tk, .ref tp, .ref ou, .int tm, .int om, al, pt, .ref pg, .int wr2_8])), (pg, .inl (G.2.1 0, 4000, .inl pgf2_8))] ++ pl) → va_S A s.heap H locs → ∀ ls : Array Slot, lv_has ls 6 [(4, .int x4_8), (3, .int x3_8), (2, .ref ba), (0, .ref mm), (1, .ref ba)] → W p l e rm_M_say_b s m args below meth c H locs 0 0 Q (F0 m 8 ls []) := by
    intro fu
    induction fu with
    | zero =>
      intro x4_8 x3_8 wr2_8 pgf2_8 hj0_8 hk0_8 hk1_8 hk2_8 hm
      exact absurd hm (Nat.not_lt_zero _)
    | succ fu ih_8 =>
      intro x4_8 x3_8 wr2_8 pgf2_8 hj0_8 hk0_8 hk1_8 hk2_8 hm_8 H locs hP hD hS ls hl
      refine lv_iload hx hb d_M_say_b_8 (lv_at hl 0 rfl) ?_
      refine lv_iload_n hx hb d_M_say_b_10 rfl (lv_at hl 1 rfl) ?_
      refine lv_icmp_ge (tgt := 32) hx hb d_M_say_b_11 (by decide) (fun c_1 => ?_) (fun c_1 => ?_)
      · have tc_1 := z_le.mp c_1
        exact ret (wr2_8, pgf2_8) (Nat.le_of_ble_eq_true rfl) (Nat.le_of_ble_eq_true rfl) d_M_say_b_32 ⟨hj0_8, (by first | assumption | trivial | omega | (dsimp only; omega))⟩ (hP.part (cx := [(mm, .inr (5, [tx, .int sz, .int at0, .ref tk, .ref tp, .ref ou, .int tm, .int om, al, pt, .ref pg, .int wr2_8])), (pg, .inl (G.2.1 0, 4000, .inl pgf2_8))]) [0, 1] rfl) (hD.part (cx := [(mm, .inr (5, [tx, .int sz, .int at0, .ref tk, .ref tp, .ref ou, .int tm, .int om, al, pt, .ref pg, .int wr2_8])), (pg, .inl (G.2.1 0, 4000, .inl pgf2_8))]) [0, 1] (by decide) rfl) hS
      · have tc_1 := z_nle c_1
        refine lv_aload_n hx hb d_M_say_b_14 rfl (lv_at hl 2 rfl) ?_
        refine lv_iload hx hb d_M_say_b_15 (lv_at hl 0 rfl) ?_
        obtain ⟨k_2, hk_2⟩ := List.getElem?_of_mem (show ((ba, .inl (G.2.1 0, bn, .inl bf)) : Nat × va_E) ∈ ([(mm, .inr (5, [tx, .int sz, .int at0, .ref tk, .ref tp, .ref ou, .int tm, .int om, al, pt, .ref pg, .int wr2_8])), (pg, .inl (G.2.1 0, 4000, .inl pgf2_8))] ++ pl) from List.mem_append_right _ hba)
        refine va_bald hx hb hE.1 hP k_2 0 hk_2 rfl (i := x4_8) (z_in (by omega) (by omega)) d_M_say_b_17 ?_
        refine lv_topi (fun y_3 ey_3 => ?_)
        refine lv_istore (lv' := [(5, .int y_3), (4, .int x4_8), (3, .int x3_8), (2, .ref ba), (0, .ref mm), (1, .ref ba)]) hx hb d_M_say_b_18 hl (by decide) rfl (fun ls hl => ?_)
        refine lv_aload_n hx hb d_M_say_b_20 rfl (lv_at hl 4 rfl) ?_
        refine lv_iload hx hb d_M_say_b_21 (lv_at hl 0 rfl) ?_
        refine gq_v (X := [(mm, .inr (5, [tx, .int sz, .int at0, .ref tk, .ref tp, .ref ou, .int tm, .int om, al, pt, .ref pg, .int wr2_8])), (pg, .inl (G.2.1 0, 4000, .inl pgf2_8))]) (wr := []) (gh_V (wc := [(mm, .inr (5, [tx, .int sz, .int at0, .ref tk, .ref tp, .ref ou, .int tm, .int om, al, pt, .ref pg, .int wr2_8])), (pg, .inl (G.2.1 0, 4000, .inl pgf2_8))]) (As := [.int y_3]) (rest := []) ⟨hx, hb, hml, hown, hw⟩ (c_M_say_i l G mm tp tk ou pg sz at0 tm om wr2_8 al pt tx pgf2_8 y_3 hj0_8 (by first | assumption | trivial | omega | (dsimp only; omega)) H.size) (cwV 1 hw (good_V m_723 m_725 ms_52 m_4 m_726) rfl rfl rfl hy_M_say_i ⟨Nat.le_of_ble_eq_true rfl, Nat.le_of_ble_eq_true rfl⟩) (gP.here (wc := [(mm, .inr (5, [tx, .int sz, .int at0, .ref tk, .ref tp, .ref ou, .int tm, .int om, al, pt, .ref pg, .int wr2_8])), (pg, .inl (G.2.1 0, 4000, .inl pgf2_8))]) hE hP hD hS hA [0, 1] rfl (by decide)) (va_recv hE.1 hP (ci := 5) (q0 := 0) rfl rfl) rfl hl rfl (Nat.le_of_ble_eq_true rfl) d_M_say_b_23 ⟨Nat.le_of_ble_eq_true rfl, Nat.le_of_ble_eq_true rfl⟩) hP hD hS hA [0, 1] [] rfl rfl rfl (by decide) (by decide) (fun u_5 H locs hw_6 hP hD hS => ?_)
        obtain ⟨wr2_7, pgf2_8⟩ := u_5
        try dsimp only at hw_6
        obtain ⟨h_9, h_10⟩ := hw_6
        have hP : va_P G.1 vwCl ([(mm, .inr (5, [tx, .int sz, .int at0, .ref tk, .ref tp, .ref ou, .int tm, .int om, al, pt, .ref pg, .int wr2_7])), (pg, .inl (G.2.1 0, 4000, .inl pgf2_8))] ++ pl) H := hP
        have hD : va_D A ([(mm, .inr (5, [tx, .int sz, .int at0, .ref tk, .ref tp, .ref ou, .int tm, .int om, al, pt, .ref pg, .int wr2_7])), (pg, .inl (G.2.1 0, 4000, .inl pgf2_8))] ++ pl) := hD
        obtain ⟨y_11, ey_11⟩ : ∃ y : Int32, y = x4_8 + 1 := ⟨_, rfl⟩
        have tl_1 : (1 : Int32).toInt = 1 := by decide
        have ty_11 := z_addE ey_11
        refine lv_iinc (v := y_11) (lv' := [(4, .int y_11), (5, .int y_3), (3, .int x3_8), (2, .ref ba), (0, .ref mm), (1, .ref ba)]) hx hb d_M_say_b_26 hl (k := 1) rfl (by rw [ey_11]; rfl) (by decide) rfl (fun ls hl => ?_)
        refine lv_goto (tgt := 8) hx hb d_M_say_b_29 (by decide) ?_
        exact ih_8 y_11 x3_8 wr2_7 pgf2_8 h_9 (by first | assumption | trivial | omega | (dsimp only; omega)) (by first | assumption | trivial | omega | (dsimp only; omega)) hk2_8 (by omega) _ _ (hP.part [0, 1] rfl) (hD.part [0, 1] (by decide) rfl) hS _ (lv_sub hl [0, 2, 3, 4, 5] rfl)
  refine lv_aload_n hx hb d_M_say_b_0 rfl (lv_at hl 1 rfl) ?_
  refine lv_astore_n (lv' := [(2, .ref ba), (0, .ref mm), (1, .ref ba)]) hx hb d_M_say_b_1 rfl hl (by decide) rfl (fun ls hl => ?_)
  refine lv_aload_n hx hb d_M_say_b_2 rfl (lv_at hl 0 rfl) ?_
  obtain ⟨k_12, hk_12⟩ := List.getElem?_of_mem (show ((ba, .inl (G.2.1 0, bn, .inl bf)) : Nat × va_E) ∈ ([(mm, .inr (5, [tx, .int sz, .int at0, .ref tk, .ref tp, .ref ou, .int tm, .int om, al, pt, .ref pg, .int wr])), (pg, .inl (G.2.1 0, 4000, .inl pgf))] ++ pl) from List.mem_append_right _ hba)
  refine va_alen (v := nI bn) hx hb hE.1 hP k_12 0 hk_12 rfl rfl d_M_say_b_3 ?_
  refine lv_istore_n (lv' := [(3, .int (nI bn)), (2, .ref ba), (0, .ref mm), (1, .ref ba)]) hx hb d_M_say_b_4 rfl hl (by decide) rfl (fun ls hl => ?_)
  refine lv_iconst (v := 0) hx hb d_M_say_b_5 (by decide) ?_
  refine lv_istore (lv' := [(4, .int 0), (3, .int (nI bn)), (2, .ref ba), (0, .ref mm), (1, .ref ba)]) hx hb d_M_say_b_6 hl (by decide) rfl (fun ls hl => ?_)
  have tl_0 : (0 : Int32).toInt = 0 := by decide
  exact J_8 _ 0 (nI bn) wr pgf hpf (by first | assumption | trivial | omega | (dsimp only; omega)) (by first | assumption | trivial | omega | (dsimp only; omega)) (by first | assumption | trivial | omega | (dsimp only; omega)) (Nat.lt_succ_self _) _ _ (hP.part [0, 1] rfl) (hD.part [0, 1] (by decide) rfl) hS _ (lv_sub hl [0, 1, 2, 3, 4] rfl)
def rm_M_tell : Room := { frames := 1, cells := 0, slots := 0, locals := 28 }
set_option maxHeartbeats 4000000 in
set_option maxRecDepth 100000 in
theorem c_M_tell (l : Launch) (G : GG) (mm : Nat) (tp : Nat) (tk : Nat) (ou : Nat) (pg : Nat) (sz : Int32) (at0 : Int32) (tm : Int32) (om : Int32) (wr : Int32) (al : Value) (pt : Value) (tx : Value) (ouf : Nat → Int32) (ba : Nat) (bn : Nat) (bf : Nat → Int32) (pl : va_W) (hof : sb_Fit ouf) (hbf : sb_Fit bf) (hba : cellB G ba bn bf ∈ pl) (hbn : bn ≤ 100) : MI l y_M_tell b_M_tell 2 .int rm_M_tell G [.ref mm, .ref ba] ([(mm, .inr (5, [tx, .int sz, .int at0, .ref tk, .ref tp, .ref ou, .int tm, .int om, al, pt, .ref pg, .int wr])), (ou, .inl (G.2.1 0, 4000, .inl ouf))] ++ pl) (fun (v : Int32) (u : Int32 × (Nat → Int32)) => (sb_Fit u.2) ∧ (u.1.toInt = bn)) (fun (u : Int32 × (Nat → Int32)) => ([(mm, .inr (5, [tx, .int sz, .int at0, .ref tk, .ref tp, .ref ou, .int tm, .int u.1, al, pt, .ref pg, .int wr])), (ou, .inl (G.2.1 0, 4000, .inl u.2))] ++ pl)) 0 0 := by
  refine MI.of (cc := b_M_tell) (maxL := 2) (ty := .int) (C := R_M) (by decide +kernel) rfl (Nat.le_of_ble_eq_true rfl) ?_
  intro p e s m args below meth c A Q H ls hx hb hml hown hw hE hA hP hD hS ret hl
  have hl : lv_has ls 2 [(0, .ref mm), (1, .ref ba)] := hl
  have hbn9 := z_n (n := bn) (by omega)
  refine lv_aload_n hx hb d_M_tell_0 rfl (lv_at hl 1 rfl) ?_
  refine lv_iconst (v := 0) hx hb d_M_tell_1 (by decide) ?_
  refine lv_aload_n hx hb d_M_tell_2 rfl (lv_at hl 0 rfl) ?_
  refine va_get (D := G.1) (ci := 5) (v := .ref ou) (C := R_M) (T := F_M) (N := 12) hx hb hw i_M hown hE.1 hP 0 rfl rfl 5 (by decide) (hw _ m_458) (fun _ h9 => h9) rfl d_M_tell_3 ?_
  refine lv_iconst (v := 0) hx hb d_M_tell_6 (by decide) ?_
  refine lv_aload_n hx hb d_M_tell_7 rfl (lv_at hl 1 rfl) ?_
  obtain ⟨k_1, hk_1⟩ := List.getElem?_of_mem (show ((ba, .inl (G.2.1 0, bn, .inl bf)) : Nat × va_E) ∈ ([(mm, .inr (5, [tx, .int sz, .int at0, .ref tk, .ref tp, .ref ou, .int tm, .int om, al, pt, .ref pg, .int wr])), (ou, .inl (G.2.1 0, 4000, .inl ouf))] ++ pl) from List.mem_append_right _ hba)
  refine va_alen (v := nI bn) hx hb hE.1 hP k_1 0 hk_1 rfl rfl d_M_tell_8 ?_
  obtain ⟨k_2, hk_2⟩ := List.getElem?_of_mem (show ((ba, .inl (G.2.1 0, bn, .inl bf)) : Nat × va_E) ∈ ([(mm, .inr (5, [tx, .int sz, .int at0, .ref tk, .ref tp, .ref ou, .int tm, .int om, al, pt, .ref pg, .int wr])), (ou, .inl (G.2.1 0, 4000, .inl ouf))] ++ pl) from List.mem_append_right _ hba)
  have tl_0 : (0 : Int32).toInt = 0 := by decide
  refine va_copyi (ty := .byte) hx hb (by rw [hml]; exact hl.1.symm) hown (hw _ m_705) (hw _ m_acn) (hw _ m_580) (hw _ m_13) hE.1 hP hD hS k_2 1 0 0 hk_2 rfl rfl rfl rfl (z_nn (by omega)) (z_nn (by omega)) (z_nn (by omega)) (cp_le (by omega) (by omega) (by omega)) (cp_le (by omega) (by omega) (by omega)) (fun i _ => hbf _) (Nat.le_of_ble_eq_true rfl) (Nat.le_of_ble_eq_true rfl) d_M_tell_9 (fun H locs hP hD hS => ?_)
  obtain ⟨f_3, ef_3⟩ : ∃ y : Nat → Int32, y = va_cpy bf ouf (0 : Int32).toNatClampNeg (0 : Int32).toNatClampNeg (nI bn).toNatClampNeg := ⟨_, rfl⟩
  rw [← ef_3] at hP hD
  have hP : va_P G.1 vwCl ([(mm, .inr (5, [tx, .int sz, .int at0, .ref tk, .ref tp, .ref ou, .int tm, .int om, al, pt, .ref pg, .int wr])), (ou, .inl (G.2.1 0, 4000, .inl f_3))] ++ pl) H := hP
  have hD : va_D A ([(mm, .inr (5, [tx, .int sz, .int at0, .ref tk, .ref tp, .ref ou, .int tm, .int om, al, pt, .ref pg, .int wr])), (ou, .inl (G.2.1 0, 4000, .inl f_3))] ++ pl) := hD
  have hff_3 : sb_Fit f_3 := by rw [ef_3]; exact sb_fitC hbf hof
  refine lv_aload_n hx hb d_M_tell_12 rfl (lv_at hl 0 rfl) ?_
  refine lv_aload_n hx hb d_M_tell_13 rfl (lv_at hl 1 rfl) ?_
  obtain ⟨k_4, hk_4⟩ := List.getElem?_of_mem (show ((ba, .inl (G.2.1 0, bn, .inl bf)) : Nat × va_E) ∈ ([(mm, .inr (5, [tx, .int sz, .int at0, .ref tk, .ref tp, .ref ou, .int tm, .int om, al, pt, .ref pg, .int wr])), (ou, .inl (G.2.1 0, 4000, .inl f_3))] ++ pl) from List.mem_append_right _ hba)
  refine va_alen (v := nI bn) hx hb hE.1 hP k_4 0 hk_4 rfl rfl d_M_tell_14 ?_
  refine va_put (D := G.1) (ci := 5) (v := .int (nI bn)) (ty := .int) (C := R_M) (T := F_M) (N := 12) hx hb hw i_M t_M t_M_ok n_M hown hE.1 hP hD hS 0 rfl rfl 7 (by decide) (hw _ m_460) (fun _ h9 => h9) rfl (by decide +kernel) rfl rfl (Nat.le_of_ble_eq_true rfl) d_M_tell_15 (fun H locs hP hD hS => ?_)
  have hP : va_P G.1 vwCl ([(mm, .inr (5, [tx, .int sz, .int at0, .ref tk, .ref tp, .ref ou, .int tm, .int (nI bn), al, pt, .ref pg, .int wr])), (ou, .inl (G.2.1 0, 4000, .inl f_3))] ++ pl) H := hP
  have hD : va_D A ([(mm, .inr (5, [tx, .int sz, .int at0, .ref tk, .ref tp, .ref ou, .int tm, .int (nI bn), al, pt, .ref pg, .int wr])), (ou, .inl (G.2.1 0, 4000, .inl f_3))] ++ pl) := hD
  refine lv_aload_n hx hb d_M_tell_18 rfl (lv_at hl 1 rfl) ?_
  obtain ⟨k_5, hk_5⟩ := List.getElem?_of_mem (show ((ba, .inl (G.2.1 0, bn, .inl bf)) : Nat × va_E) ∈ ([(mm, .inr (5, [tx, .int sz, .int at0, .ref tk, .ref tp, .ref ou, .int tm, .int (nI bn), al, pt, .ref pg, .int wr])), (ou, .inl (G.2.1 0, 4000, .inl f_3))] ++ pl) from List.mem_append_right _ hba)
  refine va_alen (v := nI bn) hx hb hE.1 hP k_5 0 hk_5 rfl rfl d_M_tell_19 ?_
  exact ret (nI bn) ((nI bn), f_3) (Nat.le_of_ble_eq_true rfl) (Nat.le_of_ble_eq_true rfl) d_M_tell_20 rfl ⟨hff_3, (by first | assumption | trivial | omega | (dsimp only; omega))⟩ (hP.part (cx := [(mm, .inr (5, [tx, .int sz, .int at0, .ref tk, .ref tp, .ref ou, .int tm, .int (nI bn), al, pt, .ref pg, .int wr])), (ou, .inl (G.2.1 0, 4000, .inl f_3))]) [0, 1] rfl) (hD.part (cx := [(mm, .inr (5, [tx, .int sz, .int at0, .ref tk, .ref tp, .ref ou, .int tm, .int (nI bn), al, pt, .ref pg, .int wr])), (ou, .inl (G.2.1 0, 4000, .inl f_3))]) [0, 1] (by decide) rfl) hS
def rm_M_isAt_1 : Room := { frames := 0, cells := 0, slots := 0, locals := 0 }
set_option maxHeartbeats 4000000 in
set_option maxRecDepth 100000 in
theorem c_M_isAt_1 (l : Launch) (G : GG) (mm : Nat) (tp : Nat) (tk : Nat) (ou : Nat) (pg : Nat) (sz : Int32) (at0 : Int32) (tm : Int32) (om : Int32) (wr : Int32) (al : Value) (pt : Value) (tx : Value) (pa : Nat) (kd : Int32) (v1 : Value) (v2 : Value) (v3 : Value) (v4 : Value) (v5 : Value) (v6 : Value) (pl : va_W) (hpa : (pa, .inr (6, [.int kd, v1, v2, v3, v4, v5, v6])) ∈ pl) : MI l y_M_isAt_p b_M_isAt_p 2 .int rm_M_isAt_1 G [.ref mm, .ref pa] ([(mm, .inr (5, [tx, .int sz, .int at0, .ref tk, .ref tp, .ref ou, .int tm, .int om, al, pt, .ref pg, .int wr]))] ++ pl) (fun (v : Int32) (u : Unit) => True) (fun (u : Unit) => ([(mm, .inr (5, [tx, .int sz, .int at0, .ref tk, .ref tp, .ref ou, .int tm, .int om, al, .ref pa, .ref pg, .int wr]))] ++ pl)) 0 0 := by
  refine MI.of (cc := b_M_isAt_p) (maxL := 2) (ty := .int) (C := R_M) (by decide +kernel) rfl (Nat.le_of_ble_eq_true rfl) ?_
  intro p e s m args below meth c A Q H ls hx hb hml hown hw hE hA hP hD hS ret hl
  have hl : lv_has ls 2 [(0, .ref mm), (1, .ref pa)] := hl
  refine lv_aload_n hx hb d_M_isAt_p_0 rfl (lv_at hl 1 rfl) ?_
  refine lv_ifnonnull (tgt := 7) hx hb d_M_isAt_p_1 (by decide) ?_
  refine lv_aload_n hx hb d_M_isAt_p_7 rfl (lv_at hl 0 rfl) ?_
  refine lv_aload_n hx hb d_M_isAt_p_8 rfl (lv_at hl 1 rfl) ?_
  refine va_put (D := G.1) (ci := 5) (v := .ref pa) (ty := (.object "ValueTextsModel$Part")) (C := R_M) (T := F_M) (N := 12) hx hb hw i_M t_M t_M_ok n_M hown hE.1 hP hD hS 0 rfl rfl 9 (by decide) (hw _ m_462) (fun _ h9 => h9) rfl (by decide +kernel) rfl rfl (Nat.le_of_ble_eq_true rfl) d_M_isAt_p_9 (fun H locs hP hD hS => ?_)
  have hP : va_P G.1 vwCl ([(mm, .inr (5, [tx, .int sz, .int at0, .ref tk, .ref tp, .ref ou, .int tm, .int om, al, .ref pa, .ref pg, .int wr]))] ++ pl) H := hP
  have hD : va_D A ([(mm, .inr (5, [tx, .int sz, .int at0, .ref tk, .ref tp, .ref ou, .int tm, .int om, al, .ref pa, .ref pg, .int wr]))] ++ pl) := hD
  refine lv_aload_n hx hb d_M_isAt_p_12 rfl (lv_at hl 1 rfl) ?_
  obtain ⟨k_1, hk_1⟩ := List.getElem?_of_mem (show ((pa, .inr (6, [.int kd, v1, v2, v3, v4, v5, v6])) : Nat × va_E) ∈ ([(mm, .inr (5, [tx, .int sz, .int at0, .ref tk, .ref tp, .ref ou, .int tm, .int om, al, .ref pa, .ref pg, .int wr]))] ++ pl) from List.mem_append_right _ hpa)
  refine va_get (D := G.1) (ci := 6) (v := .int kd) (C := R_Part) (T := F_Part) (N := 7) hx hb hw i_Part hown hE.1 hP k_1 hk_1 rfl 0 (by decide) (hw _ m_542) (fun _ h9 => h9) rfl d_M_isAt_p_13 ?_
  exact ret kd () (Nat.le_of_ble_eq_true rfl) (Nat.le_of_ble_eq_true rfl) d_M_isAt_p_16 rfl trivial (hP.part (cx := [(mm, .inr (5, [tx, .int sz, .int at0, .ref tk, .ref tp, .ref ou, .int tm, .int om, al, .ref pa, .ref pg, .int wr]))]) [0] rfl) (hD.part (cx := [(mm, .inr (5, [tx, .int sz, .int at0, .ref tk, .ref tp, .ref ou, .int tm, .int om, al, .ref pa, .ref pg, .int wr]))]) [0] (by decide) rfl) hS
def rm_M_isAt_0 : Room := { frames := 0, cells := 0, slots := 0, locals := 0 }
set_option maxHeartbeats 4000000 in
set_option maxRecDepth 100000 in
theorem c_M_isAt_0 (l : Launch) (G : GG) (mm : Nat) (tp : Nat) (tk : Nat) (ou : Nat) (pg : Nat) (sz : Int32) (at0 : Int32) (tm : Int32) (om : Int32) (wr : Int32) (al : Value) (pt : Value) (tx : Value) : MI l y_M_isAt_p b_M_isAt_p 2 .int rm_M_isAt_0 G [.ref mm, .null] [(mm, .inr (5, [tx, .int sz, .int at0, .ref tk, .ref tp, .ref ou, .int tm, .int om, al, pt, .ref pg, .int wr]))] (fun (v : Int32) (u : Unit) => True) (fun (u : Unit) => [(mm, .inr (5, [tx, .int sz, .int at0, .ref tk, .ref tp, .ref ou, .int tm, .int om, al, pt, .ref pg, .int wr]))]) 0 0 := by
  refine MI.of (cc := b_M_isAt_p) (maxL := 2) (ty := .int) (C := R_M) (by decide +kernel) rfl (Nat.le_of_ble_eq_true rfl) ?_
  intro p e s m args below meth c A Q H ls hx hb hml hown hw hE hA hP hD hS ret hl
  have hl : lv_has ls 2 [(0, .ref mm), (1, .null)] := hl
  refine lv_aload_nN hx hb d_M_isAt_p_0 rfl (lv_at hl 1 rfl) ?_
  refine lv_ifnonnullN hx hb d_M_isAt_p_1 ?_
  refine lv_bipush (v := (-2)) hx hb d_M_isAt_p_4 (by decide) ?_
  exact ret (-2) () (Nat.le_of_ble_eq_true rfl) (Nat.le_of_ble_eq_true rfl) d_M_isAt_p_6 rfl trivial (hP.sub [0] rfl) (hD.sub [0] (by decide) rfl) hS
def rm_Part_get_0 : Room := { frames := 0, cells := 0, slots := 0, locals := 0 }
set_option maxHeartbeats 4000000 in
set_option maxRecDepth 100000 in
theorem c_Part_get_0 (l : Launch) (G : GG) (pa : Nat) (kd : Int32) (x : Int32) (y : Int32) (mI : Int32) (b0 : Value) (it0 : Value) (ba : Nat) (i : Int32) (n : Int32) (pl : va_W) (hself : (pa, .inr (6, [.int kd, .int x, .int y, .int mI, b0, it0, .null])) ∈ pl) : MO l y_Part_get b_Part_get 5 (.object "ValueTextsModel$Part") rm_Part_get_0 G [.ref pa, .ref ba, .int i, .int n] ([] ++ pl) (fun (v : Option Nat) (u : Unit) => (v = none)) (fun (u : Unit) => ([] ++ pl)) (fun (v : Option Nat) (u : Unit) => 0) (fun (v : Option Nat) (u : Unit) => 0) 0 0 := by
  refine MO.of (cc := b_Part_get) (maxL := 5) (ty := .object "ValueTextsModel$Part") (C := R_Part) (by decide +kernel) rfl (Nat.le_of_ble_eq_true rfl) (Or.inl ⟨_, rfl⟩) ?_
  intro p e s m args below meth c A Q H ls hx hb hml hown hw hE hA hP hD hS ret hl
  have hl : lv_has ls 5 [(0, .ref pa), (1, .ref ba), (2, .int i), (3, .int n)] := hl
  have J_3 : ∀ (fu : Nat), 0 < fu → ∀ (H : Heap) (locs : List Loc), va_P G.1 vwCl ([] ++ pl) H → va_D A ([] ++ pl) → va_S A s.heap H locs → ∀ ls : Array Slot, lv_has ls 5 [(4, .int 0), (0, .ref pa), (1, .ref ba), (2, .int i), (3, .int n)] → W p l e rm_Part_get_0 s m args below meth c H locs 0 0 Q (F0 m 3 ls []) := by
    intro fu
    induction fu with
    | zero =>
      intro hm
      exact absurd hm (Nat.not_lt_zero _)
    | succ fu ih_3 =>
      intro hm_3 H locs hP hD hS ls hl
      refine lv_iload hx hb d_Part_get_3 (lv_at hl 0 rfl) ?_
      refine lv_aload_n hx hb d_Part_get_5 rfl (lv_at hl 1 rfl) ?_
      obtain ⟨k_1, hk_1⟩ := List.getElem?_of_mem (show ((pa, .inr (6, [.int kd, .int x, .int y, .int mI, b0, it0, .null])) : Nat × va_E) ∈ ([] ++ pl) from List.mem_append_right _ hself)
      refine va_get (D := G.1) (ci := 6) (v := .int mI) (C := R_Part) (T := F_Part) (N := 7) hx hb hw i_Part hown hE.1 hP k_1 hk_1 rfl 3 (by decide) (hw _ m_545) (fun _ h9 => h9) rfl d_Part_get_6 ?_
      refine lv_icmp_ge (tgt := 49) hx hb d_Part_get_9 (by decide) (fun c_2 => ?_) (fun c_2 => ?_)
      · have tl_0 : (0 : Int32).toInt = 0 := by decide
        have tc_2 := z_le.mp c_2
        refine lv_null hx hb d_Part_get_49 ?_
        exact ret none () (Nat.le_of_ble_eq_true rfl) (Nat.le_of_ble_eq_true rfl) (Nat.le_of_ble_eq_true rfl) (Nat.le_of_ble_eq_true rfl) d_Part_get_50 rfl (hP.part (cx := []) [] rfl) (hD.part (cx := []) [] (by decide) rfl) hS
      · have tl_0 : (0 : Int32).toInt = 0 := by decide
        have tc_2 := z_nle c_2
        refine lv_aload_n hx hb d_Part_get_12 rfl (lv_at hl 1 rfl) ?_
        obtain ⟨k_3, hk_3⟩ := List.getElem?_of_mem (show ((pa, .inr (6, [.int kd, .int x, .int y, .int mI, b0, it0, .null])) : Nat × va_E) ∈ ([] ++ pl) from List.mem_append_right _ hself)
        refine va_get (D := G.1) (ci := 6) (v := .null) (C := R_Part) (T := F_Part) (N := 7) hx hb hw i_Part hown hE.1 hP k_3 hk_3 rfl 6 (by decide) (hw _ m_550) (fun _ h9 => h9) rfl d_Part_get_13 ?_
        refine lv_ifnullN (tgt := 49) hx hb d_Part_get_16 (by decide) ?_
        refine lv_null hx hb d_Part_get_49 ?_
        exact ret none () (Nat.le_of_ble_eq_true rfl) (Nat.le_of_ble_eq_true rfl) (Nat.le_of_ble_eq_true rfl) (Nat.le_of_ble_eq_true rfl) d_Part_get_50 rfl (hP.part (cx := []) [] rfl) (hD.part (cx := []) [] (by decide) rfl) hS
  refine lv_iconst (v := 0) hx hb d_Part_get_0 (by decide) ?_
  refine lv_istore (lv' := [(4, .int 0), (0, .ref pa), (1, .ref ba), (2, .int i), (3, .int n)]) hx hb d_Part_get_1 hl (by decide) rfl (fun ls hl => ?_)
  exact J_3 _ (Nat.lt_succ_self _) _ _ (hP.part [] rfl) (hD.part [] (by decide) rfl) hS _ (lv_sub hl [0, 1, 2, 3, 4] rfl)
def rm_parts (d : Nat) : Room := { frames := d, cells := 0, slots := 0, locals := 22 * d }
def C_parts (l : Launch) (G : GG) (d : Nat) : Prop := ∀ (pa : Nat) (w9 : Nat) (pl : va_W) (hg : GP G pl d w9 pa), MI l y_Part_parts b_Part_parts 3 .int (rm_parts d) G [.ref pa] ([] ++ pl) (fun (v : Int32) (u : Unit) => True) (fun (u : Unit) => ([] ++ pl)) 0 0
set_option maxHeartbeats 4000000 in
set_option maxRecDepth 100000 in
theorem s_parts0 (l : Launch) (G : GG) (d : Nat) (pa : Nat) (v0 : Value) (v1 : Value) (v2 : Value) (v4 : Value) (v5 : Value) (v6 : Value) (pl : va_W) (hself : (pa, .inr (6, [v0, v1, v2, .int 0, v4, v5, v6])) ∈ pl) : MI l y_Part_parts b_Part_parts 3 .int (rm_parts d) G [.ref pa] ([] ++ pl) (fun (v : Int32) (u : Unit) => True) (fun (u : Unit) => ([] ++ pl)) 0 0 := by
  refine MI.of (cc := b_Part_parts) (maxL := 3) (ty := .int) (C := R_Part) (by decide +kernel) rfl (Nat.le_of_ble_eq_true rfl) ?_
  intro p e s m args below meth c A Q H ls hx hb hml hown hw hE hA hP hD hS ret hl
  have hl : lv_has ls 3 [(0, .ref pa)] := hl
  have J_4 : ∀ (fu : Nat), 0 < fu → ∀ (H : Heap) (locs : List Loc), va_P G.1 vwCl ([] ++ pl) H → va_D A ([] ++ pl) → va_S A s.heap H locs → ∀ ls : Array Slot, lv_has ls 3 [(2, .int 0), (1, .int 1), (0, .ref pa)] → W p l e (rm_parts d) s m args below meth c H locs 0 0 Q (F0 m 4 ls []) := by
    intro fu
    induction fu with
    | zero =>
      intro hm
      exact absurd hm (Nat.not_lt_zero _)
    | succ fu ih_4 =>
      intro hm_4 H locs hP hD hS ls hl
      refine lv_iload_n hx hb d_Part_parts_4 rfl (lv_at hl 0 rfl) ?_
      refine lv_aload_n hx hb d_Part_parts_5 rfl (lv_at hl 2 rfl) ?_
      obtain ⟨k_1, hk_1⟩ := List.getElem?_of_mem (show ((pa, .inr (6, [v0, v1, v2, .int 0, v4, v5, v6])) : Nat × va_E) ∈ ([] ++ pl) from List.mem_append_right _ hself)
      refine va_get (D := G.1) (ci := 6) (v := .int 0) (C := R_Part) (T := F_Part) (N := 7) hx hb hw i_Part hown hE.1 hP k_1 hk_1 rfl 3 (by decide) (hw _ m_545) (fun _ h9 => h9) rfl d_Part_parts_6 ?_
      refine lv_icmp_ge (tgt := 30) hx hb d_Part_parts_9 (by decide) (fun c_2 => ?_) (fun c_2 => ?_)
      · have tl_0 : (0 : Int32).toInt = 0 := by decide
        have tc_2 := z_le.mp c_2
        refine lv_iload_n hx hb d_Part_parts_30 rfl (lv_at hl 1 rfl) ?_
        exact ret 1 () (Nat.le_of_ble_eq_true rfl) (Nat.le_of_ble_eq_true rfl) d_Part_parts_31 rfl trivial (hP.part (cx := []) [] rfl) (hD.part (cx := []) [] (by decide) rfl) hS
      · exact absurd (by decide) c_2
  refine lv_iconst (v := 1) hx hb d_Part_parts_0 (by decide) ?_
  refine lv_istore_n (lv' := [(1, .int 1), (0, .ref pa)]) hx hb d_Part_parts_1 rfl hl (by decide) rfl (fun ls hl => ?_)
  refine lv_iconst (v := 0) hx hb d_Part_parts_2 (by decide) ?_
  refine lv_istore_n (lv' := [(2, .int 0), (1, .int 1), (0, .ref pa)]) hx hb d_Part_parts_3 rfl hl (by decide) rfl (fun ls hl => ?_)
  exact J_4 _ (Nat.lt_succ_self _) _ _ (hP.part [] rfl) (hD.part [] (by decide) rfl) hS _ (lv_sub hl [0, 1, 2] rfl)
set_option maxHeartbeats 4000000 in
set_option maxRecDepth 100000 in
theorem s_parts1 (l : Launch) (G : GG) (d : Nat) (ih : C_parts l G d) (pa : Nat) (v0 : Value) (v1 : Value) (v2 : Value) (m0 : Nat) (v4 : Value) (q0 : Nat) (v6 : Value) (n9 : Nat) (g9 : Nat → Option Nat) (pl : va_W) (hself : (pa, .inr (6, [v0, v1, v2, .int (nI m0), v4, .ref q0, v6])) ∈ pl) (hq0 : cellI G q0 n9 g9 ∈ pl) (hm0 : m0 ≤ 60 ∧ m0 ≤ n9 ∧ n9 ≤ 64) (hI : ∀ j, j < m0 → ∃ c w, g9 j = some c ∧ GP G pl d w c) : MI l y_Part_parts b_Part_parts 3 .int (rm_parts (d + 1)) G [.ref pa] ([] ++ pl) (fun (v : Int32) (u : Unit) => True) (fun (u : Unit) => ([] ++ pl)) 0 0 := by
  refine MI.of (cc := b_Part_parts) (maxL := 3) (ty := .int) (C := R_Part) (by decide +kernel) rfl (Nat.le_of_ble_eq_true rfl) ?_
  intro p e s m args below meth c A Q H ls hx hb hml hown hw hE hA hP hD hS ret hl
  have hl : lv_has ls 3 [(0, .ref pa)] := hl
  have hm9 := z_n (n := m0) (by omega)
  have J_4 : ∀ (fu : Nat) (x2_4 : Int32) (x1_4 : Int32) (hk0_4 : 0 ≤ x2_4.toInt), ((m0 : Int) - x2_4.toInt).toNat < fu → ∀ (H : Heap) (locs : List Loc), va_P G.1 vwCl ([] ++ pl) H → va_D A ([] ++ pl) → va_S A s.heap H locs → ∀ ls : Array Slot, lv_has ls 3 [(2, .int x2_4), (1, .int x1_4), (0, .ref pa)] → W p l e (rm_parts (d + 1)) s m args below meth c H locs 0 0 Q (F0 m 4 ls []) := by
    intro fu
    induction fu with
    | zero =>
      intro x2_4 x1_4 hk0_4 hm
      exact absurd hm (Nat.not_lt_zero _)
    | succ fu ih_4 =>
      intro x2_4 x1_4 hk0_4 hm_4 H locs hP hD hS ls hl
      refine lv_iload_n hx hb d_Part_parts_4 rfl (lv_at hl 0 rfl) ?_
      refine lv_aload_n hx hb d_Part_parts_5 rfl (lv_at hl 2 rfl) ?_
      obtain ⟨k_1, hk_1⟩ := List.getElem?_of_mem (show ((pa, .inr (6, [v0, v1, v2, .int (nI m0), v4, .ref q0, v6])) : Nat × va_E) ∈ ([] ++ pl) from List.mem_append_right _ hself)
      refine va_get (D := G.1) (ci := 6) (v := .int (nI m0)) (C := R_Part) (T := F_Part) (N := 7) hx hb hw i_Part hown hE.1 hP k_1 hk_1 rfl 3 (by decide) (hw _ m_545) (fun _ h9 => h9) rfl d_Part_parts_6 ?_
      refine lv_icmp_ge (tgt := 30) hx hb d_Part_parts_9 (by decide) (fun c_2 => ?_) (fun c_2 => ?_)
      · have tc_2 := z_le.mp c_2
        refine lv_iload_n hx hb d_Part_parts_30 rfl (lv_at hl 1 rfl) ?_
        exact ret x1_4 () (Nat.le_of_ble_eq_true rfl) (Nat.le_of_ble_eq_true rfl) d_Part_parts_31 rfl trivial (hP.part (cx := []) [] rfl) (hD.part (cx := []) [] (by decide) rfl) hS
      · have tc_2 := z_nle c_2
        refine lv_iload_n hx hb d_Part_parts_12 rfl (lv_at hl 1 rfl) ?_
        refine lv_aload_n hx hb d_Part_parts_13 rfl (lv_at hl 2 rfl) ?_
        obtain ⟨k_3, hk_3⟩ := List.getElem?_of_mem (show ((pa, .inr (6, [v0, v1, v2, .int (nI m0), v4, .ref q0, v6])) : Nat × va_E) ∈ ([] ++ pl) from List.mem_append_right _ hself)
        refine va_get (D := G.1) (ci := 6) (v := .ref q0) (C := R_Part) (T := F_Part) (N := 7) hx hb hw i_Part hown hE.1 hP k_3 hk_3 rfl 5 (by decide) (hw _ m_548) (fun _ h9 => h9) rfl d_Part_parts_14 ?_
        refine lv_iload_n hx hb d_Part_parts_17 rfl (lv_at hl 0 rfl) ?_
        obtain ⟨k_4, hk_4⟩ := List.getElem?_of_mem (show ((q0, .inl (G.2.1 2, n9, .inr (.inr (.inr (.inr g9))))) : Nat × va_E) ∈ ([] ++ pl) from List.mem_append_right _ hq0)
        refine va_aldq hx hb hE.1 hP k_4 2 hk_4 rfl (i := x2_4) (z_in (by omega) (by omega)) d_Part_parts_18 ?_
        obtain ⟨c9, w9, hc9, hg9⟩ := hI _ (cl_lt (x := x2_4) (by omega) (by omega))
        obtain ⟨fs9, hf9⟩ := hg9.cell
        rw [hc9]
        obtain ⟨k_5, hk_5⟩ := List.getElem?_of_mem (show ((c9, .inr (6, fs9)) : Nat × va_E) ∈ ([] ++ pl) from List.mem_append_right _ hf9)
        refine gp_i (X := []) (cx := []) (wr := []) (pl := ([] ++ pl)) (rx := fun (_ : Unit) => []) (pl1 := fun (_ : Unit) => ([] ++ pl)) (gh_V (wc := ([] ++ ([] ++ pl))) (As := []) (rest := [.int x1_4]) ⟨hx, hb, hml, hown, hw⟩ (ih c9 w9 ([] ++ pl) hg9 H.size) (cwV 0 hw (good_V m_696 m_693 m_694 m_10 m_695) rfl rfl rfl hy_Part_parts ⟨by show d + 1 ≤ d + 1; omega, by show 8 + (3 + 11) + 22 * d ≤ 22 * (d + 1); omega⟩) (gp_here (X := []) (cx := []) (pl := ([] ++ pl)) hE hP hD hS hA [] rfl (by decide)) (va_recv hE.1 hP (ci := 6) (q0 := k_5) rfl hk_5) rfl hl rfl (Nat.le_of_ble_eq_true rfl) d_Part_parts_19 ⟨Nat.le_of_ble_eq_true rfl, Nat.le_of_ble_eq_true rfl⟩) hP hD hS hA [] [] rfl rfl (by decide) (by decide) (fun r_6 u_7 H locs hw_8 hP hD hS => ?_)
        have hP : va_P G.1 vwCl ([] ++ pl) H := hP
        have hD : va_D A ([] ++ pl) := hD
        refine lv_iadd hx hb d_Part_parts_22 ?_
        refine lv_topi (fun y_9 ey_9 => ?_)
        have ty_9 := z_addE ey_9
        refine lv_istore_n (lv' := [(1, .int y_9), (2, .int x2_4), (0, .ref pa)]) hx hb d_Part_parts_23 rfl hl (by decide) rfl (fun ls hl => ?_)
        obtain ⟨y_10, ey_10⟩ : ∃ y : Int32, y = x2_4 + 1 := ⟨_, rfl⟩
        have tl_1 : (1 : Int32).toInt = 1 := by decide
        have ty_10 := z_addE ey_10
        refine lv_iinc (v := y_10) (lv' := [(2, .int y_10), (1, .int y_9), (0, .ref pa)]) hx hb d_Part_parts_24 hl (k := 1) rfl (by rw [ey_10]; rfl) (by decide) rfl (fun ls hl => ?_)
        refine lv_goto (tgt := 4) hx hb d_Part_parts_27 (by decide) ?_
        exact ih_4 y_10 y_9 (by first | assumption | trivial | omega | (dsimp only; omega)) (by omega) _ _ (hP.part [] rfl) (hD.part [] (by decide) rfl) hS _ (lv_sub hl [0, 1, 2] rfl)
  refine lv_iconst (v := 1) hx hb d_Part_parts_0 (by decide) ?_
  refine lv_istore_n (lv' := [(1, .int 1), (0, .ref pa)]) hx hb d_Part_parts_1 rfl hl (by decide) rfl (fun ls hl => ?_)
  refine lv_iconst (v := 0) hx hb d_Part_parts_2 (by decide) ?_
  refine lv_istore_n (lv' := [(2, .int 0), (1, .int 1), (0, .ref pa)]) hx hb d_Part_parts_3 rfl hl (by decide) rfl (fun ls hl => ?_)
  have tl_0 : (0 : Int32).toInt = 0 := by decide
  have tl_1 : (1 : Int32).toInt = 1 := by decide
  exact J_4 _ 0 1 (by first | assumption | trivial | omega | (dsimp only; omega)) (Nat.lt_succ_self _) _ _ (hP.part [] rfl) (hD.part [] (by decide) rfl) hS _ (lv_sub hl [0, 1, 2] rfl)
theorem rec_parts (l : Launch) (G : GG) : ∀ d, C_parts l G d := by
  intro d
  induction d with
  | zero => intro pa w9 pl hg; exact hg.elim
  | succ d ih =>
    intro pa w9 pl hg
    rcases hg.view2 with ⟨v0, v1, v2, v4, v5, v6, h1⟩ | ⟨v0, v1, v2, m, v4, q, v6, n, g, h1, h2, h3, h4⟩
    · exact s_parts0 l G (d + 1) pa v0 v1 v2 v4 v5 v6 pl h1
    · exact s_parts1 l G d ih pa v0 v1 v2 m v4 q v6 n g pl h1 h2 h3 h4
