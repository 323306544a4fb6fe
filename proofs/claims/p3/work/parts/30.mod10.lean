theorem sm_step {f : Nat → Nat} {x y : Int32} (h : 0 ≤ x.toInt) (e : y.toInt = x.toInt + 1) : sm f y.toNatClampNeg = sm f x.toNatClampNeg + f x.toNatClampNeg := by
  have h1 := cl_nn h
  have h2 := cl_nn (x := y) (by omega)
  have h3 : y.toNatClampNeg = x.toNatClampNeg + 1 := by omega
  rw [h3]; rfl
theorem sm_0 {f : Nat → Nat} : sm f (0 : Int32).toNatClampNeg = 0 := by
  rw [show (0 : Int32).toNatClampNeg = 0 by decide]; rfl
theorem sm_end {f : Nat → Nat} {x : Int32} {m : Nat} (h0 : 0 ≤ x.toInt) (h : x.toInt ≤ m) : sm f x.toNatClampNeg ≤ sm f m := by
  have h1 := cl_nn h0
  exact sm_mono (by omega)
def rm_mw (d : Nat) : Room := { frames := 5 + d, cells := 0, slots := 0, locals := 107 + 25 * d }
def C_mw (l : Launch) (G : GG) (d : Nat) : Prop := ∀ (mm : Nat) (tp : Nat) (tk : Nat) (ou : Nat) (pg : Nat) (sz : Int32) (at0 : Int32) (tm : Int32) (om : Int32) (wr : Int32) (al : Value) (pt : Value) (tx : Value) (pgf : Nat → Int32) (pa : Nat) (w9 : Nat) (pl : va_W) (hpf : sb_Fit pgf) (hw0 : 0 ≤ wr.toInt ∧ wr.toInt + w9 ≤ 4000) (hg : GP G pl d w9 pa), MV l y_M_write_p b_M_write_p 6 (rm_mw d) G [.ref mm, .ref pa] ([(mm, .inr (5, [tx, .int sz, .int at0, .ref tk, .ref tp, .ref ou, .int tm, .int om, al, pt, .ref pg, .int wr])), (pg, .inl (G.2.1 0, 4000, .inl pgf))] ++ pl) (fun (u : Int32 × (Nat → Int32)) => (sb_Fit u.2) ∧ (wr.toInt ≤ u.1.toInt ∧ u.1.toInt ≤ wr.toInt + w9)) (fun (u : Int32 × (Nat → Int32)) => ([(mm, .inr (5, [tx, .int sz, .int at0, .ref tk, .ref tp, .ref ou, .int tm, .int om, al, pt, .ref pg, .int u.1])), (pg, .inl (G.2.1 0, 4000, .inl u.2))] ++ pl)) 0 0
set_option maxHeartbeats 4000000 in
set_option maxRecDepth 100000 in
theorem s_w0 (l : Launch) (G : GG) (d : Nat) (mm : Nat) (tp : Nat) (tk : Nat) (ou : Nat) (pg : Nat) (sz : Int32) (at0 : Int32) (tm : Int32) (om : Int32) (wr : Int32) (al : Value) (pt : Value) (tx : Value) (pgf : Nat → Int32) (pa : Nat) (w9 : Nat) (v1 : Value) (v2 : Value) (v3 : Value) (v4 : Value) (v5 : Value) (v6 : Value) (pl : va_W) (hpf : sb_Fit pgf) (hw0 : 0 ≤ wr.toInt ∧ wr.toInt + w9 ≤ 4000) (hself : (pa, .inr (6, [.int 0, v1, v2, v3, v4, v5, v6])) ∈ pl) (h5 : 5 ≤ w9) : MV l y_M_write_p b_M_write_p 6 (rm_mw d) G [.ref mm, .ref pa] ([(mm, .inr (5, [tx, .int sz, .int at0, .ref tk, .ref tp, .ref ou, .int tm, .int om, al, pt, .ref pg, .int wr])), (pg, .inl (G.2.1 0, 4000, .inl pgf))] ++ pl) (fun (u : Int32 × (Nat → Int32)) => (sb_Fit u.2) ∧ (wr.toInt ≤ u.1.toInt ∧ u.1.toInt ≤ wr.toInt + w9)) (fun (u : Int32 × (Nat → Int32)) => ([(mm, .inr (5, [tx, .int sz, .int at0, .ref tk, .ref tp, .ref ou, .int tm, .int om, al, pt, .ref pg, .int u.1])), (pg, .inl (G.2.1 0, 4000, .inl u.2))] ++ pl)) 0 0 := by
  refine MV.of (cc := b_M_write_p) (maxL := 6) (C := R_M) (by decide +kernel) rfl (Nat.le_of_ble_eq_true rfl) ?_
  intro p e s m args below meth c A Q H ls hx hb hml hown hw hE hA hP hD hS hin ret hl
  have hl : lv_has ls 6 [(0, .ref mm), (1, .ref pa)] := hl
  refine lv_aload_n hx hb d_M_write_p_0 rfl (lv_at hl 1 rfl) ?_
  obtain ⟨k_1, hk_1⟩ := List.getElem?_of_mem (show ((pa, .inr (6, [.int 0, v1, v2, v3, v4, v5, v6])) : Nat × va_E) ∈ ([(mm, .inr (5, [tx, .int sz, .int at0, .ref tk, .ref tp, .ref ou, .int tm, .int om, al, pt, .ref pg, .int wr])), (pg, .inl (G.2.1 0, 4000, .inl pgf))] ++ pl) from List.mem_append_right _ hself)
  refine va_get (D := G.1) (ci := 6) (v := .int 0) (C := R_Part) (T := F_Part) (N := 7) hx hb hw i_Part hown hE.1 hP k_1 hk_1 rfl 0 (by decide) (hw _ m_542) (fun _ h9 => h9) rfl d_M_write_p_1 ?_
  refine lv_tableIn (tgt := 56) hx hb d_M_write_p_4 (by decide) (by decide) rfl (by decide) ?_
  refine lv_aload_n hx hb d_M_write_p_56 rfl (lv_at hl 0 rfl) ?_
  refine va_ldcS (q := (G.2.2.1 9)) hx hb hown (hE.2.1 9 (by decide)).2 d_M_write_p_57 ?_
  have tk_9 : (nI (lenS.getD 9 0)).toInt = 4 := by decide
  refine gq_v (X := [(mm, .inr (5, [tx, .int sz, .int at0, .ref tk, .ref tp, .ref ou, .int tm, .int om, al, pt, .ref pg, .int wr])), (pg, .inl (G.2.1 0, 4000, .inl pgf))]) (wr := []) (gh_V (wc := [(mm, .inr (5, [tx, .int sz, .int at0, .ref tk, .ref tp, .ref ou, .int tm, .int om, al, pt, .ref pg, .int wr])), (pg, .inl (G.2.1 0, 4000, .inl pgf))]) (As := [.ref (G.2.2.1 9)]) (rest := []) ⟨hx, hb, hml, hown, hw⟩ (c_M_say_s l G mm tp tk ou pg sz at0 tm om wr al pt tx pgf 9 hpf (by first | assumption | trivial | omega | (dsimp only; omega)) (by decide) H.size) (cwV 1 hw (good_V m_719 m_721 ms_51 m_4 m_722) rfl rfl rfl hy_M_say_s ⟨Nat.le_trans (Nat.le_of_ble_eq_true rfl) (Nat.le_add_right 5 _), Nat.le_trans (Nat.le_of_ble_eq_true rfl) (Nat.le_add_right 107 _)⟩) (gP.here (wc := [(mm, .inr (5, [tx, .int sz, .int at0, .ref tk, .ref tp, .ref ou, .int tm, .int om, al, pt, .ref pg, .int wr])), (pg, .inl (G.2.1 0, 4000, .inl pgf))]) hE hP hD hS hA [0, 1] rfl (by decide)) (va_recv hE.1 hP (ci := 5) (q0 := 0) rfl rfl) rfl hl rfl (Nat.le_of_ble_eq_true rfl) d_M_write_p_59 ⟨Nat.le_of_ble_eq_true rfl, Nat.le_of_ble_eq_true rfl⟩) hP hD hS hA [0, 1] [] rfl rfl rfl (by decide) (by decide) (fun u_3 H locs hw_4 hP hD hS => ?_)
  obtain ⟨wr2_5, pgf2_6⟩ := u_3
  try dsimp only at hw_4
  obtain ⟨h_7, h_8⟩ := hw_4
  have hP : va_P G.1 vwCl ([(mm, .inr (5, [tx, .int sz, .int at0, .ref tk, .ref tp, .ref ou, .int tm, .int om, al, pt, .ref pg, .int wr2_5])), (pg, .inl (G.2.1 0, 4000, .inl pgf2_6))] ++ pl) H := hP
  have hD : va_D A ([(mm, .inr (5, [tx, .int sz, .int at0, .ref tk, .ref tp, .ref ou, .int tm, .int om, al, pt, .ref pg, .int wr2_5])), (pg, .inl (G.2.1 0, 4000, .inl pgf2_6))] ++ pl) := hD
  exact ret (wr2_5, pgf2_6) (Nat.le_of_ble_eq_true rfl) (Nat.le_of_ble_eq_true rfl) d_M_write_p_62 ⟨h_7, (by first | assumption | trivial | omega | (dsimp only; omega))⟩ (hP.part (cx := [(mm, .inr (5, [tx, .int sz, .int at0, .ref tk, .ref tp, .ref ou, .int tm, .int om, al, pt, .ref pg, .int wr2_5])), (pg, .inl (G.2.1 0, 4000, .inl pgf2_6))]) [0, 1] rfl) (hD.part (cx := [(mm, .inr (5, [tx, .int sz, .int at0, .ref tk, .ref tp, .ref ou, .int tm, .int om, al, pt, .ref pg, .int wr2_5])), (pg, .inl (G.2.1 0, 4000, .inl pgf2_6))]) [0, 1] (by decide) rfl) hS
set_option maxHeartbeats 4000000 in
set_option maxRecDepth 100000 in
theorem s_w1 (l : Launch) (G : GG) (d : Nat) (mm : Nat) (tp : Nat) (tk : Nat) (ou : Nat) (pg : Nat) (sz : Int32) (at0 : Int32) (tm : Int32) (om : Int32) (wr : Int32) (al : Value) (pt : Value) (tx : Value) (pgf : Nat → Int32) (pa : Nat) (w9 : Nat) (v1 : Value) (v2 : Value) (v3 : Value) (v4 : Value) (v5 : Value) (v6 : Value) (pl : va_W) (hpf : sb_Fit pgf) (hw0 : 0 ≤ wr.toInt ∧ wr.toInt + w9 ≤ 4000) (hself : (pa, .inr (6, [.int 1, v1, v2, v3, v4, v5, v6])) ∈ pl) (h5 : 5 ≤ w9) : MV l y_M_write_p b_M_write_p 6 (rm_mw d) G [.ref mm, .ref pa] ([(mm, .inr (5, [tx, .int sz, .int at0, .ref tk, .ref tp, .ref ou, .int tm, .int om, al, pt, .ref pg, .int wr])), (pg, .inl (G.2.1 0, 4000, .inl pgf))] ++ pl) (fun (u : Int32 × (Nat → Int32)) => (sb_Fit u.2) ∧ (wr.toInt ≤ u.1.toInt ∧ u.1.toInt ≤ wr.toInt + w9)) (fun (u : Int32 × (Nat → Int32)) => ([(mm, .inr (5, [tx, .int sz, .int at0, .ref tk, .ref tp, .ref ou, .int tm, .int om, al, pt, .ref pg, .int u.1])), (pg, .inl (G.2.1 0, 4000, .inl u.2))] ++ pl)) 0 0 := by
  refine MV.of (cc := b_M_write_p) (maxL := 6) (C := R_M) (by decide +kernel) rfl (Nat.le_of_ble_eq_true rfl) ?_
  intro p e s m args below meth c A Q H ls hx hb hml hown hw hE hA hP hD hS hin ret hl
  have hl : lv_has ls 6 [(0, .ref mm), (1, .ref pa)] := hl
  refine lv_aload_n hx hb d_M_write_p_0 rfl (lv_at hl 1 rfl) ?_
  obtain ⟨k_1, hk_1⟩ := List.getElem?_of_mem (show ((pa, .inr (6, [.int 1, v1, v2, v3, v4, v5, v6])) : Nat × va_E) ∈ ([(mm, .inr (5, [tx, .int sz, .int at0, .ref tk, .ref tp, .ref ou, .int tm, .int om, al, pt, .ref pg, .int wr])), (pg, .inl (G.2.1 0, 4000, .inl pgf))] ++ pl) from List.mem_append_right _ hself)
  refine va_get (D := G.1) (ci := 6) (v := .int 1) (C := R_Part) (T := F_Part) (N := 7) hx hb hw i_Part hown hE.1 hP k_1 hk_1 rfl 0 (by decide) (hw _ m_542) (fun _ h9 => h9) rfl d_M_write_p_1 ?_
  refine lv_tableIn (tgt := 63) hx hb d_M_write_p_4 (by decide) (by decide) rfl (by decide) ?_
  refine lv_aload_n hx hb d_M_write_p_63 rfl (lv_at hl 0 rfl) ?_
  refine va_ldcS (q := (G.2.2.1 10)) hx hb hown (hE.2.1 10 (by decide)).2 d_M_write_p_64 ?_
  have tk_10 : (nI (lenS.getD 10 0)).toInt = 4 := by decide
  refine gq_v (X := [(mm, .inr (5, [tx, .int sz, .int at0, .ref tk, .ref tp, .ref ou, .int tm, .int om, al, pt, .ref pg, .int wr])), (pg, .inl (G.2.1 0, 4000, .inl pgf))]) (wr := []) (gh_V (wc := [(mm, .inr (5, [tx, .int sz, .int at0, .ref tk, .ref tp, .ref ou, .int tm, .int om, al, pt, .ref pg, .int wr])), (pg, .inl (G.2.1 0, 4000, .inl pgf))]) (As := [.ref (G.2.2.1 10)]) (rest := []) ⟨hx, hb, hml, hown, hw⟩ (c_M_say_s l G mm tp tk ou pg sz at0 tm om wr al pt tx pgf 10 hpf (by first | assumption | trivial | omega | (dsimp only; omega)) (by decide) H.size) (cwV 1 hw (good_V m_719 m_721 ms_51 m_4 m_722) rfl rfl rfl hy_M_say_s ⟨Nat.le_trans (Nat.le_of_ble_eq_true rfl) (Nat.le_add_right 5 _), Nat.le_trans (Nat.le_of_ble_eq_true rfl) (Nat.le_add_right 107 _)⟩) (gP.here (wc := [(mm, .inr (5, [tx, .int sz, .int at0, .ref tk, .ref tp, .ref ou, .int tm, .int om, al, pt, .ref pg, .int wr])), (pg, .inl (G.2.1 0, 4000, .inl pgf))]) hE hP hD hS hA [0, 1] rfl (by decide)) (va_recv hE.1 hP (ci := 5) (q0 := 0) rfl rfl) rfl hl rfl (Nat.le_of_ble_eq_true rfl) d_M_write_p_66 ⟨Nat.le_of_ble_eq_true rfl, Nat.le_of_ble_eq_true rfl⟩) hP hD hS hA [0, 1] [] rfl rfl rfl (by decide) (by decide) (fun u_3 H locs hw_4 hP hD hS => ?_)
  obtain ⟨wr2_5, pgf2_6⟩ := u_3
  try dsimp only at hw_4
  obtain ⟨h_7, h_8⟩ := hw_4
  have hP : va_P G.1 vwCl ([(mm, .inr (5, [tx, .int sz, .int at0, .ref tk, .ref tp, .ref ou, .int tm, .int om, al, pt, .ref pg, .int wr2_5])), (pg, .inl (G.2.1 0, 4000, .inl pgf2_6))] ++ pl) H := hP
  have hD : va_D A ([(mm, .inr (5, [tx, .int sz, .int at0, .ref tk, .ref tp, .ref ou, .int tm, .int om, al, pt, .ref pg, .int wr2_5])), (pg, .inl (G.2.1 0, 4000, .inl pgf2_6))] ++ pl) := hD
  exact ret (wr2_5, pgf2_6) (Nat.le_of_ble_eq_true rfl) (Nat.le_of_ble_eq_true rfl) d_M_write_p_69 ⟨h_7, (by first | assumption | trivial | omega | (dsimp only; omega))⟩ (hP.part (cx := [(mm, .inr (5, [tx, .int sz, .int at0, .ref tk, .ref tp, .ref ou, .int tm, .int om, al, pt, .ref pg, .int wr2_5])), (pg, .inl (G.2.1 0, 4000, .inl pgf2_6))]) [0, 1] rfl) (hD.part (cx := [(mm, .inr (5, [tx, .int sz, .int at0, .ref tk, .ref tp, .ref ou, .int tm, .int om, al, pt, .ref pg, .int wr2_5])), (pg, .inl (G.2.1 0, 4000, .inl pgf2_6))]) [0, 1] (by decide) rfl) hS
set_option maxHeartbeats 4000000 in
set_option maxRecDepth 100000 in
theorem s_w2 (l : Launch) (G : GG) (d : Nat) (mm : Nat) (tp : Nat) (tk : Nat) (ou : Nat) (pg : Nat) (sz : Int32) (at0 : Int32) (tm : Int32) (om : Int32) (wr : Int32) (al : Value) (pt : Value) (tx : Value) (pgf : Nat → Int32) (pa : Nat) (w9 : Nat) (v1 : Value) (v2 : Value) (v3 : Value) (v4 : Value) (v5 : Value) (v6 : Value) (pl : va_W) (hpf : sb_Fit pgf) (hw0 : 0 ≤ wr.toInt ∧ wr.toInt + w9 ≤ 4000) (hself : (pa, .inr (6, [.int 2, v1, v2, v3, v4, v5, v6])) ∈ pl) (h5 : 5 ≤ w9) : MV l y_M_write_p b_M_write_p 6 (rm_mw d) G [.ref mm, .ref pa] ([(mm, .inr (5, [tx, .int sz, .int at0, .ref tk, .ref tp, .ref ou, .int tm, .int om, al, pt, .ref pg, .int wr])), (pg, .inl (G.2.1 0, 4000, .inl pgf))] ++ pl) (fun (u : Int32 × (Nat → Int32)) => (sb_Fit u.2) ∧ (wr.toInt ≤ u.1.toInt ∧ u.1.toInt ≤ wr.toInt + w9)) (fun (u : Int32 × (Nat → Int32)) => ([(mm, .inr (5, [tx, .int sz, .int at0, .ref tk, .ref tp, .ref ou, .int tm, .int om, al, pt, .ref pg, .int u.1])), (pg, .inl (G.2.1 0, 4000, .inl u.2))] ++ pl)) 0 0 := by
  refine MV.of (cc := b_M_write_p) (maxL := 6) (C := R_M) (by decide +kernel) rfl (Nat.le_of_ble_eq_true rfl) ?_
  intro p e s m args below meth c A Q H ls hx hb hml hown hw hE hA hP hD hS hin ret hl
  have hl : lv_has ls 6 [(0, .ref mm), (1, .ref pa)] := hl
  refine lv_aload_n hx hb d_M_write_p_0 rfl (lv_at hl 1 rfl) ?_
  obtain ⟨k_1, hk_1⟩ := List.getElem?_of_mem (show ((pa, .inr (6, [.int 2, v1, v2, v3, v4, v5, v6])) : Nat × va_E) ∈ ([(mm, .inr (5, [tx, .int sz, .int at0, .ref tk, .ref tp, .ref ou, .int tm, .int om, al, pt, .ref pg, .int wr])), (pg, .inl (G.2.1 0, 4000, .inl pgf))] ++ pl) from List.mem_append_right _ hself)
  refine va_get (D := G.1) (ci := 6) (v := .int 2) (C := R_Part) (T := F_Part) (N := 7) hx hb hw i_Part hown hE.1 hP k_1 hk_1 rfl 0 (by decide) (hw _ m_542) (fun _ h9 => h9) rfl d_M_write_p_1 ?_
  refine lv_tableIn (tgt := 70) hx hb d_M_write_p_4 (by decide) (by decide) rfl (by decide) ?_
  refine lv_aload_n hx hb d_M_write_p_70 rfl (lv_at hl 0 rfl) ?_
  refine va_ldcS (q := (G.2.2.1 11)) hx hb hown (hE.2.1 11 (by decide)).2 d_M_write_p_71 ?_
  have tk_11 : (nI (lenS.getD 11 0)).toInt = 5 := by decide
  refine gq_v (X := [(mm, .inr (5, [tx, .int sz, .int at0, .ref tk, .ref tp, .ref ou, .int tm, .int om, al, pt, .ref pg, .int wr])), (pg, .inl (G.2.1 0, 4000, .inl pgf))]) (wr := []) (gh_V (wc := [(mm, .inr (5, [tx, .int sz, .int at0, .ref tk, .ref tp, .ref ou, .int tm, .int om, al, pt, .ref pg, .int wr])), (pg, .inl (G.2.1 0, 4000, .inl pgf))]) (As := [.ref (G.2.2.1 11)]) (rest := []) ⟨hx, hb, hml, hown, hw⟩ (c_M_say_s l G mm tp tk ou pg sz at0 tm om wr al pt tx pgf 11 hpf (by first | assumption | trivial | omega | (dsimp only; omega)) (by decide) H.size) (cwV 1 hw (good_V m_719 m_721 ms_51 m_4 m_722) rfl rfl rfl hy_M_say_s ⟨Nat.le_trans (Nat.le_of_ble_eq_true rfl) (Nat.le_add_right 5 _), Nat.le_trans (Nat.le_of_ble_eq_true rfl) (Nat.le_add_right 107 _)⟩) (gP.here (wc := [(mm, .inr (5, [tx, .int sz, .int at0, .ref tk, .ref tp, .ref ou, .int tm, .int om, al, pt, .ref pg, .int wr])), (pg, .inl (G.2.1 0, 4000, .inl pgf))]) hE hP hD hS hA [0, 1] rfl (by decide)) (va_recv hE.1 hP (ci := 5) (q0 := 0) rfl rfl) rfl hl rfl (Nat.le_of_ble_eq_true rfl) d_M_write_p_73 ⟨Nat.le_of_ble_eq_true rfl, Nat.le_of_ble_eq_true rfl⟩) hP hD hS hA [0, 1] [] rfl rfl rfl (by decide) (by decide) (fun u_3 H locs hw_4 hP hD hS => ?_)
  obtain ⟨wr2_5, pgf2_6⟩ := u_3
  try dsimp only at hw_4
  obtain ⟨h_7, h_8⟩ := hw_4
  have hP : va_P G.1 vwCl ([(mm, .inr (5, [tx, .int sz, .int at0, .ref tk, .ref tp, .ref ou, .int tm, .int om, al, pt, .ref pg, .int wr2_5])), (pg, .inl (G.2.1 0, 4000, .inl pgf2_6))] ++ pl) H := hP
  have hD : va_D A ([(mm, .inr (5, [tx, .int sz, .int at0, .ref tk, .ref tp, .ref ou, .int tm, .int om, al, pt, .ref pg, .int wr2_5])), (pg, .inl (G.2.1 0, 4000, .inl pgf2_6))] ++ pl) := hD
  exact ret (wr2_5, pgf2_6) (Nat.le_of_ble_eq_true rfl) (Nat.le_of_ble_eq_true rfl) d_M_write_p_76 ⟨h_7, (by first | assumption | trivial | omega | (dsimp only; omega))⟩ (hP.part (cx := [(mm, .inr (5, [tx, .int sz, .int at0, .ref tk, .ref tp, .ref ou, .int tm, .int om, al, pt, .ref pg, .int wr2_5])), (pg, .inl (G.2.1 0, 4000, .inl pgf2_6))]) [0, 1] rfl) (hD.part (cx := [(mm, .inr (5, [tx, .int sz, .int at0, .ref tk, .ref tp, .ref ou, .int tm, .int om, al, pt, .ref pg, .int wr2_5])), (pg, .inl (G.2.1 0, 4000, .inl pgf2_6))]) [0, 1] (by decide) rfl) hS
set_option maxHeartbeats 4000000 in
set_option maxRecDepth 100000 in
theorem s_w3 (l : Launch) (G : GG) (d : Nat) (mm : Nat) (tp : Nat) (tk : Nat) (ou : Nat) (pg : Nat) (sz : Int32) (at0 : Int32) (tm : Int32) (om : Int32) (wr : Int32) (al : Value) (pt : Value) (tx : Value) (pgf : Nat → Int32) (pa : Nat) (w9 : Nat) (x : Int32) (v2 : Value) (v3 : Value) (v4 : Value) (v5 : Value) (v6 : Value) (c9 : Nat) (sg : Int) (pl : va_W) (hpf : sb_Fit pgf) (hw0 : 0 ≤ wr.toInt ∧ wr.toInt + w9 ≤ 4000) (hself : (pa, .inr (6, [.int 3, .int x, v2, v3, v4, v5, v6])) ∈ pl) (hn : NumOk x c9 sg) (hcw : c9 + sg ≤ w9) : MV l y_M_write_p b_M_write_p 6 (rm_mw d) G [.ref mm, .ref pa] ([(mm, .inr (5, [tx, .int sz, .int at0, .ref tk, .ref tp, .ref ou, .int tm, .int om, al, pt, .ref pg, .int wr])), (pg, .inl (G.2.1 0, 4000, .inl pgf))] ++ pl) (fun (u : Int32 × (Nat → Int32)) => (sb_Fit u.2) ∧ (wr.toInt ≤ u.1.toInt ∧ u.1.toInt ≤ wr.toInt + w9)) (fun (u : Int32 × (Nat → Int32)) => ([(mm, .inr (5, [tx, .int sz, .int at0, .ref tk, .ref tp, .ref ou, .int tm, .int om, al, pt, .ref pg, .int u.1])), (pg, .inl (G.2.1 0, 4000, .inl u.2))] ++ pl)) 0 0 := by
  refine MV.of (cc := b_M_write_p) (maxL := 6) (C := R_M) (by decide +kernel) rfl (Nat.le_of_ble_eq_true rfl) ?_
  intro p e s m args below meth c A Q H ls hx hb hml hown hw hE hA hP hD hS hin ret hl
  have hl : lv_has ls 6 [(0, .ref mm), (1, .ref pa)] := hl
  have hn1 := hn.1
  have hn2 := hn.2
  refine lv_aload_n hx hb d_M_write_p_0 rfl (lv_at hl 1 rfl) ?_
  obtain ⟨k_1, hk_1⟩ := List.getElem?_of_mem (show ((pa, .inr (6, [.int 3, .int x, v2, v3, v4, v5, v6])) : Nat × va_E) ∈ ([(mm, .inr (5, [tx, .int sz, .int at0, .ref tk, .ref tp, .ref ou, .int tm, .int om, al, pt, .ref pg, .int wr])), (pg, .inl (G.2.1 0, 4000, .inl pgf))] ++ pl) from List.mem_append_right _ hself)
  refine va_get (D := G.1) (ci := 6) (v := .int 3) (C := R_Part) (T := F_Part) (N := 7) hx hb hw i_Part hown hE.1 hP k_1 hk_1 rfl 0 (by decide) (hw _ m_542) (fun _ h9 => h9) rfl d_M_write_p_1 ?_
  refine lv_tableIn (tgt := 77) hx hb d_M_write_p_4 (by decide) (by decide) rfl (by decide) ?_
  refine lv_aload_n hx hb d_M_write_p_77 rfl (lv_at hl 0 rfl) ?_
  refine lv_aload_n hx hb d_M_write_p_78 rfl (lv_at hl 1 rfl) ?_
  obtain ⟨k_2, hk_2⟩ := List.getElem?_of_mem (show ((pa, .inr (6, [.int 3, .int x, v2, v3, v4, v5, v6])) : Nat × va_E) ∈ ([(mm, .inr (5, [tx, .int sz, .int at0, .ref tk, .ref tp, .ref ou, .int tm, .int om, al, pt, .ref pg, .int wr])), (pg, .inl (G.2.1 0, 4000, .inl pgf))] ++ pl) from List.mem_append_right _ hself)
  refine va_get (D := G.1) (ci := 6) (v := .int x) (C := R_Part) (T := F_Part) (N := 7) hx hb hw i_Part hown hE.1 hP k_2 hk_2 rfl 1 (by decide) (hw _ m_543) (fun _ h9 => h9) rfl d_M_write_p_79 ?_
  refine lv_iconst (v := 1) hx hb d_M_write_p_82 (by decide) ?_
  refine gq_v (X := [(mm, .inr (5, [tx, .int sz, .int at0, .ref tk, .ref tp, .ref ou, .int tm, .int om, al, pt, .ref pg, .int wr])), (pg, .inl (G.2.1 0, 4000, .inl pgf))]) (wr := []) (gh_V (wc := [(mm, .inr (5, [tx, .int sz, .int at0, .ref tk, .ref tp, .ref ou, .int tm, .int om, al, pt, .ref pg, .int wr])), (pg, .inl (G.2.1 0, 4000, .inl pgf))]) (As := [.int x, .int 1]) (rest := []) ⟨hx, hb, hml, hown, hw⟩ (c_M_number l G mm tp tk ou pg sz at0 tm om wr al pt tx pgf x c9 sg hpf hn.1 hn.2 (by first | assumption | trivial | omega | (dsimp only; omega)) H.size) (cwV 2 hw (good_V m_727 m_729 ms_53 m_4 m_730) rfl rfl rfl hy_M_number ⟨Nat.le_trans (Nat.le_of_ble_eq_true rfl) (Nat.le_add_right 5 _), Nat.le_trans (Nat.le_of_ble_eq_true rfl) (Nat.le_add_right 107 _)⟩) (gP.here (wc := [(mm, .inr (5, [tx, .int sz, .int at0, .ref tk, .ref tp, .ref ou, .int tm, .int om, al, pt, .ref pg, .int wr])), (pg, .inl (G.2.1 0, 4000, .inl pgf))]) hE hP hD hS hA [0, 1] rfl (by decide)) (va_recv hE.1 hP (ci := 5) (q0 := 0) rfl rfl) rfl hl rfl (Nat.le_of_ble_eq_true rfl) d_M_write_p_83 ⟨Nat.le_of_ble_eq_true rfl, Nat.le_of_ble_eq_true rfl⟩) hP hD hS hA [0, 1] [] rfl rfl rfl (by decide) (by decide) (fun u_4 H locs hw_5 hP hD hS => ?_)
  obtain ⟨wr2_6, pgf2_7⟩ := u_4
  try dsimp only at hw_5
  obtain ⟨h_8, h_9⟩ := hw_5
  have hP : va_P G.1 vwCl ([(mm, .inr (5, [tx, .int sz, .int at0, .ref tk, .ref tp, .ref ou, .int tm, .int om, al, pt, .ref pg, .int wr2_6])), (pg, .inl (G.2.1 0, 4000, .inl pgf2_7))] ++ pl) H := hP
  have hD : va_D A ([(mm, .inr (5, [tx, .int sz, .int at0, .ref tk, .ref tp, .ref ou, .int tm, .int om, al, pt, .ref pg, .int wr2_6])), (pg, .inl (G.2.1 0, 4000, .inl pgf2_7))] ++ pl) := hD
  exact ret (wr2_6, pgf2_7) (Nat.le_of_ble_eq_true rfl) (Nat.le_of_ble_eq_true rfl) d_M_write_p_86 ⟨h_8, (by first | assumption | trivial | omega | (dsimp only; omega))⟩ (hP.part (cx := [(mm, .inr (5, [tx, .int sz, .int at0, .ref tk, .ref tp, .ref ou, .int tm, .int om, al, pt, .ref pg, .int wr2_6])), (pg, .inl (G.2.1 0, 4000, .inl pgf2_7))]) [0, 1] rfl) (hD.part (cx := [(mm, .inr (5, [tx, .int sz, .int at0, .ref tk, .ref tp, .ref ou, .int tm, .int om, al, pt, .ref pg, .int wr2_6])), (pg, .inl (G.2.1 0, 4000, .inl pgf2_7))]) [0, 1] (by decide) rfl) hS
set_option maxHeartbeats 4000000 in
set_option maxRecDepth 100000 in
theorem s_w4 (l : Launch) (G : GG) (d : Nat) (mm : Nat) (tp : Nat) (tk : Nat) (ou : Nat) (pg : Nat) (sz : Int32) (at0 : Int32) (tm : Int32) (om : Int32) (wr : Int32) (al : Value) (pt : Value) (tx : Value) (pgf : Nat → Int32) (pa : Nat) (w9 : Nat) (v1 : Value) (v2 : Value) (v3 : Value) (v5 : Value) (v6 : Value) (q0 : Nat) (bn : Nat) (bf : Nat → Int32) (pl : va_W) (hpf : sb_Fit pgf) (hw0 : 0 ≤ wr.toInt ∧ wr.toInt + w9 ≤ 4000) (hself : (pa, .inr (6, [.int 4, v1, v2, v3, .ref q0, v5, v6])) ∈ pl) (hq0 : cellB G q0 bn bf ∈ pl) (hbw : 1 + bn ≤ w9) : MV l y_M_write_p b_M_write_p 6 (rm_mw d) G [.ref mm, .ref pa] ([(mm, .inr (5, [tx, .int sz, .int at0, .ref tk, .ref tp, .ref ou, .int tm, .int om, al, pt, .ref pg, .int wr])), (pg, .inl (G.2.1 0, 4000, .inl pgf))] ++ pl) (fun (u : Int32 × (Nat → Int32)) => (sb_Fit u.2) ∧ (wr.toInt ≤ u.1.toInt ∧ u.1.toInt ≤ wr.toInt + w9)) (fun (u : Int32 × (Nat → Int32)) => ([(mm, .inr (5, [tx, .int sz, .int at0, .ref tk, .ref tp, .ref ou, .int tm, .int om, al, pt, .ref pg, .int u.1])), (pg, .inl (G.2.1 0, 4000, .inl u.2))] ++ pl)) 0 0 := by
  refine MV.of (cc := b_M_write_p) (maxL := 6) (C := R_M) (by decide +kernel) rfl (Nat.le_of_ble_eq_true rfl) ?_
  intro p e s m args below meth c A Q H ls hx hb hml hown hw hE hA hP hD hS hin ret hl
  have hl : lv_has ls 6 [(0, .ref mm), (1, .ref pa)] := hl
  refine lv_aload_n hx hb d_M_write_p_0 rfl (lv_at hl 1 rfl) ?_
  obtain ⟨k_1, hk_1⟩ := List.getElem?_of_mem (show ((pa, .inr (6, [.int 4, v1, v2, v3, .ref q0, v5, v6])) : Nat × va_E) ∈ ([(mm, .inr (5, [tx, .int sz, .int at0, .ref tk, .ref tp, .ref ou, .int tm, .int om, al, pt, .ref pg, .int wr])), (pg, .inl (G.2.1 0, 4000, .inl pgf))] ++ pl) from List.mem_append_right _ hself)
  refine va_get (D := G.1) (ci := 6) (v := .int 4) (C := R_Part) (T := F_Part) (N := 7) hx hb hw i_Part hown hE.1 hP k_1 hk_1 rfl 0 (by decide) (hw _ m_542) (fun _ h9 => h9) rfl d_M_write_p_1 ?_
  refine lv_tableIn (tgt := 87) hx hb d_M_write_p_4 (by decide) (by decide) rfl (by decide) ?_
  refine lv_aload_n hx hb d_M_write_p_87 rfl (lv_at hl 0 rfl) ?_
  refine lv_bipush (v := 47) hx hb d_M_write_p_88 (by decide) ?_
  refine gq_v (X := [(mm, .inr (5, [tx, .int sz, .int at0, .ref tk, .ref tp, .ref ou, .int tm, .int om, al, pt, .ref pg, .int wr])), (pg, .inl (G.2.1 0, 4000, .inl pgf))]) (wr := []) (gh_V (wc := [(mm, .inr (5, [tx, .int sz, .int at0, .ref tk, .ref tp, .ref ou, .int tm, .int om, al, pt, .ref pg, .int wr])), (pg, .inl (G.2.1 0, 4000, .inl pgf))]) (As := [.int 47]) (rest := []) ⟨hx, hb, hml, hown, hw⟩ (c_M_say_i l G mm tp tk ou pg sz at0 tm om wr al pt tx pgf 47 hpf (by first | assumption | trivial | omega | (dsimp only; omega)) H.size) (cwV 1 hw (good_V m_723 m_725 ms_52 m_4 m_726) rfl rfl rfl hy_M_say_i ⟨Nat.le_trans (Nat.le_of_ble_eq_true rfl) (Nat.le_add_right 5 _), Nat.le_trans (Nat.le_of_ble_eq_true rfl) (Nat.le_add_right 107 _)⟩) (gP.here (wc := [(mm, .inr (5, [tx, .int sz, .int at0, .ref tk, .ref tp, .ref ou, .int tm, .int om, al, pt, .ref pg, .int wr])), (pg, .inl (G.2.1 0, 4000, .inl pgf))]) hE hP hD hS hA [0, 1] rfl (by decide)) (va_recv hE.1 hP (ci := 5) (q0 := 0) rfl rfl) rfl hl rfl (Nat.le_of_ble_eq_true rfl) d_M_write_p_90 ⟨Nat.le_of_ble_eq_true rfl, Nat.le_of_ble_eq_true rfl⟩) hP hD hS hA [0, 1] [] rfl rfl rfl (by decide) (by decide) (fun u_3 H locs hw_4 hP hD hS => ?_)
  obtain ⟨wr2_5, pgf2_6⟩ := u_3
  try dsimp only at hw_4
  obtain ⟨h_7, h_8⟩ := hw_4
  have hP : va_P G.1 vwCl ([(mm, .inr (5, [tx, .int sz, .int at0, .ref tk, .ref tp, .ref ou, .int tm, .int om, al, pt, .ref pg, .int wr2_5])), (pg, .inl (G.2.1 0, 4000, .inl pgf2_6))] ++ pl) H := hP
  have hD : va_D A ([(mm, .inr (5, [tx, .int sz, .int at0, .ref tk, .ref tp, .ref ou, .int tm, .int om, al, pt, .ref pg, .int wr2_5])), (pg, .inl (G.2.1 0, 4000, .inl pgf2_6))] ++ pl) := hD
  refine lv_aload_n hx hb d_M_write_p_93 rfl (lv_at hl 0 rfl) ?_
  refine lv_aload_n hx hb d_M_write_p_94 rfl (lv_at hl 1 rfl) ?_
  obtain ⟨k_9, hk_9⟩ := List.getElem?_of_mem (show ((pa, .inr (6, [.int 4, v1, v2, v3, .ref q0, v5, v6])) : Nat × va_E) ∈ ([(mm, .inr (5, [tx, .int sz, .int at0, .ref tk, .ref tp, .ref ou, .int tm, .int om, al, pt, .ref pg, .int wr2_5])), (pg, .inl (G.2.1 0, 4000, .inl pgf2_6))] ++ pl) from List.mem_append_right _ hself)
  refine va_get (D := G.1) (ci := 6) (v := .ref q0) (C := R_Part) (T := F_Part) (N := 7) hx hb hw i_Part hown hE.1 hP k_9 hk_9 rfl 4 (by decide) (hw _ m_547) (fun _ h9 => h9) rfl d_M_write_p_95 ?_
  refine gp_v (X := [(mm, .inr (5, [tx, .int sz, .int at0, .ref tk, .ref tp, .ref ou, .int tm, .int om, al, pt, .ref pg, .int wr2_5])), (pg, .inl (G.2.1 0, 4000, .inl pgf2_6))]) (cx := [(mm, .inr (5, [tx, .int sz, .int at0, .ref tk, .ref tp, .ref ou, .int tm, .int om, al, pt, .ref pg, .int wr2_5])), (pg, .inl (G.2.1 0, 4000, .inl pgf2_6))]) (wr := []) (rx := (fun (u : Int32 × (Nat → Int32)) => [(mm, .inr (5, [tx, .int sz, .int at0, .ref tk, .ref tp, .ref ou, .int tm, .int om, al, pt, .ref pg, .int u.1])), (pg, .inl (G.2.1 0, 4000, .inl u.2))])) (pl1 := (fun (u : Int32 × (Nat → Int32)) => pl)) (gh_V (wc := ([(mm, .inr (5, [tx, .int sz, .int at0, .ref tk, .ref tp, .ref ou, .int tm, .int om, al, pt, .ref pg, .int wr2_5])), (pg, .inl (G.2.1 0, 4000, .inl pgf2_6))] ++ pl)) (As := [.ref q0]) (rest := []) ⟨hx, hb, hml, hown, hw⟩ (c_M_say_b l G mm tp tk ou pg sz at0 tm om wr2_5 al pt tx pgf2_6 q0 bn bf pl h_7 hq0 (by first | assumption | trivial | omega | (dsimp only; omega)) H.size) (cwV 1 hw (good_V m_731 m_733 ms_54 m_4 m_734) rfl rfl rfl hy_M_say_b ⟨Nat.le_trans (Nat.le_of_ble_eq_true rfl) (Nat.le_add_right 5 _), Nat.le_trans (Nat.le_of_ble_eq_true rfl) (Nat.le_add_right 107 _)⟩) (gp_here (X := [(mm, .inr (5, [tx, .int sz, .int at0, .ref tk, .ref tp, .ref ou, .int tm, .int om, al, pt, .ref pg, .int wr2_5])), (pg, .inl (G.2.1 0, 4000, .inl pgf2_6))]) (cx := [(mm, .inr (5, [tx, .int sz, .int at0, .ref tk, .ref tp, .ref ou, .int tm, .int om, al, pt, .ref pg, .int wr2_5])), (pg, .inl (G.2.1 0, 4000, .inl pgf2_6))]) hE hP hD hS hA [0, 1] rfl (by decide)) (va_recv hE.1 hP (ci := 5) (q0 := 0) rfl rfl) rfl hl rfl (Nat.le_of_ble_eq_true rfl) d_M_write_p_98 ⟨Nat.le_of_ble_eq_true rfl, Nat.le_of_ble_eq_true rfl⟩) hP hD hS hA [0, 1] [] rfl rfl (by decide) (by decide) (fun u_11 H locs hw_12 hP hD hS => ?_)
  obtain ⟨wr2_13, pgf2_14⟩ := u_11
  try dsimp only at hw_12
  obtain ⟨h_15, h_16⟩ := hw_12
  have hP : va_P G.1 vwCl ([(mm, .inr (5, [tx, .int sz, .int at0, .ref tk, .ref tp, .ref ou, .int tm, .int om, al, pt, .ref pg, .int wr2_13])), (pg, .inl (G.2.1 0, 4000, .inl pgf2_14))] ++ pl) H := hP
  have hD : va_D A ([(mm, .inr (5, [tx, .int sz, .int at0, .ref tk, .ref tp, .ref ou, .int tm, .int om, al, pt, .ref pg, .int wr2_13])), (pg, .inl (G.2.1 0, 4000, .inl pgf2_14))] ++ pl) := hD
  exact ret (wr2_13, pgf2_14) (Nat.le_of_ble_eq_true rfl) (Nat.le_of_ble_eq_true rfl) d_M_write_p_101 ⟨h_15, (by first | assumption | trivial | omega | (dsimp only; omega))⟩ (hP.part (cx := [(mm, .inr (5, [tx, .int sz, .int at0, .ref tk, .ref tp, .ref ou, .int tm, .int om, al, pt, .ref pg, .int wr2_13])), (pg, .inl (G.2.1 0, 4000, .inl pgf2_14))]) [0, 1] rfl) (hD.part (cx := [(mm, .inr (5, [tx, .int sz, .int at0, .ref tk, .ref tp, .ref ou, .int tm, .int om, al, pt, .ref pg, .int wr2_13])), (pg, .inl (G.2.1 0, 4000, .inl pgf2_14))]) [0, 1] (by decide) rfl) hS
set_option maxHeartbeats 4000000 in
set_option maxRecDepth 100000 in
theorem s_w5 (l : Launch) (G : GG) (d : Nat) (mm : Nat) (tp : Nat) (tk : Nat) (ou : Nat) (pg : Nat) (sz : Int32) (at0 : Int32) (tm : Int32) (om : Int32) (wr : Int32) (al : Value) (pt : Value) (tx : Value) (pgf : Nat → Int32) (pa : Nat) (w9 : Nat) (v1 : Value) (v2 : Value) (v3 : Value) (v5 : Value) (v6 : Value) (q0 : Nat) (bn : Nat) (bf : Nat → Int32) (pl : va_W) (hpf : sb_Fit pgf) (hw0 : 0 ≤ wr.toInt ∧ wr.toInt + w9 ≤ 4000) (hself : (pa, .inr (6, [.int 5, v1, v2, v3, .ref q0, v5, v6])) ∈ pl) (hq0 : cellB G q0 bn bf ∈ pl) (hbw : 2 + 2 * bn ≤ w9) (hb1 : bn ≤ 100) : MV l y_M_write_p b_M_write_p 6 (rm_mw d) G [.ref mm, .ref pa] ([(mm, .inr (5, [tx, .int sz, .int at0, .ref tk, .ref tp, .ref ou, .int tm, .int om, al, pt, .ref pg, .int wr])), (pg, .inl (G.2.1 0, 4000, .inl pgf))] ++ pl) (fun (u : Int32 × (Nat → Int32)) => (sb_Fit u.2) ∧ (wr.toInt ≤ u.1.toInt ∧ u.1.toInt ≤ wr.toInt + w9)) (fun (u : Int32 × (Nat → Int32)) => ([(mm, .inr (5, [tx, .int sz, .int at0, .ref tk, .ref tp, .ref ou, .int tm, .int om, al, pt, .ref pg, .int u.1])), (pg, .inl (G.2.1 0, 4000, .inl u.2))] ++ pl)) 0 0 := by
  refine MV.of (cc := b_M_write_p) (maxL := 6) (C := R_M) (by decide +kernel) rfl (Nat.le_of_ble_eq_true rfl) ?_
  intro p e s m args below meth c A Q H ls hx hb hml hown hw hE hA hP hD hS hin ret hl
  have hl : lv_has ls 6 [(0, .ref mm), (1, .ref pa)] := hl
  have hbn9 := z_n (n := bn) (by omega)
  have J_119 : ∀ (fu : Nat) (x4_119 : Int32) (x3_119 : Int32) (wr2_119 : Int32) (pgf2_119 : Nat → Int32) (hj0_119 : sb_Fit pgf2_119) (hk0_119 : 0 ≤ x4_119.toInt ∧ x4_119.toInt ≤ bn) (hk1_119 : wr2_119.toInt = wr.toInt + 1 + 2 * x4_119.toInt) (hk2_119 : x3_119.toInt = bn), ((bn : Int) - x4_119.toInt).toNat < fu → ∀ (H : Heap) (locs : List Loc), va_P G.1 vwCl ([(mm, .inr (5, [tx, .int sz, .int at0, .ref tk, .ref tp, .ref ou, .int tm, .int om, al, pt, .ref pg, .int wr2_119])), (pg, .inl (G.2.1 0, 4000, .inl pgf2_119))] ++ pl) H → va_D A ([(mm, .inr (5, [tx, .int sz, .int at0, .ref tk, .ref tp, .ref ou, .int tm, .int om, al, pt, .ref pg, .int wr2_119])), (pg, .inl (G.2.1 0, 4000, .inl pgf2_119))] ++ pl) → va_S A s.heap H locs → ∀ ls : Array Slot, lv_has ls 6 [(4, .int x4_119), (3, .int x3_119), (2, .ref q0), (0, .ref mm), (1, .ref pa)] → W p l e (rm_mw d) s m args below meth c H locs 0 0 Q (F0 m 119 ls []) := by
    intro fu
    induction fu with
    | zero =>
      intro x4_119 x3_119 wr2_119 pgf2_119 hj0_119 hk0_119 hk1_119 hk2_119 hm
      exact absurd hm (Nat.not_lt_zero _)
    | succ fu ih_119 =>
      intro x4_119 x3_119 wr2_119 pgf2_119 hj0_119 hk0_119 hk1_119 hk2_119 hm_119 H locs hP hD hS ls hl
      refine lv_iload hx hb d_M_write_p_119 (lv_at hl 0 rfl) ?_
      refine lv_iload_n hx hb d_M_write_p_121 rfl (lv_at hl 1 rfl) ?_
      refine lv_icmp_ge (tgt := 157) hx hb d_M_write_p_122 (by decide) (fun c_1 => ?_) (fun c_1 => ?_)
      · have tc_1 := z_le.mp c_1
        refine lv_aload_n hx hb d_M_write_p_157 rfl (lv_at hl 3 rfl) ?_
        refine lv_bipush (v := 62) hx hb d_M_write_p_158 (by decide) ?_
        refine gq_v (X := [(mm, .inr (5, [tx, .int sz, .int at0, .ref tk, .ref tp, .ref ou, .int tm, .int om, al, pt, .ref pg, .int wr2_119])), (pg, .inl (G.2.1 0, 4000, .inl pgf2_119))]) (wr := []) (gh_V (wc := [(mm, .inr (5, [tx, .int sz, .int at0, .ref tk, .ref tp, .ref ou, .int tm, .int om, al, pt, .ref pg, .int wr2_119])), (pg, .inl (G.2.1 0, 4000, .inl pgf2_119))]) (As := [.int 62]) (rest := []) ⟨hx, hb, hml, hown, hw⟩ (c_M_say_i l G mm tp tk ou pg sz at0 tm om wr2_119 al pt tx pgf2_119 62 hj0_119 (by first | assumption | trivial | omega | (dsimp only; omega)) H.size) (cwV 1 hw (good_V m_723 m_725 ms_52 m_4 m_726) rfl rfl rfl hy_M_say_i ⟨Nat.le_trans (Nat.le_of_ble_eq_true rfl) (Nat.le_add_right 5 _), Nat.le_trans (Nat.le_of_ble_eq_true rfl) (Nat.le_add_right 107 _)⟩) (gP.here (wc := [(mm, .inr (5, [tx, .int sz, .int at0, .ref tk, .ref tp, .ref ou, .int tm, .int om, al, pt, .ref pg, .int wr2_119])), (pg, .inl (G.2.1 0, 4000, .inl pgf2_119))]) hE hP hD hS hA [0, 1] rfl (by decide)) (va_recv hE.1 hP (ci := 5) (q0 := 0) rfl rfl) rfl hl rfl (Nat.le_of_ble_eq_true rfl) d_M_write_p_160 ⟨Nat.le_of_ble_eq_true rfl, Nat.le_of_ble_eq_true rfl⟩) hP hD hS hA [0, 1] [] rfl rfl rfl (by decide) (by decide) (fun u_3 H locs hw_4 hP hD hS => ?_)
        obtain ⟨wr2_5, pgf2_6⟩ := u_3
        try dsimp only at hw_4
        obtain ⟨h_7, h_8⟩ := hw_4
        have hP : va_P G.1 vwCl ([(mm, .inr (5, [tx, .int sz, .int at0, .ref tk, .ref tp, .ref ou, .int tm, .int om, al, pt, .ref pg, .int wr2_5])), (pg, .inl (G.2.1 0, 4000, .inl pgf2_6))] ++ pl) H := hP
        have hD : va_D A ([(mm, .inr (5, [tx, .int sz, .int at0, .ref tk, .ref tp, .ref ou, .int tm, .int om, al, pt, .ref pg, .int wr2_5])), (pg, .inl (G.2.1 0, 4000, .inl pgf2_6))] ++ pl) := hD
        exact ret (wr2_5, pgf2_6) (Nat.le_of_ble_eq_true rfl) (Nat.le_of_ble_eq_true rfl) d_M_write_p_163 ⟨h_7, (by first | assumption | trivial | omega | (dsimp only; omega))⟩ (hP.part (cx := [(mm, .inr (5, [tx, .int sz, .int at0, .ref tk, .ref tp, .ref ou, .int tm, .int om, al, pt, .ref pg, .int wr2_5])), (pg, .inl (G.2.1 0, 4000, .inl pgf2_6))]) [0, 1] rfl) (hD.part (cx := [(mm, .inr (5, [tx, .int sz, .int at0, .ref tk, .ref tp, .ref ou, .int tm, .int om, al, pt, .ref pg, .int wr2_5])), (pg, .inl (G.2.1 0, 4000, .inl pgf2_6))]) [0, 1] (by decide) rfl) hS
      · have tc_1 := z_nle c_1
        refine lv_aload_n hx hb d_M_write_p_125 rfl (lv_at hl 2 rfl) ?_
        refine lv_iload hx hb d_M_write_p_126 (lv_at hl 0 rfl) ?_
        obtain ⟨k_9, hk_9⟩ := List.getElem?_of_mem (show ((q0, .inl (G.2.1 0, bn, .inl bf)) : Nat × va_E) ∈ ([(mm, .inr (5, [tx, .int sz, .int at0, .ref tk, .ref tp, .ref ou, .int tm, .int om, al, pt, .ref pg, .int wr2_119])), (pg, .inl (G.2.1 0, 4000, .inl pgf2_119))] ++ pl) from List.mem_append_right _ hq0)
        refine va_bald hx hb hE.1 hP k_9 0 hk_9 rfl (i := x4_119) (z_in (by omega) (by omega)) d_M_write_p_128 ?_
        refine lv_topi (fun y_10 ey_10 => ?_)
        refine lv_istore (lv' := [(5, .int y_10), (4, .int x4_119), (3, .int x3_119), (2, .ref q0), (0, .ref mm), (1, .ref pa)]) hx hb d_M_write_p_129 hl (by decide) rfl (fun ls hl => ?_)
        refine lv_aload_n hx hb d_M_write_p_131 rfl (lv_at hl 4 rfl) ?_
        refine lv_iload hx hb d_M_write_p_132 (lv_at hl 0 rfl) ?_
        refine lv_iconst (v := 4) hx hb d_M_write_p_134 (by decide) ?_
        refine lv_ishr hx hb d_M_write_p_135 ?_
        refine lv_topi (fun y_11 ey_11 => ?_)
        refine lv_bipush (v := 15) hx hb d_M_write_p_136 (by decide) ?_
        refine lv_iand hx hb d_M_write_p_138 ?_
        refine lv_topi (fun y_12 ey_12 => ?_)
        refine gq_v (X := [(mm, .inr (5, [tx, .int sz, .int at0, .ref tk, .ref tp, .ref ou, .int tm, .int om, al, pt, .ref pg, .int wr2_119])), (pg, .inl (G.2.1 0, 4000, .inl pgf2_119))]) (wr := []) (gh_V (wc := [(mm, .inr (5, [tx, .int sz, .int at0, .ref tk, .ref tp, .ref ou, .int tm, .int om, al, pt, .ref pg, .int wr2_119])), (pg, .inl (G.2.1 0, 4000, .inl pgf2_119))]) (As := [.int y_12]) (rest := []) ⟨hx, hb, hml, hown, hw⟩ (c_M_hexDigit l G mm tp tk ou pg sz at0 tm om wr2_119 al pt tx pgf2_119 y_12 hj0_119 (by first | assumption | trivial | omega | (dsimp only; omega)) H.size) (cwV 1 hw (good_V m_735 m_737 ms_55 m_4 m_738) rfl rfl rfl hy_M_hexDigit ⟨Nat.le_trans (Nat.le_of_ble_eq_true rfl) (Nat.le_add_right 5 _), Nat.le_trans (Nat.le_of_ble_eq_true rfl) (Nat.le_add_right 107 _)⟩) (gP.here (wc := [(mm, .inr (5, [tx, .int sz, .int at0, .ref tk, .ref tp, .ref ou, .int tm, .int om, al, pt, .ref pg, .int wr2_119])), (pg, .inl (G.2.1 0, 4000, .inl pgf2_119))]) hE hP hD hS hA [0, 1] rfl (by decide)) (va_recv hE.1 hP (ci := 5) (q0 := 0) rfl rfl) rfl hl rfl (Nat.le_of_ble_eq_true rfl) d_M_write_p_139 ⟨Nat.le_of_ble_eq_true rfl, Nat.le_of_ble_eq_true rfl⟩) hP hD hS hA [0, 1] [] rfl rfl rfl (by decide) (by decide) (fun u_14 H locs hw_15 hP hD hS => ?_)
        obtain ⟨wr2_16, pgf2_17⟩ := u_14
        try dsimp only at hw_15
        obtain ⟨h_18, h_19⟩ := hw_15
        have hP : va_P G.1 vwCl ([(mm, .inr (5, [tx, .int sz, .int at0, .ref tk, .ref tp, .ref ou, .int tm, .int om, al, pt, .ref pg, .int wr2_16])), (pg, .inl (G.2.1 0, 4000, .inl pgf2_17))] ++ pl) H := hP
        have hD : va_D A ([(mm, .inr (5, [tx, .int sz, .int at0, .ref tk, .ref tp, .ref ou, .int tm, .int om, al, pt, .ref pg, .int wr2_16])), (pg, .inl (G.2.1 0, 4000, .inl pgf2_17))] ++ pl) := hD
        refine lv_aload_n hx hb d_M_write_p_142 rfl (lv_at hl 4 rfl) ?_
        refine lv_iload hx hb d_M_write_p_143 (lv_at hl 0 rfl) ?_
        refine lv_bipush (v := 15) hx hb d_M_write_p_145 (by decide) ?_
        refine lv_iand hx hb d_M_write_p_147 ?_
        refine lv_topi (fun y_20 ey_20 => ?_)
        refine gq_v (X := [(mm, .inr (5, [tx, .int sz, .int at0, .ref tk, .ref tp, .ref ou, .int tm, .int om, al, pt, .ref pg, .int wr2_16])), (pg, .inl (G.2.1 0, 4000, .inl pgf2_17))]) (wr := []) (gh_V (wc := [(mm, .inr (5, [tx, .int sz, .int at0, .ref tk, .ref tp, .ref ou, .int tm, .int om, al, pt, .ref pg, .int wr2_16])), (pg, .inl (G.2.1 0, 4000, .inl pgf2_17))]) (As := [.int y_20]) (rest := []) ⟨hx, hb, hml, hown, hw⟩ (c_M_hexDigit l G mm tp tk ou pg sz at0 tm om wr2_16 al pt tx pgf2_17 y_20 h_18 (by first | assumption | trivial | omega | (dsimp only; omega)) H.size) (cwV 1 hw (good_V m_735 m_737 ms_55 m_4 m_738) rfl rfl rfl hy_M_hexDigit ⟨Nat.le_trans (Nat.le_of_ble_eq_true rfl) (Nat.le_add_right 5 _), Nat.le_trans (Nat.le_of_ble_eq_true rfl) (Nat.le_add_right 107 _)⟩) (gP.here (wc := [(mm, .inr (5, [tx, .int sz, .int at0, .ref tk, .ref tp, .ref ou, .int tm, .int om, al, pt, .ref pg, .int wr2_16])), (pg, .inl (G.2.1 0, 4000, .inl pgf2_17))]) hE hP hD hS hA [0, 1] rfl (by decide)) (va_recv hE.1 hP (ci := 5) (q0 := 0) rfl rfl) rfl hl rfl (Nat.le_of_ble_eq_true rfl) d_M_write_p_148 ⟨Nat.le_of_ble_eq_true rfl, Nat.le_of_ble_eq_true rfl⟩) hP hD hS hA [0, 1] [] rfl rfl rfl (by decide) (by decide) (fun u_22 H locs hw_23 hP hD hS => ?_)
        obtain ⟨wr2_24, pgf2_25⟩ := u_22
        try dsimp only at hw_23
        obtain ⟨h_26, h_27⟩ := hw_23
        have hP : va_P G.1 vwCl ([(mm, .inr (5, [tx, .int sz, .int at0, .ref tk, .ref tp, .ref ou, .int tm, .int om, al, pt, .ref pg, .int wr2_24])), (pg, .inl (G.2.1 0, 4000, .inl pgf2_25))] ++ pl) H := hP
        have hD : va_D A ([(mm, .inr (5, [tx, .int sz, .int at0, .ref tk, .ref tp, .ref ou, .int tm, .int om, al, pt, .ref pg, .int wr2_24])), (pg, .inl (G.2.1 0, 4000, .inl pgf2_25))] ++ pl) := hD
        obtain ⟨y_28, ey_28⟩ : ∃ y : Int32, y = x4_119 + 1 := ⟨_, rfl⟩
        have tl_1 : (1 : Int32).toInt = 1 := by decide
        have ty_28 := z_addE ey_28
        refine lv_iinc (v := y_28) (lv' := [(4, .int y_28), (5, .int y_10), (3, .int x3_119), (2, .ref q0), (0, .ref mm), (1, .ref pa)]) hx hb d_M_write_p_151 hl (k := 1) rfl (by rw [ey_28]; rfl) (by decide) rfl (fun ls hl => ?_)
        refine lv_goto (tgt := 119) hx hb d_M_write_p_154 (by decide) ?_
        exact ih_119 y_28 x3_119 wr2_24 pgf2_25 h_26 (by first | assumption | trivial | omega | (dsimp only; omega)) (by first | assumption | trivial | omega | (dsimp only; omega)) hk2_119 (by omega) _ _ (hP.part [0, 1] rfl) (hD.part [0, 1] (by decide) rfl) hS _ (lv_sub hl [0, 2, 3, 4, 5] rfl)
  refine lv_aload_n hx hb d_M_write_p_0 rfl (lv_at hl 1 rfl) ?_
  obtain ⟨k_29, hk_29⟩ := List.getElem?_of_mem (show ((pa, .inr (6, [.int 5, v1, v2, v3, .ref q0, v5, v6])) : Nat × va_E) ∈ ([(mm, .inr (5, [tx, .int sz, .int at0, .ref tk, .ref tp, .ref ou, .int tm, .int om, al, pt, .ref pg, .int wr])), (pg, .inl (G.2.1 0, 4000, .inl pgf))] ++ pl) from List.mem_append_right _ hself)
  refine va_get (D := G.1) (ci := 6) (v := .int 5) (C := R_Part) (T := F_Part) (N := 7) hx hb hw i_Part hown hE.1 hP k_29 hk_29 rfl 0 (by decide) (hw _ m_542) (fun _ h9 => h9) rfl d_M_write_p_1 ?_
  refine lv_tableIn (tgt := 102) hx hb d_M_write_p_4 (by decide) (by decide) rfl (by decide) ?_
  refine lv_aload_n hx hb d_M_write_p_102 rfl (lv_at hl 0 rfl) ?_
  refine lv_bipush (v := 60) hx hb d_M_write_p_103 (by decide) ?_
  refine gq_v (X := [(mm, .inr (5, [tx, .int sz, .int at0, .ref tk, .ref tp, .ref ou, .int tm, .int om, al, pt, .ref pg, .int wr])), (pg, .inl (G.2.1 0, 4000, .inl pgf))]) (wr := []) (gh_V (wc := [(mm, .inr (5, [tx, .int sz, .int at0, .ref tk, .ref tp, .ref ou, .int tm, .int om, al, pt, .ref pg, .int wr])), (pg, .inl (G.2.1 0, 4000, .inl pgf))]) (As := [.int 60]) (rest := []) ⟨hx, hb, hml, hown, hw⟩ (c_M_say_i l G mm tp tk ou pg sz at0 tm om wr al pt tx pgf 60 hpf (by first | assumption | trivial | omega | (dsimp only; omega)) H.size) (cwV 1 hw (good_V m_723 m_725 ms_52 m_4 m_726) rfl rfl rfl hy_M_say_i ⟨Nat.le_trans (Nat.le_of_ble_eq_true rfl) (Nat.le_add_right 5 _), Nat.le_trans (Nat.le_of_ble_eq_true rfl) (Nat.le_add_right 107 _)⟩) (gP.here (wc := [(mm, .inr (5, [tx, .int sz, .int at0, .ref tk, .ref tp, .ref ou, .int tm, .int om, al, pt, .ref pg, .int wr])), (pg, .inl (G.2.1 0, 4000, .inl pgf))]) hE hP hD hS hA [0, 1] rfl (by decide)) (va_recv hE.1 hP (ci := 5) (q0 := 0) rfl rfl) rfl hl rfl (Nat.le_of_ble_eq_true rfl) d_M_write_p_105 ⟨Nat.le_of_ble_eq_true rfl, Nat.le_of_ble_eq_true rfl⟩) hP hD hS hA [0, 1] [] rfl rfl rfl (by decide) (by decide) (fun u_31 H locs hw_32 hP hD hS => ?_)
  obtain ⟨wr2_33, pgf2_34⟩ := u_31
  try dsimp only at hw_32
  obtain ⟨h_35, h_36⟩ := hw_32
  have hP : va_P G.1 vwCl ([(mm, .inr (5, [tx, .int sz, .int at0, .ref tk, .ref tp, .ref ou, .int tm, .int om, al, pt, .ref pg, .int wr2_33])), (pg, .inl (G.2.1 0, 4000, .inl pgf2_34))] ++ pl) H := hP
  have hD : va_D A ([(mm, .inr (5, [tx, .int sz, .int at0, .ref tk, .ref tp, .ref ou, .int tm, .int om, al, pt, .ref pg, .int wr2_33])), (pg, .inl (G.2.1 0, 4000, .inl pgf2_34))] ++ pl) := hD
  refine lv_aload_n hx hb d_M_write_p_108 rfl (lv_at hl 1 rfl) ?_
  obtain ⟨k_37, hk_37⟩ := List.getElem?_of_mem (show ((pa, .inr (6, [.int 5, v1, v2, v3, .ref q0, v5, v6])) : Nat × va_E) ∈ ([(mm, .inr (5, [tx, .int sz, .int at0, .ref tk, .ref tp, .ref ou, .int tm, .int om, al, pt, .ref pg, .int wr2_33])), (pg, .inl (G.2.1 0, 4000, .inl pgf2_34))] ++ pl) from List.mem_append_right _ hself)
  refine va_get (D := G.1) (ci := 6) (v := .ref q0) (C := R_Part) (T := F_Part) (N := 7) hx hb hw i_Part hown hE.1 hP k_37 hk_37 rfl 4 (by decide) (hw _ m_547) (fun _ h9 => h9) rfl d_M_write_p_109 ?_
  refine lv_astore_n (lv' := [(2, .ref q0), (0, .ref mm), (1, .ref pa)]) hx hb d_M_write_p_112 rfl hl (by decide) rfl (fun ls hl => ?_)
  refine lv_aload_n hx hb d_M_write_p_113 rfl (lv_at hl 0 rfl) ?_
  obtain ⟨k_38, hk_38⟩ := List.getElem?_of_mem (show ((q0, .inl (G.2.1 0, bn, .inl bf)) : Nat × va_E) ∈ ([(mm, .inr (5, [tx, .int sz, .int at0, .ref tk, .ref tp, .ref ou, .int tm, .int om, al, pt, .ref pg, .int wr2_33])), (pg, .inl (G.2.1 0, 4000, .inl pgf2_34))] ++ pl) from List.mem_append_right _ hq0)
  refine va_alen (v := nI bn) hx hb hE.1 hP k_38 0 hk_38 rfl rfl d_M_write_p_114 ?_
  refine lv_istore_n (lv' := [(3, .int (nI bn)), (2, .ref q0), (0, .ref mm), (1, .ref pa)]) hx hb d_M_write_p_115 rfl hl (by decide) rfl (fun ls hl => ?_)
  refine lv_iconst (v := 0) hx hb d_M_write_p_116 (by decide) ?_
  refine lv_istore (lv' := [(4, .int 0), (3, .int (nI bn)), (2, .ref q0), (0, .ref mm), (1, .ref pa)]) hx hb d_M_write_p_117 hl (by decide) rfl (fun ls hl => ?_)
  have tl_0 : (0 : Int32).toInt = 0 := by decide
  exact J_119 _ 0 (nI bn) wr2_33 pgf2_34 h_35 (by first | assumption | trivial | omega | (dsimp only; omega)) (by first | assumption | trivial | omega | (dsimp only; omega)) (by first | assumption | trivial | omega | (dsimp only; omega)) (Nat.lt_succ_self _) _ _ (hP.part [0, 1] rfl) (hD.part [0, 1] (by decide) rfl) hS _ (lv_sub hl [0, 1, 2, 3, 4] rfl)
set_option maxHeartbeats 4000000 in
set_option maxRecDepth 100000 in
theorem s_w8 (l : Launch) (G : GG) (d : Nat) (mm : Nat) (tp : Nat) (tk : Nat) (ou : Nat) (pg : Nat) (sz : Int32) (at0 : Int32) (tm : Int32) (om : Int32) (wr : Int32) (al : Value) (pt : Value) (tx : Value) (pgf : Nat → Int32) (pa : Nat) (w9 : Nat) (x : Int32) (y : Int32) (v3 : Value) (v4 : Value) (v5 : Value) (v6 : Value) (c1 : Nat) (c2 : Nat) (pl : va_W) (hpf : sb_Fit pgf) (hw0 : 0 ≤ wr.toInt ∧ wr.toInt + w9 ≤ 4000) (hself : (pa, .inr (6, [.int 8, .int x, .int y, v3, v4, v5, v6])) ∈ pl) (hn : NumOk x c1 0) (hm : NumOk y c2 0) (hcw : c1 + c2 + 3 ≤ w9) : MV l y_M_write_p b_M_write_p 6 (rm_mw d) G [.ref mm, .ref pa] ([(mm, .inr (5, [tx, .int sz, .int at0, .ref tk, .ref tp, .ref ou, .int tm, .int om, al, pt, .ref pg, .int wr])), (pg, .inl (G.2.1 0, 4000, .inl pgf))] ++ pl) (fun (u : Int32 × (Nat → Int32)) => (sb_Fit u.2) ∧ (wr.toInt ≤ u.1.toInt ∧ u.1.toInt ≤ wr.toInt + w9)) (fun (u : Int32 × (Nat → Int32)) => ([(mm, .inr (5, [tx, .int sz, .int at0, .ref tk, .ref tp, .ref ou, .int tm, .int om, al, pt, .ref pg, .int u.1])), (pg, .inl (G.2.1 0, 4000, .inl u.2))] ++ pl)) 0 0 := by
  refine MV.of (cc := b_M_write_p) (maxL := 6) (C := R_M) (by decide +kernel) rfl (Nat.le_of_ble_eq_true rfl) ?_
  intro p e s m args below meth c A Q H ls hx hb hml hown hw hE hA hP hD hS hin ret hl
  have hl : lv_has ls 6 [(0, .ref mm), (1, .ref pa)] := hl
  have hn1 := hn.1
  have hn2 := hm.1
  refine lv_aload_n hx hb d_M_write_p_0 rfl (lv_at hl 1 rfl) ?_
  obtain ⟨k_1, hk_1⟩ := List.getElem?_of_mem (show ((pa, .inr (6, [.int 8, .int x, .int y, v3, v4, v5, v6])) : Nat × va_E) ∈ ([(mm, .inr (5, [tx, .int sz, .int at0, .ref tk, .ref tp, .ref ou, .int tm, .int om, al, pt, .ref pg, .int wr])), (pg, .inl (G.2.1 0, 4000, .inl pgf))] ++ pl) from List.mem_append_right _ hself)
  refine va_get (D := G.1) (ci := 6) (v := .int 8) (C := R_Part) (T := F_Part) (N := 7) hx hb hw i_Part hown hE.1 hP k_1 hk_1 rfl 0 (by decide) (hw _ m_542) (fun _ h9 => h9) rfl d_M_write_p_1 ?_
  refine lv_tableIn (tgt := 164) hx hb d_M_write_p_4 (by decide) (by decide) rfl (by decide) ?_
  refine lv_aload_n hx hb d_M_write_p_164 rfl (lv_at hl 0 rfl) ?_
  refine lv_aload_n hx hb d_M_write_p_165 rfl (lv_at hl 1 rfl) ?_
  obtain ⟨k_2, hk_2⟩ := List.getElem?_of_mem (show ((pa, .inr (6, [.int 8, .int x, .int y, v3, v4, v5, v6])) : Nat × va_E) ∈ ([(mm, .inr (5, [tx, .int sz, .int at0, .ref tk, .ref tp, .ref ou, .int tm, .int om, al, pt, .ref pg, .int wr])), (pg, .inl (G.2.1 0, 4000, .inl pgf))] ++ pl) from List.mem_append_right _ hself)
  refine va_get (D := G.1) (ci := 6) (v := .int x) (C := R_Part) (T := F_Part) (N := 7) hx hb hw i_Part hown hE.1 hP k_2 hk_2 rfl 1 (by decide) (hw _ m_543) (fun _ h9 => h9) rfl d_M_write_p_166 ?_
  refine lv_iconst (v := 1) hx hb d_M_write_p_169 (by decide) ?_
  refine gq_v (X := [(mm, .inr (5, [tx, .int sz, .int at0, .ref tk, .ref tp, .ref ou, .int tm, .int om, al, pt, .ref pg, .int wr])), (pg, .inl (G.2.1 0, 4000, .inl pgf))]) (wr := []) (gh_V (wc := [(mm, .inr (5, [tx, .int sz, .int at0, .ref tk, .ref tp, .ref ou, .int tm, .int om, al, pt, .ref pg, .int wr])), (pg, .inl (G.2.1 0, 4000, .inl pgf))]) (As := [.int x, .int 1]) (rest := []) ⟨hx, hb, hml, hown, hw⟩ (c_M_number l G mm tp tk ou pg sz at0 tm om wr al pt tx pgf x c1 0 hpf hn.1 hn.2 (by first | assumption | trivial | omega | (dsimp only; omega)) H.size) (cwV 2 hw (good_V m_727 m_729 ms_53 m_4 m_730) rfl rfl rfl hy_M_number ⟨Nat.le_trans (Nat.le_of_ble_eq_true rfl) (Nat.le_add_right 5 _), Nat.le_trans (Nat.le_of_ble_eq_true rfl) (Nat.le_add_right 107 _)⟩) (gP.here (wc := [(mm, .inr (5, [tx, .int sz, .int at0, .ref tk, .ref tp, .ref ou, .int tm, .int om, al, pt, .ref pg, .int wr])), (pg, .inl (G.2.1 0, 4000, .inl pgf))]) hE hP hD hS hA [0, 1] rfl (by decide)) (va_recv hE.1 hP (ci := 5) (q0 := 0) rfl rfl) rfl hl rfl (Nat.le_of_ble_eq_true rfl) d_M_write_p_170 ⟨Nat.le_of_ble_eq_true rfl, Nat.le_of_ble_eq_true rfl⟩) hP hD hS hA [0, 1] [] rfl rfl rfl (by decide) (by decide) (fun u_4 H locs hw_5 hP hD hS => ?_)
  obtain ⟨wr2_6, pgf2_7⟩ := u_4
  try dsimp only at hw_5
  obtain ⟨h_8, h_9⟩ := hw_5
  have hP : va_P G.1 vwCl ([(mm, .inr (5, [tx, .int sz, .int at0, .ref tk, .ref tp, .ref ou, .int tm, .int om, al, pt, .ref pg, .int wr2_6])), (pg, .inl (G.2.1 0, 4000, .inl pgf2_7))] ++ pl) H := hP
  have hD : va_D A ([(mm, .inr (5, [tx, .int sz, .int at0, .ref tk, .ref tp, .ref ou, .int tm, .int om, al, pt, .ref pg, .int wr2_6])), (pg, .inl (G.2.1 0, 4000, .inl pgf2_7))] ++ pl) := hD
  refine lv_aload_n hx hb d_M_write_p_173 rfl (lv_at hl 0 rfl) ?_
  refine lv_bipush (v := 32) hx hb d_M_write_p_174 (by decide) ?_
  refine gq_v (X := [(mm, .inr (5, [tx, .int sz, .int at0, .ref tk, .ref tp, .ref ou, .int tm, .int om, al, pt, .ref pg, .int wr2_6])), (pg, .inl (G.2.1 0, 4000, .inl pgf2_7))]) (wr := []) (gh_V (wc := [(mm, .inr (5, [tx, .int sz, .int at0, .ref tk, .ref tp, .ref ou, .int tm, .int om, al, pt, .ref pg, .int wr2_6])), (pg, .inl (G.2.1 0, 4000, .inl pgf2_7))]) (As := [.int 32]) (rest := []) ⟨hx, hb, hml, hown, hw⟩ (c_M_say_i l G mm tp tk ou pg sz at0 tm om wr2_6 al pt tx pgf2_7 32 h_8 (by first | assumption | trivial | omega | (dsimp only; omega)) H.size) (cwV 1 hw (good_V m_723 m_725 ms_52 m_4 m_726) rfl rfl rfl hy_M_say_i ⟨Nat.le_trans (Nat.le_of_ble_eq_true rfl) (Nat.le_add_right 5 _), Nat.le_trans (Nat.le_of_ble_eq_true rfl) (Nat.le_add_right 107 _)⟩) (gP.here (wc := [(mm, .inr (5, [tx, .int sz, .int at0, .ref tk, .ref tp, .ref ou, .int tm, .int om, al, pt, .ref pg, .int wr2_6])), (pg, .inl (G.2.1 0, 4000, .inl pgf2_7))]) hE hP hD hS hA [0, 1] rfl (by decide)) (va_recv hE.1 hP (ci := 5) (q0 := 0) rfl rfl) rfl hl rfl (Nat.le_of_ble_eq_true rfl) d_M_write_p_176 ⟨Nat.le_of_ble_eq_true rfl, Nat.le_of_ble_eq_true rfl⟩) hP hD hS hA [0, 1] [] rfl rfl rfl (by decide) (by decide) (fun u_11 H locs hw_12 hP hD hS => ?_)
  obtain ⟨wr2_13, pgf2_14⟩ := u_11
  try dsimp only at hw_12
  obtain ⟨h_15, h_16⟩ := hw_12
  have hP : va_P G.1 vwCl ([(mm, .inr (5, [tx, .int sz, .int at0, .ref tk, .ref tp, .ref ou, .int tm, .int om, al, pt, .ref pg, .int wr2_13])), (pg, .inl (G.2.1 0, 4000, .inl pgf2_14))] ++ pl) H := hP
  have hD : va_D A ([(mm, .inr (5, [tx, .int sz, .int at0, .ref tk, .ref tp, .ref ou, .int tm, .int om, al, pt, .ref pg, .int wr2_13])), (pg, .inl (G.2.1 0, 4000, .inl pgf2_14))] ++ pl) := hD
  refine lv_aload_n hx hb d_M_write_p_179 rfl (lv_at hl 0 rfl) ?_
  refine lv_aload_n hx hb d_M_write_p_180 rfl (lv_at hl 1 rfl) ?_
  obtain ⟨k_17, hk_17⟩ := List.getElem?_of_mem (show ((pa, .inr (6, [.int 8, .int x, .int y, v3, v4, v5, v6])) : Nat × va_E) ∈ ([(mm, .inr (5, [tx, .int sz, .int at0, .ref tk, .ref tp, .ref ou, .int tm, .int om, al, pt, .ref pg, .int wr2_13])), (pg, .inl (G.2.1 0, 4000, .inl pgf2_14))] ++ pl) from List.mem_append_right _ hself)
  refine va_get (D := G.1) (ci := 6) (v := .int y) (C := R_Part) (T := F_Part) (N := 7) hx hb hw i_Part hown hE.1 hP k_17 hk_17 rfl 2 (by decide) (hw _ m_544) (fun _ h9 => h9) rfl d_M_write_p_181 ?_
  refine lv_iconst (v := 1) hx hb d_M_write_p_184 (by decide) ?_
  refine gq_v (X := [(mm, .inr (5, [tx, .int sz, .int at0, .ref tk, .ref tp, .ref ou, .int tm, .int om, al, pt, .ref pg, .int wr2_13])), (pg, .inl (G.2.1 0, 4000, .inl pgf2_14))]) (wr := []) (gh_V (wc := [(mm, .inr (5, [tx, .int sz, .int at0, .ref tk, .ref tp, .ref ou, .int tm, .int om, al, pt, .ref pg, .int wr2_13])), (pg, .inl (G.2.1 0, 4000, .inl pgf2_14))]) (As := [.int y, .int 1]) (rest := []) ⟨hx, hb, hml, hown, hw⟩ (c_M_number l G mm tp tk ou pg sz at0 tm om wr2_13 al pt tx pgf2_14 y c2 0 h_15 hm.1 hm.2 (by first | assumption | trivial | omega | (dsimp only; omega)) H.size) (cwV 2 hw (good_V m_727 m_729 ms_53 m_4 m_730) rfl rfl rfl hy_M_number ⟨Nat.le_trans (Nat.le_of_ble_eq_true rfl) (Nat.le_add_right 5 _), Nat.le_trans (Nat.le_of_ble_eq_true rfl) (Nat.le_add_right 107 _)⟩) (gP.here (wc := [(mm, .inr (5, [tx, .int sz, .int at0, .ref tk, .ref tp, .ref ou, .int tm, .int om, al, pt, .ref pg, .int wr2_13])), (pg, .inl (G.2.1 0, 4000, .inl pgf2_14))]) hE hP hD hS hA [0, 1] rfl (by decide)) (va_recv hE.1 hP (ci := 5) (q0 := 0) rfl rfl) rfl hl rfl (Nat.le_of_ble_eq_true rfl) d_M_write_p_185 ⟨Nat.le_of_ble_eq_true rfl, Nat.le_of_ble_eq_true rfl⟩) hP hD hS hA [0, 1] [] rfl rfl rfl (by decide) (by decide) (fun u_19 H locs hw_20 hP hD hS => ?_)
  obtain ⟨wr2_21, pgf2_22⟩ := u_19
  try dsimp only at hw_20
  obtain ⟨h_23, h_24⟩ := hw_20
  have hP : va_P G.1 vwCl ([(mm, .inr (5, [tx, .int sz, .int at0, .ref tk, .ref tp, .ref ou, .int tm, .int om, al, pt, .ref pg, .int wr2_21])), (pg, .inl (G.2.1 0, 4000, .inl pgf2_22))] ++ pl) H := hP
  have hD : va_D A ([(mm, .inr (5, [tx, .int sz, .int at0, .ref tk, .ref tp, .ref ou, .int tm, .int om, al, pt, .ref pg, .int wr2_21])), (pg, .inl (G.2.1 0, 4000, .inl pgf2_22))] ++ pl) := hD
  refine lv_aload_n hx hb d_M_write_p_188 rfl (lv_at hl 0 rfl) ?_
  refine va_ldcS (q := (G.2.2.1 13)) hx hb hown (hE.2.1 13 (by decide)).2 d_M_write_p_189 ?_
  have tk_13 : (nI (lenS.getD 13 0)).toInt = 2 := by decide
  refine gq_v (X := [(mm, .inr (5, [tx, .int sz, .int at0, .ref tk, .ref tp, .ref ou, .int tm, .int om, al, pt, .ref pg, .int wr2_21])), (pg, .inl (G.2.1 0, 4000, .inl pgf2_22))]) (wr := []) (gh_V (wc := [(mm, .inr (5, [tx, .int sz, .int at0, .ref tk, .ref tp, .ref ou, .int tm, .int om, al, pt, .ref pg, .int wr2_21])), (pg, .inl (G.2.1 0, 4000, .inl pgf2_22))]) (As := [.ref (G.2.2.1 13)]) (rest := []) ⟨hx, hb, hml, hown, hw⟩ (c_M_say_s l G mm tp tk ou pg sz at0 tm om wr2_21 al pt tx pgf2_22 13 h_23 (by first | assumption | trivial | omega | (dsimp only; omega)) (by decide) H.size) (cwV 1 hw (good_V m_719 m_721 ms_51 m_4 m_722) rfl rfl rfl hy_M_say_s ⟨Nat.le_trans (Nat.le_of_ble_eq_true rfl) (Nat.le_add_right 5 _), Nat.le_trans (Nat.le_of_ble_eq_true rfl) (Nat.le_add_right 107 _)⟩) (gP.here (wc := [(mm, .inr (5, [tx, .int sz, .int at0, .ref tk, .ref tp, .ref ou, .int tm, .int om, al, pt, .ref pg, .int wr2_21])), (pg, .inl (G.2.1 0, 4000, .inl pgf2_22))]) hE hP hD hS hA [0, 1] rfl (by decide)) (va_recv hE.1 hP (ci := 5) (q0 := 0) rfl rfl) rfl hl rfl (Nat.le_of_ble_eq_true rfl) d_M_write_p_191 ⟨Nat.le_of_ble_eq_true rfl, Nat.le_of_ble_eq_true rfl⟩) hP hD hS hA [0, 1] [] rfl rfl rfl (by decide) (by decide) (fun u_26 H locs hw_27 hP hD hS => ?_)
  obtain ⟨wr2_28, pgf2_29⟩ := u_26
  try dsimp only at hw_27
  obtain ⟨h_30, h_31⟩ := hw_27
  have hP : va_P G.1 vwCl ([(mm, .inr (5, [tx, .int sz, .int at0, .ref tk, .ref tp, .ref ou, .int tm, .int om, al, pt, .ref pg, .int wr2_28])), (pg, .inl (G.2.1 0, 4000, .inl pgf2_29))] ++ pl) H := hP
  have hD : va_D A ([(mm, .inr (5, [tx, .int sz, .int at0, .ref tk, .ref tp, .ref ou, .int tm, .int om, al, pt, .ref pg, .int wr2_28])), (pg, .inl (G.2.1 0, 4000, .inl pgf2_29))] ++ pl) := hD
  exact ret (wr2_28, pgf2_29) (Nat.le_of_ble_eq_true rfl) (Nat.le_of_ble_eq_true rfl) d_M_write_p_194 ⟨h_30, (by first | assumption | trivial | omega | (dsimp only; omega))⟩ (hP.part (cx := [(mm, .inr (5, [tx, .int sz, .int at0, .ref tk, .ref tp, .ref ou, .int tm, .int om, al, pt, .ref pg, .int wr2_28])), (pg, .inl (G.2.1 0, 4000, .inl pgf2_29))]) [0, 1] rfl) (hD.part (cx := [(mm, .inr (5, [tx, .int sz, .int at0, .ref tk, .ref tp, .ref ou, .int tm, .int om, al, pt, .ref pg, .int wr2_28])), (pg, .inl (G.2.1 0, 4000, .inl pgf2_29))]) [0, 1] (by decide) rfl) hS
set_option maxHeartbeats 4000000 in
set_option maxRecDepth 100000 in
theorem s_w6 (l : Launch) (G : GG) (d : Nat) (ih : C_mw l G d) (mm : Nat) (tp : Nat) (tk : Nat) (ou : Nat) (pg : Nat) (sz : Int32) (at0 : Int32) (tm : Int32) (om : Int32) (wr : Int32) (al : Value) (pt : Value) (tx : Value) (pgf : Nat → Int32) (pa : Nat) (w9 : Nat) (m0 : Nat) (q0 : Nat) (n9 : Nat) (g9 : Nat → Option Nat) (ws : Nat → Nat) (v1 : Value) (v2 : Value) (v4 : Value) (v6 : Value) (pl : va_W) (hpf : sb_Fit pgf) (hw0 : 0 ≤ wr.toInt ∧ wr.toInt + w9 ≤ 4000) (hself : (pa, .inr (6, [.int 6, v1, v2, .int (nI m0), v4, .ref q0, v6])) ∈ pl) (hq0 : cellI G q0 n9 g9 ∈ pl) (hm0 : m0 ≤ 60 ∧ m0 ≤ n9 ∧ n9 ≤ 64) (hI : ∀ j, j < m0 → ∃ c, g9 j = some c ∧ GP G pl d (ws j) c) (hsw : 2 + sm (fun j => ws j + 1) m0 ≤ w9) : MV l y_M_write_p b_M_write_p 6 (rm_mw (d + 1)) G [.ref mm, .ref pa] ([(mm, .inr (5, [tx, .int sz, .int at0, .ref tk, .ref tp, .ref ou, .int tm, .int om, al, pt, .ref pg, .int wr])), (pg, .inl (G.2.1 0, 4000, .inl pgf))] ++ pl) (fun (u : Int32 × (Nat → Int32)) => (sb_Fit u.2) ∧ (wr.toInt ≤ u.1.toInt ∧ u.1.toInt ≤ wr.toInt + w9)) (fun (u : Int32 × (Nat → Int32)) => ([(mm, .inr (5, [tx, .int sz, .int at0, .ref tk, .ref tp, .ref ou, .int tm, .int om, al, pt, .ref pg, .int u.1])), (pg, .inl (G.2.1 0, 4000, .inl u.2))] ++ pl)) 0 0 := by
  refine MV.of (cc := b_M_write_p) (maxL := 6) (C := R_M) (by decide +kernel) rfl (Nat.le_of_ble_eq_true rfl) ?_
  intro p e s m args below meth c A Q H ls hx hb hml hown hw hE hA hP hD hS hin ret hl
  have hl : lv_has ls 6 [(0, .ref mm), (1, .ref pa)] := hl
  have hm9 := z_n (n := m0) (by omega)
  have J_217 : ∀ (fu : Nat) (x2_217 : Int32) (wr2_217 : Int32) (pgf2_217 : Nat → Int32) (hj0_217 : sb_Fit pgf2_217) (hk0_217 : 0 ≤ x2_217.toInt ∧ x2_217.toInt ≤ m0) (hk1_217 : wr.toInt ≤ wr2_217.toInt) (hk2_217 : wr2_217.toInt ≤ wr.toInt + 1 + sm (fun j => ws j + 1) x2_217.toNatClampNeg), ((m0 : Int) - x2_217.toInt).toNat < fu → ∀ (H : Heap) (locs : List Loc), va_P G.1 vwCl ([(mm, .inr (5, [tx, .int sz, .int at0, .ref tk, .ref tp, .ref ou, .int tm, .int om, al, pt, .ref pg, .int wr2_217])), (pg, .inl (G.2.1 0, 4000, .inl pgf2_217))] ++ pl) H → va_D A ([(mm, .inr (5, [tx, .int sz, .int at0, .ref tk, .ref tp, .ref ou, .int tm, .int om, al, pt, .ref pg, .int wr2_217])), (pg, .inl (G.2.1 0, 4000, .inl pgf2_217))] ++ pl) → va_S A s.heap H locs → ∀ ls : Array Slot, lv_has ls 6 [(2, .int x2_217), (0, .ref mm), (1, .ref pa)] → W p l e (rm_mw (d + 1)) s m args below meth c H locs 0 0 Q (F0 m 217 ls []) := by
    intro fu
    induction fu with
    | zero =>
      intro x2_217 wr2_217 pgf2_217 hj0_217 hk0_217 hk1_217 hk2_217 hm
      exact absurd hm (Nat.not_lt_zero _)
    | succ fu ih_217 =>
      intro x2_217 wr2_217 pgf2_217 hj0_217 hk0_217 hk1_217 hk2_217 hm_217 H locs hP hD hS ls hl
      refine lv_iload_n hx hb d_M_write_p_217 rfl (lv_at hl 0 rfl) ?_
      refine lv_aload_n hx hb d_M_write_p_218 rfl (lv_at hl 2 rfl) ?_
      obtain ⟨k_1, hk_1⟩ := List.getElem?_of_mem (show ((pa, .inr (6, [.int 6, v1, v2, .int (nI m0), v4, .ref q0, v6])) : Nat × va_E) ∈ ([(mm, .inr (5, [tx, .int sz, .int at0, .ref tk, .ref tp, .ref ou, .int tm, .int om, al, pt, .ref pg, .int wr2_217])), (pg, .inl (G.2.1 0, 4000, .inl pgf2_217))] ++ pl) from List.mem_append_right _ hself)
      refine va_get (D := G.1) (ci := 6) (v := .int (nI m0)) (C := R_Part) (T := F_Part) (N := 7) hx hb hw i_Part hown hE.1 hP k_1 hk_1 rfl 3 (by decide) (hw _ m_546) (fun _ h9 => h9) rfl d_M_write_p_219 ?_
      refine lv_icmp_ge (tgt := 282) hx hb d_M_write_p_222 (by decide) (fun c_2 => ?_) (fun c_2 => ?_)
      · have tc_2 := z_le.mp c_2
        have hsm8 := sm_end (f := fun j => ws j + 1) (x := x2_217) (m := m0) (by omega) (by omega)
        refine lv_aload_n hx hb d_M_write_p_282 rfl (lv_at hl 1 rfl) ?_
        refine lv_aload_n hx hb d_M_write_p_283 rfl (lv_at hl 2 rfl) ?_
        obtain ⟨k_3, hk_3⟩ := List.getElem?_of_mem (show ((pa, .inr (6, [.int 6, v1, v2, .int (nI m0), v4, .ref q0, v6])) : Nat × va_E) ∈ ([(mm, .inr (5, [tx, .int sz, .int at0, .ref tk, .ref tp, .ref ou, .int tm, .int om, al, pt, .ref pg, .int wr2_217])), (pg, .inl (G.2.1 0, 4000, .inl pgf2_217))] ++ pl) from List.mem_append_right _ hself)
        refine va_get (D := G.1) (ci := 6) (v := .int 6) (C := R_Part) (T := F_Part) (N := 7) hx hb hw i_Part hown hE.1 hP k_3 hk_3 rfl 0 (by decide) (hw _ m_542) (fun _ h9 => h9) rfl d_M_write_p_284 ?_
        refine lv_bipush (v := 6) hx hb d_M_write_p_287 (by decide) ?_
        refine lv_icmp_ne (tgt := 297) hx hb d_M_write_p_289 (by decide) (fun c_4 => ?_) (fun c_4 => ?_)
        · exact absurd c_4 (by decide)
        · have tl_6 : (6 : Int32).toInt = 6 := by decide
          have tc_4 := congrArg Int32.toInt c_4
          refine va_ldcS (q := (G.2.2.1 16)) hx hb hown (hE.2.1 16 (by decide)).2 d_M_write_p_292 ?_
          refine lv_goto (tgt := 299) hx hb d_M_write_p_294 (by decide) ?_
          have tk_16 : (nI (lenS.getD 16 0)).toInt = 1 := by decide
          refine gq_v (X := [(mm, .inr (5, [tx, .int sz, .int at0, .ref tk, .ref tp, .ref ou, .int tm, .int om, al, pt, .ref pg, .int wr2_217])), (pg, .inl (G.2.1 0, 4000, .inl pgf2_217))]) (wr := []) (gh_V (wc := [(mm, .inr (5, [tx, .int sz, .int at0, .ref tk, .ref tp, .ref ou, .int tm, .int om, al, pt, .ref pg, .int wr2_217])), (pg, .inl (G.2.1 0, 4000, .inl pgf2_217))]) (As := [.ref (G.2.2.1 16)]) (rest := []) ⟨hx, hb, hml, hown, hw⟩ (c_M_say_s l G mm tp tk ou pg sz at0 tm om wr2_217 al pt tx pgf2_217 16 hj0_217 (by first | assumption | trivial | omega | (dsimp only; omega)) (by decide) H.size) (cwV 1 hw (good_V m_719 m_721 ms_51 m_4 m_722) rfl rfl rfl hy_M_say_s ⟨Nat.le_trans (Nat.le_of_ble_eq_true rfl) (Nat.le_add_right 5 _), Nat.le_trans (Nat.le_of_ble_eq_true rfl) (Nat.le_add_right 107 _)⟩) (gP.here (wc := [(mm, .inr (5, [tx, .int sz, .int at0, .ref tk, .ref tp, .ref ou, .int tm, .int om, al, pt, .ref pg, .int wr2_217])), (pg, .inl (G.2.1 0, 4000, .inl pgf2_217))]) hE hP hD hS hA [0, 1] rfl (by decide)) (va_recv hE.1 hP (ci := 5) (q0 := 0) rfl rfl) rfl hl rfl (Nat.le_of_ble_eq_true rfl) d_M_write_p_299 ⟨Nat.le_of_ble_eq_true rfl, Nat.le_of_ble_eq_true rfl⟩) hP hD hS hA [0, 1] [] rfl rfl rfl (by decide) (by decide) (fun u_6 H locs hw_7 hP hD hS => ?_)
          obtain ⟨wr2_8, pgf2_9⟩ := u_6
          try dsimp only at hw_7
          obtain ⟨h_10, h_11⟩ := hw_7
          have hP : va_P G.1 vwCl ([(mm, .inr (5, [tx, .int sz, .int at0, .ref tk, .ref tp, .ref ou, .int tm, .int om, al, pt, .ref pg, .int wr2_8])), (pg, .inl (G.2.1 0, 4000, .inl pgf2_9))] ++ pl) H := hP
          have hD : va_D A ([(mm, .inr (5, [tx, .int sz, .int at0, .ref tk, .ref tp, .ref ou, .int tm, .int om, al, pt, .ref pg, .int wr2_8])), (pg, .inl (G.2.1 0, 4000, .inl pgf2_9))] ++ pl) := hD
          exact ret (wr2_8, pgf2_9) (Nat.le_of_ble_eq_true rfl) (Nat.le_of_ble_eq_true rfl) d_M_write_p_302 ⟨h_10, (by first | assumption | trivial | omega | (dsimp only; omega))⟩ (hP.part (cx := [(mm, .inr (5, [tx, .int sz, .int at0, .ref tk, .ref tp, .ref ou, .int tm, .int om, al, pt, .ref pg, .int wr2_8])), (pg, .inl (G.2.1 0, 4000, .inl pgf2_9))]) [0, 1] rfl) (hD.part (cx := [(mm, .inr (5, [tx, .int sz, .int at0, .ref tk, .ref tp, .ref ou, .int tm, .int om, al, pt, .ref pg, .int wr2_8])), (pg, .inl (G.2.1 0, 4000, .inl pgf2_9))]) [0, 1] (by decide) rfl) hS
      · have tc_2 := z_nle c_2
        have hsm9 := sm_in (f := fun j => ws j + 1) (cl_lt (x := x2_217) (m := m0) (by omega) (by omega))
        try dsimp only at hsm9
        refine lv_iload_n hx hb d_M_write_p_225 rfl (lv_at hl 0 rfl) ?_
        refine lv_if_le (tgt := 235) hx hb d_M_write_p_226 (by decide) (fun c_12 => ?_) (fun c_12 => ?_)
        · have tl_0 : (0 : Int32).toInt = 0 := by decide
          have tc_12 := z_le.mp c_12
          refine lv_aload_n hx hb d_M_write_p_235 rfl (lv_at hl 2 rfl) ?_
          obtain ⟨k_13, hk_13⟩ := List.getElem?_of_mem (show ((pa, .inr (6, [.int 6, v1, v2, .int (nI m0), v4, .ref q0, v6])) : Nat × va_E) ∈ ([(mm, .inr (5, [tx, .int sz, .int at0, .ref tk, .ref tp, .ref ou, .int tm, .int om, al, pt, .ref pg, .int wr2_217])), (pg, .inl (G.2.1 0, 4000, .inl pgf2_217))] ++ pl) from List.mem_append_right _ hself)
          refine va_get (D := G.1) (ci := 6) (v := .int 6) (C := R_Part) (T := F_Part) (N := 7) hx hb hw i_Part hown hE.1 hP k_13 hk_13 rfl 0 (by decide) (hw _ m_542) (fun _ h9 => h9) rfl d_M_write_p_236 ?_
          refine lv_bipush (v := 6) hx hb d_M_write_p_239 (by decide) ?_
          refine lv_icmp_eq (tgt := 266) hx hb d_M_write_p_241 (by decide) (fun c_14 => ?_) (fun c_14 => ?_)
          · have tl_6 : (6 : Int32).toInt = 6 := by decide
            have tc_14 := congrArg Int32.toInt c_14
            refine lv_aload_n hx hb d_M_write_p_266 rfl (lv_at hl 1 rfl) ?_
            refine lv_aload_n hx hb d_M_write_p_267 rfl (lv_at hl 2 rfl) ?_
            obtain ⟨k_15, hk_15⟩ := List.getElem?_of_mem (show ((pa, .inr (6, [.int 6, v1, v2, .int (nI m0), v4, .ref q0, v6])) : Nat × va_E) ∈ ([(mm, .inr (5, [tx, .int sz, .int at0, .ref tk, .ref tp, .ref ou, .int tm, .int om, al, pt, .ref pg, .int wr2_217])), (pg, .inl (G.2.1 0, 4000, .inl pgf2_217))] ++ pl) from List.mem_append_right _ hself)
            refine va_get (D := G.1) (ci := 6) (v := .ref q0) (C := R_Part) (T := F_Part) (N := 7) hx hb hw i_Part hown hE.1 hP k_15 hk_15 rfl 5 (by decide) (hw _ m_549) (fun _ h9 => h9) rfl d_M_write_p_268 ?_
            refine lv_iload_n hx hb d_M_write_p_271 rfl (lv_at hl 0 rfl) ?_
            obtain ⟨k_16, hk_16⟩ := List.getElem?_of_mem (show ((q0, .inl (G.2.1 2, n9, .inr (.inr (.inr (.inr g9))))) : Nat × va_E) ∈ ([(mm, .inr (5, [tx, .int sz, .int at0, .ref tk, .ref tp, .ref ou, .int tm, .int om, al, pt, .ref pg, .int wr2_217])), (pg, .inl (G.2.1 0, 4000, .inl pgf2_217))] ++ pl) from List.mem_append_right _ hq0)
            refine va_aldq hx hb hE.1 hP k_16 2 hk_16 rfl (i := x2_217) (z_in (by omega) (by omega)) d_M_write_p_272 ?_
            obtain ⟨c9, hc9, hg9⟩ := hI _ (cl_lt (x := x2_217) (by omega) (by omega))
            obtain ⟨fs9, hf9⟩ := hg9.cell
            rw [hc9]
            refine gp_v (X := [(mm, .inr (5, [tx, .int sz, .int at0, .ref tk, .ref tp, .ref ou, .int tm, .int om, al, pt, .ref pg, .int wr2_217])), (pg, .inl (G.2.1 0, 4000, .inl pgf2_217))]) (cx := [(mm, .inr (5, [tx, .int sz, .int at0, .ref tk, .ref tp, .ref ou, .int tm, .int om, al, pt, .ref pg, .int wr2_217])), (pg, .inl (G.2.1 0, 4000, .inl pgf2_217))]) (wr := []) (rx := (fun (u : Int32 × (Nat → Int32)) => [(mm, .inr (5, [tx, .int sz, .int at0, .ref tk, .ref tp, .ref ou, .int tm, .int om, al, pt, .ref pg, .int u.1])), (pg, .inl (G.2.1 0, 4000, .inl u.2))])) (pl1 := (fun (u : Int32 × (Nat → Int32)) => pl)) (gh_V (wc := ([(mm, .inr (5, [tx, .int sz, .int at0, .ref tk, .ref tp, .ref ou, .int tm, .int om, al, pt, .ref pg, .int wr2_217])), (pg, .inl (G.2.1 0, 4000, .inl pgf2_217))] ++ pl)) (As := [.ref c9]) (rest := []) ⟨hx, hb, hml, hown, hw⟩ (ih mm tp tk ou pg sz at0 tm om wr2_217 al pt tx pgf2_217 c9 (ws x2_217.toNatClampNeg) pl hj0_217 (by first | assumption | trivial | omega | (dsimp only; omega)) hg9 H.size) (cwV 1 hw (good_V m_715 m_717 ms_50 m_4 m_718) rfl rfl rfl hy_M_write_p ⟨by show 5 + d + 1 ≤ 5 + (d + 1); omega, by show 8 + (6 + 11) + (107 + 25 * d) ≤ 107 + 25 * (d + 1); omega⟩) (gp_here (X := [(mm, .inr (5, [tx, .int sz, .int at0, .ref tk, .ref tp, .ref ou, .int tm, .int om, al, pt, .ref pg, .int wr2_217])), (pg, .inl (G.2.1 0, 4000, .inl pgf2_217))]) (cx := [(mm, .inr (5, [tx, .int sz, .int at0, .ref tk, .ref tp, .ref ou, .int tm, .int om, al, pt, .ref pg, .int wr2_217])), (pg, .inl (G.2.1 0, 4000, .inl pgf2_217))]) hE hP hD hS hA [0, 1] rfl (by decide)) (va_recv hE.1 hP (ci := 5) (q0 := 0) rfl rfl) rfl hl rfl (Nat.le_of_ble_eq_true rfl) d_M_write_p_273 ⟨Nat.le_of_ble_eq_true rfl, Nat.le_of_ble_eq_true rfl⟩) hP hD hS hA [0, 1] [] rfl rfl (by decide) (by decide) (fun u_18 H locs hw_19 hP hD hS => ?_)
            obtain ⟨wr2_20, pgf2_21⟩ := u_18
            try dsimp only at hw_19
            obtain ⟨h_22, h_23⟩ := hw_19
            have hP : va_P G.1 vwCl ([(mm, .inr (5, [tx, .int sz, .int at0, .ref tk, .ref tp, .ref ou, .int tm, .int om, al, pt, .ref pg, .int wr2_20])), (pg, .inl (G.2.1 0, 4000, .inl pgf2_21))] ++ pl) H := hP
            have hD : va_D A ([(mm, .inr (5, [tx, .int sz, .int at0, .ref tk, .ref tp, .ref ou, .int tm, .int om, al, pt, .ref pg, .int wr2_20])), (pg, .inl (G.2.1 0, 4000, .inl pgf2_21))] ++ pl) := hD
            obtain ⟨y_24, ey_24⟩ : ∃ y : Int32, y = x2_217 + 1 := ⟨_, rfl⟩
            have tl_1 : (1 : Int32).toInt = 1 := by decide
            have ty_24 := z_addE ey_24
            refine lv_iinc (v := y_24) (lv' := [(2, .int y_24), (0, .ref mm), (1, .ref pa)]) hx hb d_M_write_p_276 hl (k := 0) rfl (by rw [ey_24]; rfl) (by decide) rfl (fun ls hl => ?_)
            refine lv_goto (tgt := 217) hx hb d_M_write_p_279 (by decide) ?_
            exact ih_217 y_24 wr2_20 pgf2_21 h_22 (by first | assumption | trivial | omega | (dsimp only; omega)) (by first | assumption | trivial | omega | (dsimp only; omega)) (by rw [sm_step (x := x2_217) (by omega) (by omega)]; (try dsimp only); omega) (by omega) _ _ (hP.part [0, 1] rfl) (hD.part [0, 1] (by decide) rfl) hS _ (lv_sub hl [0, 1, 2] rfl)
          · exact absurd (by decide) c_14
        · have tl_0 : (0 : Int32).toInt = 0 := by decide
          have tc_12 := z_nle c_12
          refine lv_aload_n hx hb d_M_write_p_229 rfl (lv_at hl 1 rfl) ?_
          refine lv_bipush (v := 32) hx hb d_M_write_p_230 (by decide) ?_
          refine gq_v (X := [(mm, .inr (5, [tx, .int sz, .int at0, .ref tk, .ref tp, .ref ou, .int tm, .int om, al, pt, .ref pg, .int wr2_217])), (pg, .inl (G.2.1 0, 4000, .inl pgf2_217))]) (wr := []) (gh_V (wc := [(mm, .inr (5, [tx, .int sz, .int at0, .ref tk, .ref tp, .ref ou, .int tm, .int om, al, pt, .ref pg, .int wr2_217])), (pg, .inl (G.2.1 0, 4000, .inl pgf2_217))]) (As := [.int 32]) (rest := []) ⟨hx, hb, hml, hown, hw⟩ (c_M_say_i l G mm tp tk ou pg sz at0 tm om wr2_217 al pt tx pgf2_217 32 hj0_217 (by first | assumption | trivial | omega | (dsimp only; omega)) H.size) (cwV 1 hw (good_V m_723 m_725 ms_52 m_4 m_726) rfl rfl rfl hy_M_say_i ⟨Nat.le_trans (Nat.le_of_ble_eq_true rfl) (Nat.le_add_right 5 _), Nat.le_trans (Nat.le_of_ble_eq_true rfl) (Nat.le_add_right 107 _)⟩) (gP.here (wc := [(mm, .inr (5, [tx, .int sz, .int at0, .ref tk, .ref tp, .ref ou, .int tm, .int om, al, pt, .ref pg, .int wr2_217])), (pg, .inl (G.2.1 0, 4000, .inl pgf2_217))]) hE hP hD hS hA [0, 1] rfl (by decide)) (va_recv hE.1 hP (ci := 5) (q0 := 0) rfl rfl) rfl hl rfl (Nat.le_of_ble_eq_true rfl) d_M_write_p_232 ⟨Nat.le_of_ble_eq_true rfl, Nat.le_of_ble_eq_true rfl⟩) hP hD hS hA [0, 1] [] rfl rfl rfl (by decide) (by decide) (fun u_26 H locs hw_27 hP hD hS => ?_)
          obtain ⟨wr2_28, pgf2_29⟩ := u_26
          try dsimp only at hw_27
          obtain ⟨h_30, h_31⟩ := hw_27
          have hP : va_P G.1 vwCl ([(mm, .inr (5, [tx, .int sz, .int at0, .ref tk, .ref tp, .ref ou, .int tm, .int om, al, pt, .ref pg, .int wr2_28])), (pg, .inl (G.2.1 0, 4000, .inl pgf2_29))] ++ pl) H := hP
          have hD : va_D A ([(mm, .inr (5, [tx, .int sz, .int at0, .ref tk, .ref tp, .ref ou, .int tm, .int om, al, pt, .ref pg, .int wr2_28])), (pg, .inl (G.2.1 0, 4000, .inl pgf2_29))] ++ pl) := hD
          refine lv_aload_n hx hb d_M_write_p_235 rfl (lv_at hl 2 rfl) ?_
          obtain ⟨k_32, hk_32⟩ := List.getElem?_of_mem (show ((pa, .inr (6, [.int 6, v1, v2, .int (nI m0), v4, .ref q0, v6])) : Nat × va_E) ∈ ([(mm, .inr (5, [tx, .int sz, .int at0, .ref tk, .ref tp, .ref ou, .int tm, .int om, al, pt, .ref pg, .int wr2_28])), (pg, .inl (G.2.1 0, 4000, .inl pgf2_29))] ++ pl) from List.mem_append_right _ hself)
          refine va_get (D := G.1) (ci := 6) (v := .int 6) (C := R_Part) (T := F_Part) (N := 7) hx hb hw i_Part hown hE.1 hP k_32 hk_32 rfl 0 (by decide) (hw _ m_542) (fun _ h9 => h9) rfl d_M_write_p_236 ?_
          refine lv_bipush (v := 6) hx hb d_M_write_p_239 (by decide) ?_
          refine lv_icmp_eq (tgt := 266) hx hb d_M_write_p_241 (by decide) (fun c_33 => ?_) (fun c_33 => ?_)
          · have tl_6 : (6 : Int32).toInt = 6 := by decide
            have tc_33 := congrArg Int32.toInt c_33
            refine lv_aload_n hx hb d_M_write_p_266 rfl (lv_at hl 1 rfl) ?_
            refine lv_aload_n hx hb d_M_write_p_267 rfl (lv_at hl 2 rfl) ?_
            obtain ⟨k_34, hk_34⟩ := List.getElem?_of_mem (show ((pa, .inr (6, [.int 6, v1, v2, .int (nI m0), v4, .ref q0, v6])) : Nat × va_E) ∈ ([(mm, .inr (5, [tx, .int sz, .int at0, .ref tk, .ref tp, .ref ou, .int tm, .int om, al, pt, .ref pg, .int wr2_28])), (pg, .inl (G.2.1 0, 4000, .inl pgf2_29))] ++ pl) from List.mem_append_right _ hself)
            refine va_get (D := G.1) (ci := 6) (v := .ref q0) (C := R_Part) (T := F_Part) (N := 7) hx hb hw i_Part hown hE.1 hP k_34 hk_34 rfl 5 (by decide) (hw _ m_549) (fun _ h9 => h9) rfl d_M_write_p_268 ?_
            refine lv_iload_n hx hb d_M_write_p_271 rfl (lv_at hl 0 rfl) ?_
            obtain ⟨k_35, hk_35⟩ := List.getElem?_of_mem (show ((q0, .inl (G.2.1 2, n9, .inr (.inr (.inr (.inr g9))))) : Nat × va_E) ∈ ([(mm, .inr (5, [tx, .int sz, .int at0, .ref tk, .ref tp, .ref ou, .int tm, .int om, al, pt, .ref pg, .int wr2_28])), (pg, .inl (G.2.1 0, 4000, .inl pgf2_29))] ++ pl) from List.mem_append_right _ hq0)
            refine va_aldq hx hb hE.1 hP k_35 2 hk_35 rfl (i := x2_217) (z_in (by omega) (by omega)) d_M_write_p_272 ?_
            obtain ⟨c9, hc9, hg9⟩ := hI _ (cl_lt (x := x2_217) (by omega) (by omega))
            obtain ⟨fs9, hf9⟩ := hg9.cell
            rw [hc9]
            refine gp_v (X := [(mm, .inr (5, [tx, .int sz, .int at0, .ref tk, .ref tp, .ref ou, .int tm, .int om, al, pt, .ref pg, .int wr2_28])), (pg, .inl (G.2.1 0, 4000, .inl pgf2_29))]) (cx := [(mm, .inr (5, [tx, .int sz, .int at0, .ref tk, .ref tp, .ref ou, .int tm, .int om, al, pt, .ref pg, .int wr2_28])), (pg, .inl (G.2.1 0, 4000, .inl pgf2_29))]) (wr := []) (rx := (fun (u : Int32 × (Nat → Int32)) => [(mm, .inr (5, [tx, .int sz, .int at0, .ref tk, .ref tp, .ref ou, .int tm, .int om, al, pt, .ref pg, .int u.1])), (pg, .inl (G.2.1 0, 4000, .inl u.2))])) (pl1 := (fun (u : Int32 × (Nat → Int32)) => pl)) (gh_V (wc := ([(mm, .inr (5, [tx, .int sz, .int at0, .ref tk, .ref tp, .ref ou, .int tm, .int om, al, pt, .ref pg, .int wr2_28])), (pg, .inl (G.2.1 0, 4000, .inl pgf2_29))] ++ pl)) (As := [.ref c9]) (rest := []) ⟨hx, hb, hml, hown, hw⟩ (ih mm tp tk ou pg sz at0 tm om wr2_28 al pt tx pgf2_29 c9 (ws x2_217.toNatClampNeg) pl h_30 (by first | assumption | trivial | omega | (dsimp only; omega)) hg9 H.size) (cwV 1 hw (good_V m_715 m_717 ms_50 m_4 m_718) rfl rfl rfl hy_M_write_p ⟨by show 5 + d + 1 ≤ 5 + (d + 1); omega, by show 8 + (6 + 11) + (107 + 25 * d) ≤ 107 + 25 * (d + 1); omega⟩) (gp_here (X := [(mm, .inr (5, [tx, .int sz, .int at0, .ref tk, .ref tp, .ref ou, .int tm, .int om, al, pt, .ref pg, .int wr2_28])), (pg, .inl (G.2.1 0, 4000, .inl pgf2_29))]) (cx := [(mm, .inr (5, [tx, .int sz, .int at0, .ref tk, .ref tp, .ref ou, .int tm, .int om, al, pt, .ref pg, .int wr2_28])), (pg, .inl (G.2.1 0, 4000, .inl pgf2_29))]) hE hP hD hS hA [0, 1] rfl (by decide)) (va_recv hE.1 hP (ci := 5) (q0 := 0) rfl rfl) rfl hl rfl (Nat.le_of_ble_eq_true rfl) d_M_write_p_273 ⟨Nat.le_of_ble_eq_true rfl, Nat.le_of_ble_eq_true rfl⟩) hP hD hS hA [0, 1] [] rfl rfl (by decide) (by decide) (fun u_37 H locs hw_38 hP hD hS => ?_)
            obtain ⟨wr2_39, pgf2_40⟩ := u_37
            try dsimp only at hw_38
            obtain ⟨h_41, h_42⟩ := hw_38
            have hP : va_P G.1 vwCl ([(mm, .inr (5, [tx, .int sz, .int at0, .ref tk, .ref tp, .ref ou, .int tm, .int om, al, pt, .ref pg, .int wr2_39])), (pg, .inl (G.2.1 0, 4000, .inl pgf2_40))] ++ pl) H := hP
            have hD : va_D A ([(mm, .inr (5, [tx, .int sz, .int at0, .ref tk, .ref tp, .ref ou, .int tm, .int om, al, pt, .ref pg, .int wr2_39])), (pg, .inl (G.2.1 0, 4000, .inl pgf2_40))] ++ pl) := hD
            obtain ⟨y_43, ey_43⟩ : ∃ y : Int32, y = x2_217 + 1 := ⟨_, rfl⟩
            have tl_1 : (1 : Int32).toInt = 1 := by decide
            have ty_43 := z_addE ey_43
            refine lv_iinc (v := y_43) (lv' := [(2, .int y_43), (0, .ref mm), (1, .ref pa)]) hx hb d_M_write_p_276 hl (k := 0) rfl (by rw [ey_43]; rfl) (by decide) rfl (fun ls hl => ?_)
            refine lv_goto (tgt := 217) hx hb d_M_write_p_279 (by decide) ?_
            exact ih_217 y_43 wr2_39 pgf2_40 h_41 (by first | assumption | trivial | omega | (dsimp only; omega)) (by first | assumption | trivial | omega | (dsimp only; omega)) (by rw [sm_step (x := x2_217) (by omega) (by omega)]; (try dsimp only); omega) (by omega) _ _ (hP.part [0, 1] rfl) (hD.part [0, 1] (by decide) rfl) hS _ (lv_sub hl [0, 1, 2] rfl)
          · exact absurd (by decide) c_33
  refine lv_aload_n hx hb d_M_write_p_0 rfl (lv_at hl 1 rfl) ?_
  obtain ⟨k_44, hk_44⟩ := List.getElem?_of_mem (show ((pa, .inr (6, [.int 6, v1, v2, .int (nI m0), v4, .ref q0, v6])) : Nat × va_E) ∈ ([(mm, .inr (5, [tx, .int sz, .int at0, .ref tk, .ref tp, .ref ou, .int tm, .int om, al, pt, .ref pg, .int wr])), (pg, .inl (G.2.1 0, 4000, .inl pgf))] ++ pl) from List.mem_append_right _ hself)
  refine va_get (D := G.1) (ci := 6) (v := .int 6) (C := R_Part) (T := F_Part) (N := 7) hx hb hw i_Part hown hE.1 hP k_44 hk_44 rfl 0 (by decide) (hw _ m_542) (fun _ h9 => h9) rfl d_M_write_p_1 ?_
  refine lv_tableIn (tgt := 195) hx hb d_M_write_p_4 (by decide) (by decide) rfl (by decide) ?_
  refine lv_aload_n hx hb d_M_write_p_195 rfl (lv_at hl 0 rfl) ?_
  refine lv_aload_n hx hb d_M_write_p_196 rfl (lv_at hl 1 rfl) ?_
  obtain ⟨k_45, hk_45⟩ := List.getElem?_of_mem (show ((pa, .inr (6, [.int 6, v1, v2, .int (nI m0), v4, .ref q0, v6])) : Nat × va_E) ∈ ([(mm, .inr (5, [tx, .int sz, .int at0, .ref tk, .ref tp, .ref ou, .int tm, .int om, al, pt, .ref pg, .int wr])), (pg, .inl (G.2.1 0, 4000, .inl pgf))] ++ pl) from List.mem_append_right _ hself)
  refine va_get (D := G.1) (ci := 6) (v := .int 6) (C := R_Part) (T := F_Part) (N := 7) hx hb hw i_Part hown hE.1 hP k_45 hk_45 rfl 0 (by decide) (hw _ m_542) (fun _ h9 => h9) rfl d_M_write_p_197 ?_
  refine lv_bipush (v := 6) hx hb d_M_write_p_200 (by decide) ?_
  refine lv_icmp_ne (tgt := 210) hx hb d_M_write_p_202 (by decide) (fun c_46 => ?_) (fun c_46 => ?_)
  · exact absurd c_46 (by decide)
  · have tl_6 : (6 : Int32).toInt = 6 := by decide
    have tc_46 := congrArg Int32.toInt c_46
    refine va_ldcS (q := (G.2.2.1 14)) hx hb hown (hE.2.1 14 (by decide)).2 d_M_write_p_205 ?_
    refine lv_goto (tgt := 212) hx hb d_M_write_p_207 (by decide) ?_
    have tk_14 : (nI (lenS.getD 14 0)).toInt = 1 := by decide
    refine gq_v (X := [(mm, .inr (5, [tx, .int sz, .int at0, .ref tk, .ref tp, .ref ou, .int tm, .int om, al, pt, .ref pg, .int wr])), (pg, .inl (G.2.1 0, 4000, .inl pgf))]) (wr := []) (gh_V (wc := [(mm, .inr (5, [tx, .int sz, .int at0, .ref tk, .ref tp, .ref ou, .int tm, .int om, al, pt, .ref pg, .int wr])), (pg, .inl (G.2.1 0, 4000, .inl pgf))]) (As := [.ref (G.2.2.1 14)]) (rest := []) ⟨hx, hb, hml, hown, hw⟩ (c_M_say_s l G mm tp tk ou pg sz at0 tm om wr al pt tx pgf 14 hpf (by first | assumption | trivial | omega | (dsimp only; omega)) (by decide) H.size) (cwV 1 hw (good_V m_719 m_721 ms_51 m_4 m_722) rfl rfl rfl hy_M_say_s ⟨Nat.le_trans (Nat.le_of_ble_eq_true rfl) (Nat.le_add_right 5 _), Nat.le_trans (Nat.le_of_ble_eq_true rfl) (Nat.le_add_right 107 _)⟩) (gP.here (wc := [(mm, .inr (5, [tx, .int sz, .int at0, .ref tk, .ref tp, .ref ou, .int tm, .int om, al, pt, .ref pg, .int wr])), (pg, .inl (G.2.1 0, 4000, .inl pgf))]) hE hP hD hS hA [0, 1] rfl (by decide)) (va_recv hE.1 hP (ci := 5) (q0 := 0) rfl rfl) rfl hl rfl (Nat.le_of_ble_eq_true rfl) d_M_write_p_212 ⟨Nat.le_of_ble_eq_true rfl, Nat.le_of_ble_eq_true rfl⟩) hP hD hS hA [0, 1] [] rfl rfl rfl (by decide) (by decide) (fun u_48 H locs hw_49 hP hD hS => ?_)
    obtain ⟨wr2_50, pgf2_51⟩ := u_48
    try dsimp only at hw_49
    obtain ⟨h_52, h_53⟩ := hw_49
    have hP : va_P G.1 vwCl ([(mm, .inr (5, [tx, .int sz, .int at0, .ref tk, .ref tp, .ref ou, .int tm, .int om, al, pt, .ref pg, .int wr2_50])), (pg, .inl (G.2.1 0, 4000, .inl pgf2_51))] ++ pl) H := hP
    have hD : va_D A ([(mm, .inr (5, [tx, .int sz, .int at0, .ref tk, .ref tp, .ref ou, .int tm, .int om, al, pt, .ref pg, .int wr2_50])), (pg, .inl (G.2.1 0, 4000, .inl pgf2_51))] ++ pl) := hD
    refine lv_iconst (v := 0) hx hb d_M_write_p_215 (by decide) ?_
    refine lv_istore_n (lv' := [(2, .int 0), (0, .ref mm), (1, .ref pa)]) hx hb d_M_write_p_216 rfl hl (by decide) rfl (fun ls hl => ?_)
    have tl_0 : (0 : Int32).toInt = 0 := by decide
    exact J_217 _ 0 wr2_50 pgf2_51 h_52 (by first | assumption | trivial | omega | (dsimp only; omega)) (by first | assumption | trivial | omega | (dsimp only; omega)) (by rw [sm_0]; omega) (Nat.lt_succ_self _) _ _ (hP.part [0, 1] rfl) (hD.part [0, 1] (by decide) rfl) hS _ (lv_sub hl [0, 1, 2] rfl)
set_option maxHeartbeats 4000000 in
set_option maxRecDepth 100000 in
theorem s_w7 (l : Launch) (G : GG) (d : Nat) (ih : C_mw l G d) (mm : Nat) (tp : Nat) (tk : Nat) (ou : Nat) (pg : Nat) (sz : Int32) (at0 : Int32) (tm : Int32) (om : Int32) (wr : Int32) (al : Value) (pt : Value) (tx : Value) (pgf : Nat → Int32) (pa : Nat) (w9 : Nat) (m0 : Nat) (q0 : Nat) (n9 : Nat) (g9 : Nat → Option Nat) (ws : Nat → Nat) (v1 : Value) (v2 : Value) (v4 : Value) (q1 : Nat) (n1 : Nat) (g1 : Nat → Option Nat) (nl : Nat → Nat) (pl : va_W) (hpf : sb_Fit pgf) (hw0 : 0 ≤ wr.toInt ∧ wr.toInt + w9 ≤ 4000) (hself : (pa, .inr (6, [.int 7, v1, v2, .int (nI m0), v4, .ref q0, .ref q1])) ∈ pl) (hq0 : cellI G q0 n9 g9 ∈ pl) (hm0 : m0 ≤ 60 ∧ m0 ≤ n9 ∧ n9 ≤ 64) (hI : ∀ j, j < m0 → ∃ c, g9 j = some c ∧ GP G pl d (ws j) c) (hq1 : cellN G q1 n1 g1 ∈ pl) (hm1 : m0 ≤ n1 ∧ n1 ≤ 64) (hN : ∀ j, j < m0 → ∃ c, g1 j = some c ∧ BG G pl c (nl j)) (hsw : 4 + sm (fun j => ws j + nl j + 3) m0 ≤ w9) : MV l y_M_write_p b_M_write_p 6 (rm_mw (d + 1)) G [.ref mm, .ref pa] ([(mm, .inr (5, [tx, .int sz, .int at0, .ref tk, .ref tp, .ref ou, .int tm, .int om, al, pt, .ref pg, .int wr])), (pg, .inl (G.2.1 0, 4000, .inl pgf))] ++ pl) (fun (u : Int32 × (Nat → Int32)) => (sb_Fit u.2) ∧ (wr.toInt ≤ u.1.toInt ∧ u.1.toInt ≤ wr.toInt + w9)) (fun (u : Int32 × (Nat → Int32)) => ([(mm, .inr (5, [tx, .int sz, .int at0, .ref tk, .ref tp, .ref ou, .int tm, .int om, al, pt, .ref pg, .int u.1])), (pg, .inl (G.2.1 0, 4000, .inl u.2))] ++ pl)) 0 0 := by
  refine MV.of (cc := b_M_write_p) (maxL := 6) (C := R_M) (by decide +kernel) rfl (Nat.le_of_ble_eq_true rfl) ?_
  intro p e s m args below meth c A Q H ls hx hb hml hown hw hE hA hP hD hS hin ret hl
  have hl : lv_has ls 6 [(0, .ref mm), (1, .ref pa)] := hl
  have hm9 := z_n (n := m0) (by omega)
  have J_217 : ∀ (fu : Nat) (x2_217 : Int32) (wr2_217 : Int32) (pgf2_217 : Nat → Int32) (hj0_217 : sb_Fit pgf2_217) (hk0_217 : 0 ≤ x2_217.toInt ∧ x2_217.toInt ≤ m0) (hk1_217 : wr.toInt ≤ wr2_217.toInt) (hk2_217 : wr2_217.toInt ≤ wr.toInt + 2 + sm (fun j => ws j + nl j + 3) x2_217.toNatClampNeg), ((m0 : Int) - x2_217.toInt).toNat < fu → ∀ (H : Heap) (locs : List Loc), va_P G.1 vwCl ([(mm, .inr (5, [tx, .int sz, .int at0, .ref tk, .ref tp, .ref ou, .int tm, .int om, al, pt, .ref pg, .int wr2_217])), (pg, .inl (G.2.1 0, 4000, .inl pgf2_217))] ++ pl) H → va_D A ([(mm, .inr (5, [tx, .int sz, .int at0, .ref tk, .ref tp, .ref ou, .int tm, .int om, al, pt, .ref pg, .int wr2_217])), (pg, .inl (G.2.1 0, 4000, .inl pgf2_217))] ++ pl) → va_S A s.heap H locs → ∀ ls : Array Slot, lv_has ls 6 [(2, .int x2_217), (0, .ref mm), (1, .ref pa)] → W p l e (rm_mw (d + 1)) s m args below meth c H locs 0 0 Q (F0 m 217 ls []) := by
    intro fu
    induction fu with
    | zero =>
      intro x2_217 wr2_217 pgf2_217 hj0_217 hk0_217 hk1_217 hk2_217 hm
      exact absurd hm (Nat.not_lt_zero _)
    | succ fu ih_217 =>
      intro x2_217 wr2_217 pgf2_217 hj0_217 hk0_217 hk1_217 hk2_217 hm_217 H locs hP hD hS ls hl
      refine lv_iload_n hx hb d_M_write_p_217 rfl (lv_at hl 0 rfl) ?_
      refine lv_aload_n hx hb d_M_write_p_218 rfl (lv_at hl 2 rfl) ?_
      obtain ⟨k_1, hk_1⟩ := List.getElem?_of_mem (show ((pa, .inr (6, [.int 7, v1, v2, .int (nI m0), v4, .ref q0, .ref q1])) : Nat × va_E) ∈ ([(mm, .inr (5, [tx, .int sz, .int at0, .ref tk, .ref tp, .ref ou, .int tm, .int om, al, pt, .ref pg, .int wr2_217])), (pg, .inl (G.2.1 0, 4000, .inl pgf2_217))] ++ pl) from List.mem_append_right _ hself)
      refine va_get (D := G.1) (ci := 6) (v := .int (nI m0)) (C := R_Part) (T := F_Part) (N := 7) hx hb hw i_Part hown hE.1 hP k_1 hk_1 rfl 3 (by decide) (hw _ m_546) (fun _ h9 => h9) rfl d_M_write_p_219 ?_
      refine lv_icmp_ge (tgt := 282) hx hb d_M_write_p_222 (by decide) (fun c_2 => ?_) (fun c_2 => ?_)
      · have tc_2 := z_le.mp c_2
        have hsm8 := sm_end (f := fun j => ws j + nl j + 3) (x := x2_217) (m := m0) (by omega) (by omega)
        refine lv_aload_n hx hb d_M_write_p_282 rfl (lv_at hl 1 rfl) ?_
        refine lv_aload_n hx hb d_M_write_p_283 rfl (lv_at hl 2 rfl) ?_
        obtain ⟨k_3, hk_3⟩ := List.getElem?_of_mem (show ((pa, .inr (6, [.int 7, v1, v2, .int (nI m0), v4, .ref q0, .ref q1])) : Nat × va_E) ∈ ([(mm, .inr (5, [tx, .int sz, .int at0, .ref tk, .ref tp, .ref ou, .int tm, .int om, al, pt, .ref pg, .int wr2_217])), (pg, .inl (G.2.1 0, 4000, .inl pgf2_217))] ++ pl) from List.mem_append_right _ hself)
        refine va_get (D := G.1) (ci := 6) (v := .int 7) (C := R_Part) (T := F_Part) (N := 7) hx hb hw i_Part hown hE.1 hP k_3 hk_3 rfl 0 (by decide) (hw _ m_542) (fun _ h9 => h9) rfl d_M_write_p_284 ?_
        refine lv_bipush (v := 6) hx hb d_M_write_p_287 (by decide) ?_
        refine lv_icmp_ne (tgt := 297) hx hb d_M_write_p_289 (by decide) (fun c_4 => ?_) (fun c_4 => ?_)
        · have tl_7 : (7 : Int32).toInt = 7 := by decide
          have tl_6 : (6 : Int32).toInt = 6 := by decide
          have tc_4 := z_ne c_4
          refine va_ldcS (q := (G.2.2.1 17)) hx hb hown (hE.2.1 17 (by decide)).2 d_M_write_p_297 ?_
          have tk_17 : (nI (lenS.getD 17 0)).toInt = 2 := by decide
          refine gq_v (X := [(mm, .inr (5, [tx, .int sz, .int at0, .ref tk, .ref tp, .ref ou, .int tm, .int om, al, pt, .ref pg, .int wr2_217])), (pg, .inl (G.2.1 0, 4000, .inl pgf2_217))]) (wr := []) (gh_V (wc := [(mm, .inr (5, [tx, .int sz, .int at0, .ref tk, .ref tp, .ref ou, .int tm, .int om, al, pt, .ref pg, .int wr2_217])), (pg, .inl (G.2.1 0, 4000, .inl pgf2_217))]) (As := [.ref (G.2.2.1 17)]) (rest := []) ⟨hx, hb, hml, hown, hw⟩ (c_M_say_s l G mm tp tk ou pg sz at0 tm om wr2_217 al pt tx pgf2_217 17 hj0_217 (by first | assumption | trivial | omega | (dsimp only; omega)) (by decide) H.size) (cwV 1 hw (good_V m_719 m_721 ms_51 m_4 m_722) rfl rfl rfl hy_M_say_s ⟨Nat.le_trans (Nat.le_of_ble_eq_true rfl) (Nat.le_add_right 5 _), Nat.le_trans (Nat.le_of_ble_eq_true rfl) (Nat.le_add_right 107 _)⟩) (gP.here (wc := [(mm, .inr (5, [tx, .int sz, .int at0, .ref tk, .ref tp, .ref ou, .int tm, .int om, al, pt, .ref pg, .int wr2_217])), (pg, .inl (G.2.1 0, 4000, .inl pgf2_217))]) hE hP hD hS hA [0, 1] rfl (by decide)) (va_recv hE.1 hP (ci := 5) (q0 := 0) rfl rfl) rfl hl rfl (Nat.le_of_ble_eq_true rfl) d_M_write_p_299 ⟨Nat.le_of_ble_eq_true rfl, Nat.le_of_ble_eq_true rfl⟩) hP hD hS hA [0, 1] [] rfl rfl rfl (by decide) (by decide) (fun u_6 H locs hw_7 hP hD hS => ?_)
          obtain ⟨wr2_8, pgf2_9⟩ := u_6
          try dsimp only at hw_7
          obtain ⟨h_10, h_11⟩ := hw_7
          have hP : va_P G.1 vwCl ([(mm, .inr (5, [tx, .int sz, .int at0, .ref tk, .ref tp, .ref ou, .int tm, .int om, al, pt, .ref pg, .int wr2_8])), (pg, .inl (G.2.1 0, 4000, .inl pgf2_9))] ++ pl) H := hP
          have hD : va_D A ([(mm, .inr (5, [tx, .int sz, .int at0, .ref tk, .ref tp, .ref ou, .int tm, .int om, al, pt, .ref pg, .int wr2_8])), (pg, .inl (G.2.1 0, 4000, .inl pgf2_9))] ++ pl) := hD
          exact ret (wr2_8, pgf2_9) (Nat.le_of_ble_eq_true rfl) (Nat.le_of_ble_eq_true rfl) d_M_write_p_302 ⟨h_10, (by first | assumption | trivial | omega | (dsimp only; omega))⟩ (hP.part (cx := [(mm, .inr (5, [tx, .int sz, .int at0, .ref tk, .ref tp, .ref ou, .int tm, .int om, al, pt, .ref pg, .int wr2_8])), (pg, .inl (G.2.1 0, 4000, .inl pgf2_9))]) [0, 1] rfl) (hD.part (cx := [(mm, .inr (5, [tx, .int sz, .int at0, .ref tk, .ref tp, .ref ou, .int tm, .int om, al, pt, .ref pg, .int wr2_8])), (pg, .inl (G.2.1 0, 4000, .inl pgf2_9))]) [0, 1] (by decide) rfl) hS
        · exact absurd c_4 (by decide)
      · have tc_2 := z_nle c_2
        have hsm9 := sm_in (f := fun j => ws j + nl j + 3) (cl_lt (x := x2_217) (m := m0) (by omega) (by omega))
        try dsimp only at hsm9
        refine lv_iload_n hx hb d_M_write_p_225 rfl (lv_at hl 0 rfl) ?_
        refine lv_if_le (tgt := 235) hx hb d_M_write_p_226 (by decide) (fun c_12 => ?_) (fun c_12 => ?_)
        · have tl_0 : (0 : Int32).toInt = 0 := by decide
          have tc_12 := z_le.mp c_12
          refine lv_aload_n hx hb d_M_write_p_235 rfl (lv_at hl 2 rfl) ?_
          obtain ⟨k_13, hk_13⟩ := List.getElem?_of_mem (show ((pa, .inr (6, [.int 7, v1, v2, .int (nI m0), v4, .ref q0, .ref q1])) : Nat × va_E) ∈ ([(mm, .inr (5, [tx, .int sz, .int at0, .ref tk, .ref tp, .ref ou, .int tm, .int om, al, pt, .ref pg, .int wr2_217])), (pg, .inl (G.2.1 0, 4000, .inl pgf2_217))] ++ pl) from List.mem_append_right _ hself)
          refine va_get (D := G.1) (ci := 6) (v := .int 7) (C := R_Part) (T := F_Part) (N := 7) hx hb hw i_Part hown hE.1 hP k_13 hk_13 rfl 0 (by decide) (hw _ m_542) (fun _ h9 => h9) rfl d_M_write_p_236 ?_
          refine lv_bipush (v := 6) hx hb d_M_write_p_239 (by decide) ?_
          refine lv_icmp_eq (tgt := 266) hx hb d_M_write_p_241 (by decide) (fun c_14 => ?_) (fun c_14 => ?_)
          · exact absurd c_14 (by decide)
          · have tl_7 : (7 : Int32).toInt = 7 := by decide
            have tl_6 : (6 : Int32).toInt = 6 := by decide
            have tc_14 := z_ne c_14
            refine lv_aload_n hx hb d_M_write_p_244 rfl (lv_at hl 1 rfl) ?_
            refine lv_bipush (v := 47) hx hb d_M_write_p_245 (by decide) ?_
            refine gq_v (X := [(mm, .inr (5, [tx, .int sz, .int at0, .ref tk, .ref tp, .ref ou, .int tm, .int om, al, pt, .ref pg, .int wr2_217])), (pg, .inl (G.2.1 0, 4000, .inl pgf2_217))]) (wr := []) (gh_V (wc := [(mm, .inr (5, [tx, .int sz, .int at0, .ref tk, .ref tp, .ref ou, .int tm, .int om, al, pt, .ref pg, .int wr2_217])), (pg, .inl (G.2.1 0, 4000, .inl pgf2_217))]) (As := [.int 47]) (rest := []) ⟨hx, hb, hml, hown, hw⟩ (c_M_say_i l G mm tp tk ou pg sz at0 tm om wr2_217 al pt tx pgf2_217 47 hj0_217 (by first | assumption | trivial | omega | (dsimp only; omega)) H.size) (cwV 1 hw (good_V m_723 m_725 ms_52 m_4 m_726) rfl rfl rfl hy_M_say_i ⟨Nat.le_trans (Nat.le_of_ble_eq_true rfl) (Nat.le_add_right 5 _), Nat.le_trans (Nat.le_of_ble_eq_true rfl) (Nat.le_add_right 107 _)⟩) (gP.here (wc := [(mm, .inr (5, [tx, .int sz, .int at0, .ref tk, .ref tp, .ref ou, .int tm, .int om, al, pt, .ref pg, .int wr2_217])), (pg, .inl (G.2.1 0, 4000, .inl pgf2_217))]) hE hP hD hS hA [0, 1] rfl (by decide)) (va_recv hE.1 hP (ci := 5) (q0 := 0) rfl rfl) rfl hl rfl (Nat.le_of_ble_eq_true rfl) d_M_write_p_247 ⟨Nat.le_of_ble_eq_true rfl, Nat.le_of_ble_eq_true rfl⟩) hP hD hS hA [0, 1] [] rfl rfl rfl (by decide) (by decide) (fun u_16 H locs hw_17 hP hD hS => ?_)
            obtain ⟨wr2_18, pgf2_19⟩ := u_16
            try dsimp only at hw_17
            obtain ⟨h_20, h_21⟩ := hw_17
            have hP : va_P G.1 vwCl ([(mm, .inr (5, [tx, .int sz, .int at0, .ref tk, .ref tp, .ref ou, .int tm, .int om, al, pt, .ref pg, .int wr2_18])), (pg, .inl (G.2.1 0, 4000, .inl pgf2_19))] ++ pl) H := hP
            have hD : va_D A ([(mm, .inr (5, [tx, .int sz, .int at0, .ref tk, .ref tp, .ref ou, .int tm, .int om, al, pt, .ref pg, .int wr2_18])), (pg, .inl (G.2.1 0, 4000, .inl pgf2_19))] ++ pl) := hD
            refine lv_aload_n hx hb d_M_write_p_250 rfl (lv_at hl 1 rfl) ?_
            refine lv_aload_n hx hb d_M_write_p_251 rfl (lv_at hl 2 rfl) ?_
            obtain ⟨k_22, hk_22⟩ := List.getElem?_of_mem (show ((pa, .inr (6, [.int 7, v1, v2, .int (nI m0), v4, .ref q0, .ref q1])) : Nat × va_E) ∈ ([(mm, .inr (5, [tx, .int sz, .int at0, .ref tk, .ref tp, .ref ou, .int tm, .int om, al, pt, .ref pg, .int wr2_18])), (pg, .inl (G.2.1 0, 4000, .inl pgf2_19))] ++ pl) from List.mem_append_right _ hself)
            refine va_get (D := G.1) (ci := 6) (v := .ref q1) (C := R_Part) (T := F_Part) (N := 7) hx hb hw i_Part hown hE.1 hP k_22 hk_22 rfl 6 (by decide) (hw _ m_551) (fun _ h9 => h9) rfl d_M_write_p_252 ?_
            refine lv_iload_n hx hb d_M_write_p_255 rfl (lv_at hl 0 rfl) ?_
            obtain ⟨k_23, hk_23⟩ := List.getElem?_of_mem (show ((q1, .inl (G.2.1 3, n1, .inr (.inr (.inr (.inr g1))))) : Nat × va_E) ∈ ([(mm, .inr (5, [tx, .int sz, .int at0, .ref tk, .ref tp, .ref ou, .int tm, .int om, al, pt, .ref pg, .int wr2_18])), (pg, .inl (G.2.1 0, 4000, .inl pgf2_19))] ++ pl) from List.mem_append_right _ hq1)
            refine gc_aldB hx hb hE hP k_23 hk_23 (i := x2_217) (z_in (by omega) (by omega)) d_M_write_p_256 ?_
            obtain ⟨d9, hd9, f9, hm9, hfit9⟩ := hN _ (cl_lt (x := x2_217) (by omega) (by omega))
            rw [hd9]
            refine gp_v (X := [(mm, .inr (5, [tx, .int sz, .int at0, .ref tk, .ref tp, .ref ou, .int tm, .int om, al, pt, .ref pg, .int wr2_18])), (pg, .inl (G.2.1 0, 4000, .inl pgf2_19))]) (cx := [(mm, .inr (5, [tx, .int sz, .int at0, .ref tk, .ref tp, .ref ou, .int tm, .int om, al, pt, .ref pg, .int wr2_18])), (pg, .inl (G.2.1 0, 4000, .inl pgf2_19))]) (wr := []) (rx := (fun (u : Int32 × (Nat → Int32)) => [(mm, .inr (5, [tx, .int sz, .int at0, .ref tk, .ref tp, .ref ou, .int tm, .int om, al, pt, .ref pg, .int u.1])), (pg, .inl (G.2.1 0, 4000, .inl u.2))])) (pl1 := (fun (u : Int32 × (Nat → Int32)) => pl)) (gh_V (wc := ([(mm, .inr (5, [tx, .int sz, .int at0, .ref tk, .ref tp, .ref ou, .int tm, .int om, al, pt, .ref pg, .int wr2_18])), (pg, .inl (G.2.1 0, 4000, .inl pgf2_19))] ++ pl)) (As := [.ref d9]) (rest := []) ⟨hx, hb, hml, hown, hw⟩ (c_M_say_b l G mm tp tk ou pg sz at0 tm om wr2_18 al pt tx pgf2_19 d9 (nl x2_217.toNatClampNeg) f9 pl h_20 hm9 (by first | assumption | trivial | omega | (dsimp only; omega)) H.size) (cwV 1 hw (good_V m_731 m_733 ms_54 m_4 m_734) rfl rfl rfl hy_M_say_b ⟨Nat.le_trans (Nat.le_of_ble_eq_true rfl) (Nat.le_add_right 5 _), Nat.le_trans (Nat.le_of_ble_eq_true rfl) (Nat.le_add_right 107 _)⟩) (gp_here (X := [(mm, .inr (5, [tx, .int sz, .int at0, .ref tk, .ref tp, .ref ou, .int tm, .int om, al, pt, .ref pg, .int wr2_18])), (pg, .inl (G.2.1 0, 4000, .inl pgf2_19))]) (cx := [(mm, .inr (5, [tx, .int sz, .int at0, .ref tk, .ref tp, .ref ou, .int tm, .int om, al, pt, .ref pg, .int wr2_18])), (pg, .inl (G.2.1 0, 4000, .inl pgf2_19))]) hE hP hD hS hA [0, 1] rfl (by decide)) (va_recv hE.1 hP (ci := 5) (q0 := 0) rfl rfl) rfl hl rfl (Nat.le_of_ble_eq_true rfl) d_M_write_p_257 ⟨Nat.le_of_ble_eq_true rfl, Nat.le_of_ble_eq_true rfl⟩) hP hD hS hA [0, 1] [] rfl rfl (by decide) (by decide) (fun u_25 H locs hw_26 hP hD hS => ?_)
            obtain ⟨wr2_27, pgf2_28⟩ := u_25
            try dsimp only at hw_26
            obtain ⟨h_29, h_30⟩ := hw_26
            have hP : va_P G.1 vwCl ([(mm, .inr (5, [tx, .int sz, .int at0, .ref tk, .ref tp, .ref ou, .int tm, .int om, al, pt, .ref pg, .int wr2_27])), (pg, .inl (G.2.1 0, 4000, .inl pgf2_28))] ++ pl) H := hP
            have hD : va_D A ([(mm, .inr (5, [tx, .int sz, .int at0, .ref tk, .ref tp, .ref ou, .int tm, .int om, al, pt, .ref pg, .int wr2_27])), (pg, .inl (G.2.1 0, 4000, .inl pgf2_28))] ++ pl) := hD
            refine lv_aload_n hx hb d_M_write_p_260 rfl (lv_at hl 1 rfl) ?_
            refine lv_bipush (v := 32) hx hb d_M_write_p_261 (by decide) ?_
            refine gq_v (X := [(mm, .inr (5, [tx, .int sz, .int at0, .ref tk, .ref tp, .ref ou, .int tm, .int om, al, pt, .ref pg, .int wr2_27])), (pg, .inl (G.2.1 0, 4000, .inl pgf2_28))]) (wr := []) (gh_V (wc := [(mm, .inr (5, [tx, .int sz, .int at0, .ref tk, .ref tp, .ref ou, .int tm, .int om, al, pt, .ref pg, .int wr2_27])), (pg, .inl (G.2.1 0, 4000, .inl pgf2_28))]) (As := [.int 32]) (rest := []) ⟨hx, hb, hml, hown, hw⟩ (c_M_say_i l G mm tp tk ou pg sz at0 tm om wr2_27 al pt tx pgf2_28 32 h_29 (by first | assumption | trivial | omega | (dsimp only; omega)) H.size) (cwV 1 hw (good_V m_723 m_725 ms_52 m_4 m_726) rfl rfl rfl hy_M_say_i ⟨Nat.le_trans (Nat.le_of_ble_eq_true rfl) (Nat.le_add_right 5 _), Nat.le_trans (Nat.le_of_ble_eq_true rfl) (Nat.le_add_right 107 _)⟩) (gP.here (wc := [(mm, .inr (5, [tx, .int sz, .int at0, .ref tk, .ref tp, .ref ou, .int tm, .int om, al, pt, .ref pg, .int wr2_27])), (pg, .inl (G.2.1 0, 4000, .inl pgf2_28))]) hE hP hD hS hA [0, 1] rfl (by decide)) (va_recv hE.1 hP (ci := 5) (q0 := 0) rfl rfl) rfl hl rfl (Nat.le_of_ble_eq_true rfl) d_M_write_p_263 ⟨Nat.le_of_ble_eq_true rfl, Nat.le_of_ble_eq_true rfl⟩) hP hD hS hA [0, 1] [] rfl rfl rfl (by decide) (by decide) (fun u_32 H locs hw_33 hP hD hS => ?_)
            obtain ⟨wr2_34, pgf2_35⟩ := u_32
            try dsimp only at hw_33
            obtain ⟨h_36, h_37⟩ := hw_33
            have hP : va_P G.1 vwCl ([(mm, .inr (5, [tx, .int sz, .int at0, .ref tk, .ref tp, .ref ou, .int tm, .int om, al, pt, .ref pg, .int wr2_34])), (pg, .inl (G.2.1 0, 4000, .inl pgf2_35))] ++ pl) H := hP
            have hD : va_D A ([(mm, .inr (5, [tx, .int sz, .int at0, .ref tk, .ref tp, .ref ou, .int tm, .int om, al, pt, .ref pg, .int wr2_34])), (pg, .inl (G.2.1 0, 4000, .inl pgf2_35))] ++ pl) := hD
            refine lv_aload_n hx hb d_M_write_p_266 rfl (lv_at hl 1 rfl) ?_
            refine lv_aload_n hx hb d_M_write_p_267 rfl (lv_at hl 2 rfl) ?_
            obtain ⟨k_38, hk_38⟩ := List.getElem?_of_mem (show ((pa, .inr (6, [.int 7, v1, v2, .int (nI m0), v4, .ref q0, .ref q1])) : Nat × va_E) ∈ ([(mm, .inr (5, [tx, .int sz, .int at0, .ref tk, .ref tp, .ref ou, .int tm, .int om, al, pt, .ref pg, .int wr2_34])), (pg, .inl (G.2.1 0, 4000, .inl pgf2_35))] ++ pl) from List.mem_append_right _ hself)
            refine va_get (D := G.1) (ci := 6) (v := .ref q0) (C := R_Part) (T := F_Part) (N := 7) hx hb hw i_Part hown hE.1 hP k_38 hk_38 rfl 5 (by decide) (hw _ m_549) (fun _ h9 => h9) rfl d_M_write_p_268 ?_
            refine lv_iload_n hx hb d_M_write_p_271 rfl (lv_at hl 0 rfl) ?_
            obtain ⟨k_39, hk_39⟩ := List.getElem?_of_mem (show ((q0, .inl (G.2.1 2, n9, .inr (.inr (.inr (.inr g9))))) : Nat × va_E) ∈ ([(mm, .inr (5, [tx, .int sz, .int at0, .ref tk, .ref tp, .ref ou, .int tm, .int om, al, pt, .ref pg, .int wr2_34])), (pg, .inl (G.2.1 0, 4000, .inl pgf2_35))] ++ pl) from List.mem_append_right _ hq0)
            refine va_aldq hx hb hE.1 hP k_39 2 hk_39 rfl (i := x2_217) (z_in (by omega) (by omega)) d_M_write_p_272 ?_
            obtain ⟨c9, hc9, hg9⟩ := hI _ (cl_lt (x := x2_217) (by omega) (by omega))
            obtain ⟨fs9, hf9⟩ := hg9.cell
            rw [hc9]
            refine gp_v (X := [(mm, .inr (5, [tx, .int sz, .int at0, .ref tk, .ref tp, .ref ou, .int tm, .int om, al, pt, .ref pg, .int wr2_34])), (pg, .inl (G.2.1 0, 4000, .inl pgf2_35))]) (cx := [(mm, .inr (5, [tx, .int sz, .int at0, .ref tk, .ref tp, .ref ou, .int tm, .int om, al, pt, .ref pg, .int wr2_34])), (pg, .inl (G.2.1 0, 4000, .inl pgf2_35))]) (wr := []) (rx := (fun (u : Int32 × (Nat → Int32)) => [(mm, .inr (5, [tx, .int sz, .int at0, .ref tk, .ref tp, .ref ou, .int tm, .int om, al, pt, .ref pg, .int u.1])), (pg, .inl (G.2.1 0, 4000, .inl u.2))])) (pl1 := (fun (u : Int32 × (Nat → Int32)) => pl)) (gh_V (wc := ([(mm, .inr (5, [tx, .int sz, .int at0, .ref tk, .ref tp, .ref ou, .int tm, .int om, al, pt, .ref pg, .int wr2_34])), (pg, .inl (G.2.1 0, 4000, .inl pgf2_35))] ++ pl)) (As := [.ref c9]) (rest := []) ⟨hx, hb, hml, hown, hw⟩ (ih mm tp tk ou pg sz at0 tm om wr2_34 al pt tx pgf2_35 c9 (ws x2_217.toNatClampNeg) pl h_36 (by first | assumption | trivial | omega | (dsimp only; omega)) hg9 H.size) (cwV 1 hw (good_V m_715 m_717 ms_50 m_4 m_718) rfl rfl rfl hy_M_write_p ⟨by show 5 + d + 1 ≤ 5 + (d + 1); omega, by show 8 + (6 + 11) + (107 + 25 * d) ≤ 107 + 25 * (d + 1); omega⟩) (gp_here (X := [(mm, .inr (5, [tx, .int sz, .int at0, .ref tk, .ref tp, .ref ou, .int tm, .int om, al, pt, .ref pg, .int wr2_34])), (pg, .inl (G.2.1 0, 4000, .inl pgf2_35))]) (cx := [(mm, .inr (5, [tx, .int sz, .int at0, .ref tk, .ref tp, .ref ou, .int tm, .int om, al, pt, .ref pg, .int wr2_34])), (pg, .inl (G.2.1 0, 4000, .inl pgf2_35))]) hE hP hD hS hA [0, 1] rfl (by decide)) (va_recv hE.1 hP (ci := 5) (q0 := 0) rfl rfl) rfl hl rfl (Nat.le_of_ble_eq_true rfl) d_M_write_p_273 ⟨Nat.le_of_ble_eq_true rfl, Nat.le_of_ble_eq_true rfl⟩) hP hD hS hA [0, 1] [] rfl rfl (by decide) (by decide) (fun u_41 H locs hw_42 hP hD hS => ?_)
            obtain ⟨wr2_43, pgf2_44⟩ := u_41
            try dsimp only at hw_42
            obtain ⟨h_45, h_46⟩ := hw_42
            have hP : va_P G.1 vwCl ([(mm, .inr (5, [tx, .int sz, .int at0, .ref tk, .ref tp, .ref ou, .int tm, .int om, al, pt, .ref pg, .int wr2_43])), (pg, .inl (G.2.1 0, 4000, .inl pgf2_44))] ++ pl) H := hP
            have hD : va_D A ([(mm, .inr (5, [tx, .int sz, .int at0, .ref tk, .ref tp, .ref ou, .int tm, .int om, al, pt, .ref pg, .int wr2_43])), (pg, .inl (G.2.1 0, 4000, .inl pgf2_44))] ++ pl) := hD
            obtain ⟨y_47, ey_47⟩ : ∃ y : Int32, y = x2_217 + 1 := ⟨_, rfl⟩
            have tl_1 : (1 : Int32).toInt = 1 := by decide
            have ty_47 := z_addE ey_47
            refine lv_iinc (v := y_47) (lv' := [(2, .int y_47), (0, .ref mm), (1, .ref pa)]) hx hb d_M_write_p_276 hl (k := 0) rfl (by rw [ey_47]; rfl) (by decide) rfl (fun ls hl => ?_)
            refine lv_goto (tgt := 217) hx hb d_M_write_p_279 (by decide) ?_
            exact ih_217 y_47 wr2_43 pgf2_44 h_45 (by first | assumption | trivial | omega | (dsimp only; omega)) (by first | assumption | trivial | omega | (dsimp only; omega)) (by rw [sm_step (x := x2_217) (by omega) (by omega)]; (try dsimp only); omega) (by omega) _ _ (hP.part [0, 1] rfl) (hD.part [0, 1] (by decide) rfl) hS _ (lv_sub hl [0, 1, 2] rfl)
        · have tl_0 : (0 : Int32).toInt = 0 := by decide
          have tc_12 := z_nle c_12
          refine lv_aload_n hx hb d_M_write_p_229 rfl (lv_at hl 1 rfl) ?_
          refine lv_bipush (v := 32) hx hb d_M_write_p_230 (by decide) ?_
          refine gq_v (X := [(mm, .inr (5, [tx, .int sz, .int at0, .ref tk, .ref tp, .ref ou, .int tm, .int om, al, pt, .ref pg, .int wr2_217])), (pg, .inl (G.2.1 0, 4000, .inl pgf2_217))]) (wr := []) (gh_V (wc := [(mm, .inr (5, [tx, .int sz, .int at0, .ref tk, .ref tp, .ref ou, .int tm, .int om, al, pt, .ref pg, .int wr2_217])), (pg, .inl (G.2.1 0, 4000, .inl pgf2_217))]) (As := [.int 32]) (rest := []) ⟨hx, hb, hml, hown, hw⟩ (c_M_say_i l G mm tp tk ou pg sz at0 tm om wr2_217 al pt tx pgf2_217 32 hj0_217 (by first | assumption | trivial | omega | (dsimp only; omega)) H.size) (cwV 1 hw (good_V m_723 m_725 ms_52 m_4 m_726) rfl rfl rfl hy_M_say_i ⟨Nat.le_trans (Nat.le_of_ble_eq_true rfl) (Nat.le_add_right 5 _), Nat.le_trans (Nat.le_of_ble_eq_true rfl) (Nat.le_add_right 107 _)⟩) (gP.here (wc := [(mm, .inr (5, [tx, .int sz, .int at0, .ref tk, .ref tp, .ref ou, .int tm, .int om, al, pt, .ref pg, .int wr2_217])), (pg, .inl (G.2.1 0, 4000, .inl pgf2_217))]) hE hP hD hS hA [0, 1] rfl (by decide)) (va_recv hE.1 hP (ci := 5) (q0 := 0) rfl rfl) rfl hl rfl (Nat.le_of_ble_eq_true rfl) d_M_write_p_232 ⟨Nat.le_of_ble_eq_true rfl, Nat.le_of_ble_eq_true rfl⟩) hP hD hS hA [0, 1] [] rfl rfl rfl (by decide) (by decide) (fun u_49 H locs hw_50 hP hD hS => ?_)
          obtain ⟨wr2_51, pgf2_52⟩ := u_49
          try dsimp only at hw_50
          obtain ⟨h_53, h_54⟩ := hw_50
          have hP : va_P G.1 vwCl ([(mm, .inr (5, [tx, .int sz, .int at0, .ref tk, .ref tp, .ref ou, .int tm, .int om, al, pt, .ref pg, .int wr2_51])), (pg, .inl (G.2.1 0, 4000, .inl pgf2_52))] ++ pl) H := hP
          have hD : va_D A ([(mm, .inr (5, [tx, .int sz, .int at0, .ref tk, .ref tp, .ref ou, .int tm, .int om, al, pt, .ref pg, .int wr2_51])), (pg, .inl (G.2.1 0, 4000, .inl pgf2_52))] ++ pl) := hD
          refine lv_aload_n hx hb d_M_write_p_235 rfl (lv_at hl 2 rfl) ?_
          obtain ⟨k_55, hk_55⟩ := List.getElem?_of_mem (show ((pa, .inr (6, [.int 7, v1, v2, .int (nI m0), v4, .ref q0, .ref q1])) : Nat × va_E) ∈ ([(mm, .inr (5, [tx, .int sz, .int at0, .ref tk, .ref tp, .ref ou, .int tm, .int om, al, pt, .ref pg, .int wr2_51])), (pg, .inl (G.2.1 0, 4000, .inl pgf2_52))] ++ pl) from List.mem_append_right _ hself)
          refine va_get (D := G.1) (ci := 6) (v := .int 7) (C := R_Part) (T := F_Part) (N := 7) hx hb hw i_Part hown hE.1 hP k_55 hk_55 rfl 0 (by decide) (hw _ m_542) (fun _ h9 => h9) rfl d_M_write_p_236 ?_
          refine lv_bipush (v := 6) hx hb d_M_write_p_239 (by decide) ?_
          refine lv_icmp_eq (tgt := 266) hx hb d_M_write_p_241 (by decide) (fun c_56 => ?_) (fun c_56 => ?_)
          · exact absurd c_56 (by decide)
          · have tl_7 : (7 : Int32).toInt = 7 := by decide
            have tl_6 : (6 : Int32).toInt = 6 := by decide
            have tc_56 := z_ne c_56
            refine lv_aload_n hx hb d_M_write_p_244 rfl (lv_at hl 1 rfl) ?_
            refine lv_bipush (v := 47) hx hb d_M_write_p_245 (by decide) ?_
            refine gq_v (X := [(mm, .inr (5, [tx, .int sz, .int at0, .ref tk, .ref tp, .ref ou, .int tm, .int om, al, pt, .ref pg, .int wr2_51])), (pg, .inl (G.2.1 0, 4000, .inl pgf2_52))]) (wr := []) (gh_V (wc := [(mm, .inr (5, [tx, .int sz, .int at0, .ref tk, .ref tp, .ref ou, .int tm, .int om, al, pt, .ref pg, .int wr2_51])), (pg, .inl (G.2.1 0, 4000, .inl pgf2_52))]) (As := [.int 47]) (rest := []) ⟨hx, hb, hml, hown, hw⟩ (c_M_say_i l G mm tp tk ou pg sz at0 tm om wr2_51 al pt tx pgf2_52 47 h_53 (by first | assumption | trivial | omega | (dsimp only; omega)) H.size) (cwV 1 hw (good_V m_723 m_725 ms_52 m_4 m_726) rfl rfl rfl hy_M_say_i ⟨Nat.le_trans (Nat.le_of_ble_eq_true rfl) (Nat.le_add_right 5 _), Nat.le_trans (Nat.le_of_ble_eq_true rfl) (Nat.le_add_right 107 _)⟩) (gP.here (wc := [(mm, .inr (5, [tx, .int sz, .int at0, .ref tk, .ref tp, .ref ou, .int tm, .int om, al, pt, .ref pg, .int wr2_51])), (pg, .inl (G.2.1 0, 4000, .inl pgf2_52))]) hE hP hD hS hA [0, 1] rfl (by decide)) (va_recv hE.1 hP (ci := 5) (q0 := 0) rfl rfl) rfl hl rfl (Nat.le_of_ble_eq_true rfl) d_M_write_p_247 ⟨Nat.le_of_ble_eq_true rfl, Nat.le_of_ble_eq_true rfl⟩) hP hD hS hA [0, 1] [] rfl rfl rfl (by decide) (by decide) (fun u_58 H locs hw_59 hP hD hS => ?_)
            obtain ⟨wr2_60, pgf2_61⟩ := u_58
            try dsimp only at hw_59
            obtain ⟨h_62, h_63⟩ := hw_59
            have hP : va_P G.1 vwCl ([(mm, .inr (5, [tx, .int sz, .int at0, .ref tk, .ref tp, .ref ou, .int tm, .int om, al, pt, .ref pg, .int wr2_60])), (pg, .inl (G.2.1 0, 4000, .inl pgf2_61))] ++ pl) H := hP
            have hD : va_D A ([(mm, .inr (5, [tx, .int sz, .int at0, .ref tk, .ref tp, .ref ou, .int tm, .int om, al, pt, .ref pg, .int wr2_60])), (pg, .inl (G.2.1 0, 4000, .inl pgf2_61))] ++ pl) := hD
            refine lv_aload_n hx hb d_M_write_p_250 rfl (lv_at hl 1 rfl) ?_
            refine lv_aload_n hx hb d_M_write_p_251 rfl (lv_at hl 2 rfl) ?_
            obtain ⟨k_64, hk_64⟩ := List.getElem?_of_mem (show ((pa, .inr (6, [.int 7, v1, v2, .int (nI m0), v4, .ref q0, .ref q1])) : Nat × va_E) ∈ ([(mm, .inr (5, [tx, .int sz, .int at0, .ref tk, .ref tp, .ref ou, .int tm, .int om, al, pt, .ref pg, .int wr2_60])), (pg, .inl (G.2.1 0, 4000, .inl pgf2_61))] ++ pl) from List.mem_append_right _ hself)
            refine va_get (D := G.1) (ci := 6) (v := .ref q1) (C := R_Part) (T := F_Part) (N := 7) hx hb hw i_Part hown hE.1 hP k_64 hk_64 rfl 6 (by decide) (hw _ m_551) (fun _ h9 => h9) rfl d_M_write_p_252 ?_
            refine lv_iload_n hx hb d_M_write_p_255 rfl (lv_at hl 0 rfl) ?_
            obtain ⟨k_65, hk_65⟩ := List.getElem?_of_mem (show ((q1, .inl (G.2.1 3, n1, .inr (.inr (.inr (.inr g1))))) : Nat × va_E) ∈ ([(mm, .inr (5, [tx, .int sz, .int at0, .ref tk, .ref tp, .ref ou, .int tm, .int om, al, pt, .ref pg, .int wr2_60])), (pg, .inl (G.2.1 0, 4000, .inl pgf2_61))] ++ pl) from List.mem_append_right _ hq1)
            refine gc_aldB hx hb hE hP k_65 hk_65 (i := x2_217) (z_in (by omega) (by omega)) d_M_write_p_256 ?_
            obtain ⟨d9, hd9, f9, hm9, hfit9⟩ := hN _ (cl_lt (x := x2_217) (by omega) (by omega))
            rw [hd9]
            refine gp_v (X := [(mm, .inr (5, [tx, .int sz, .int at0, .ref tk, .ref tp, .ref ou, .int tm, .int om, al, pt, .ref pg, .int wr2_60])), (pg, .inl (G.2.1 0, 4000, .inl pgf2_61))]) (cx := [(mm, .inr (5, [tx, .int sz, .int at0, .ref tk, .ref tp, .ref ou, .int tm, .int om, al, pt, .ref pg, .int wr2_60])), (pg, .inl (G.2.1 0, 4000, .inl pgf2_61))]) (wr := []) (rx := (fun (u : Int32 × (Nat → Int32)) => [(mm, .inr (5, [tx, .int sz, .int at0, .ref tk, .ref tp, .ref ou, .int tm, .int om, al, pt, .ref pg, .int u.1])), (pg, .inl (G.2.1 0, 4000, .inl u.2))])) (pl1 := (fun (u : Int32 × (Nat → Int32)) => pl)) (gh_V (wc := ([(mm, .inr (5, [tx, .int sz, .int at0, .ref tk, .ref tp, .ref ou, .int tm, .int om, al, pt, .ref pg, .int wr2_60])), (pg, .inl (G.2.1 0, 4000, .inl pgf2_61))] ++ pl)) (As := [.ref d9]) (rest := []) ⟨hx, hb, hml, hown, hw⟩ (c_M_say_b l G mm tp tk ou pg sz at0 tm om wr2_60 al pt tx pgf2_61 d9 (nl x2_217.toNatClampNeg) f9 pl h_62 hm9 (by first | assumption | trivial | omega | (dsimp only; omega)) H.size) (cwV 1 hw (good_V m_731 m_733 ms_54 m_4 m_734) rfl rfl rfl hy_M_say_b ⟨Nat.le_trans (Nat.le_of_ble_eq_true rfl) (Nat.le_add_right 5 _), Nat.le_trans (Nat.le_of_ble_eq_true rfl) (Nat.le_add_right 107 _)⟩) (gp_here (X := [(mm, .inr (5, [tx, .int sz, .int at0, .ref tk, .ref tp, .ref ou, .int tm, .int om, al, pt, .ref pg, .int wr2_60])), (pg, .inl (G.2.1 0, 4000, .inl pgf2_61))]) (cx := [(mm, .inr (5, [tx, .int sz, .int at0, .ref tk, .ref tp, .ref ou, .int tm, .int om, al, pt, .ref pg, .int wr2_60])), (pg, .inl (G.2.1 0, 4000, .inl pgf2_61))]) hE hP hD hS hA [0, 1] rfl (by decide)) (va_recv hE.1 hP (ci := 5) (q0 := 0) rfl rfl) rfl hl rfl (Nat.le_of_ble_eq_true rfl) d_M_write_p_257 ⟨Nat.le_of_ble_eq_true rfl, Nat.le_of_ble_eq_true rfl⟩) hP hD hS hA [0, 1] [] rfl rfl (by decide) (by decide) (fun u_67 H locs hw_68 hP hD hS => ?_)
            obtain ⟨wr2_69, pgf2_70⟩ := u_67
            try dsimp only at hw_68
            obtain ⟨h_71, h_72⟩ := hw_68
            have hP : va_P G.1 vwCl ([(mm, .inr (5, [tx, .int sz, .int at0, .ref tk, .ref tp, .ref ou, .int tm, .int om, al, pt, .ref pg, .int wr2_69])), (pg, .inl (G.2.1 0, 4000, .inl pgf2_70))] ++ pl) H := hP
            have hD : va_D A ([(mm, .inr (5, [tx, .int sz, .int at0, .ref tk, .ref tp, .ref ou, .int tm, .int om, al, pt, .ref pg, .int wr2_69])), (pg, .inl (G.2.1 0, 4000, .inl pgf2_70))] ++ pl) := hD
            refine lv_aload_n hx hb d_M_write_p_260 rfl (lv_at hl 1 rfl) ?_
            refine lv_bipush (v := 32) hx hb d_M_write_p_261 (by decide) ?_
            refine gq_v (X := [(mm, .inr (5, [tx, .int sz, .int at0, .ref tk, .ref tp, .ref ou, .int tm, .int om, al, pt, .ref pg, .int wr2_69])), (pg, .inl (G.2.1 0, 4000, .inl pgf2_70))]) (wr := []) (gh_V (wc := [(mm, .inr (5, [tx, .int sz, .int at0, .ref tk, .ref tp, .ref ou, .int tm, .int om, al, pt, .ref pg, .int wr2_69])), (pg, .inl (G.2.1 0, 4000, .inl pgf2_70))]) (As := [.int 32]) (rest := []) ⟨hx, hb, hml, hown, hw⟩ (c_M_say_i l G mm tp tk ou pg sz at0 tm om wr2_69 al pt tx pgf2_70 32 h_71 (by first | assumption | trivial | omega | (dsimp only; omega)) H.size) (cwV 1 hw (good_V m_723 m_725 ms_52 m_4 m_726) rfl rfl rfl hy_M_say_i ⟨Nat.le_trans (Nat.le_of_ble_eq_true rfl) (Nat.le_add_right 5 _), Nat.le_trans (Nat.le_of_ble_eq_true rfl) (Nat.le_add_right 107 _)⟩) (gP.here (wc := [(mm, .inr (5, [tx, .int sz, .int at0, .ref tk, .ref tp, .ref ou, .int tm, .int om, al, pt, .ref pg, .int wr2_69])), (pg, .inl (G.2.1 0, 4000, .inl pgf2_70))]) hE hP hD hS hA [0, 1] rfl (by decide)) (va_recv hE.1 hP (ci := 5) (q0 := 0) rfl rfl) rfl hl rfl (Nat.le_of_ble_eq_true rfl) d_M_write_p_263 ⟨Nat.le_of_ble_eq_true rfl, Nat.le_of_ble_eq_true rfl⟩) hP hD hS hA [0, 1] [] rfl rfl rfl (by decide) (by decide) (fun u_74 H locs hw_75 hP hD hS => ?_)
            obtain ⟨wr2_76, pgf2_77⟩ := u_74
            try dsimp only at hw_75
            obtain ⟨h_78, h_79⟩ := hw_75
            have hP : va_P G.1 vwCl ([(mm, .inr (5, [tx, .int sz, .int at0, .ref tk, .ref tp, .ref ou, .int tm, .int om, al, pt, .ref pg, .int wr2_76])), (pg, .inl (G.2.1 0, 4000, .inl pgf2_77))] ++ pl) H := hP
            have hD : va_D A ([(mm, .inr (5, [tx, .int sz, .int at0, .ref tk, .ref tp, .ref ou, .int tm, .int om, al, pt, .ref pg, .int wr2_76])), (pg, .inl (G.2.1 0, 4000, .inl pgf2_77))] ++ pl) := hD
            refine lv_aload_n hx hb d_M_write_p_266 rfl (lv_at hl 1 rfl) ?_
            refine lv_aload_n hx hb d_M_write_p_267 rfl (lv_at hl 2 rfl) ?_
            obtain ⟨k_80, hk_80⟩ := List.getElem?_of_mem (show ((pa, .inr (6, [.int 7, v1, v2, .int (nI m0), v4, .ref q0, .ref q1])) : Nat × va_E) ∈ ([(mm, .inr (5, [tx, .int sz, .int at0, .ref tk, .ref tp, .ref ou, .int tm, .int om, al, pt, .ref pg, .int wr2_76])), (pg, .inl (G.2.1 0, 4000, .inl pgf2_77))] ++ pl) from List.mem_append_right _ hself)
            refine va_get (D := G.1) (ci := 6) (v := .ref q0) (C := R_Part) (T := F_Part) (N := 7) hx hb hw i_Part hown hE.1 hP k_80 hk_80 rfl 5 (by decide) (hw _ m_549) (fun _ h9 => h9) rfl d_M_write_p_268 ?_
            refine lv_iload_n hx hb d_M_write_p_271 rfl (lv_at hl 0 rfl) ?_
            obtain ⟨k_81, hk_81⟩ := List.getElem?_of_mem (show ((q0, .inl (G.2.1 2, n9, .inr (.inr (.inr (.inr g9))))) : Nat × va_E) ∈ ([(mm, .inr (5, [tx, .int sz, .int at0, .ref tk, .ref tp, .ref ou, .int tm, .int om, al, pt, .ref pg, .int wr2_76])), (pg, .inl (G.2.1 0, 4000, .inl pgf2_77))] ++ pl) from List.mem_append_right _ hq0)
            refine va_aldq hx hb hE.1 hP k_81 2 hk_81 rfl (i := x2_217) (z_in (by omega) (by omega)) d_M_write_p_272 ?_
            obtain ⟨c9, hc9, hg9⟩ := hI _ (cl_lt (x := x2_217) (by omega) (by omega))
            obtain ⟨fs9, hf9⟩ := hg9.cell
            rw [hc9]
            refine gp_v (X := [(mm, .inr (5, [tx, .int sz, .int at0, .ref tk, .ref tp, .ref ou, .int tm, .int om, al, pt, .ref pg, .int wr2_76])), (pg, .inl (G.2.1 0, 4000, .inl pgf2_77))]) (cx := [(mm, .inr (5, [tx, .int sz, .int at0, .ref tk, .ref tp, .ref ou, .int tm, .int om, al, pt, .ref pg, .int wr2_76])), (pg, .inl (G.2.1 0, 4000, .inl pgf2_77))]) (wr := []) (rx := (fun (u : Int32 × (Nat → Int32)) => [(mm, .inr (5, [tx, .int sz, .int at0, .ref tk, .ref tp, .ref ou, .int tm, .int om, al, pt, .ref pg, .int u.1])), (pg, .inl (G.2.1 0, 4000, .inl u.2))])) (pl1 := (fun (u : Int32 × (Nat → Int32)) => pl)) (gh_V (wc := ([(mm, .inr (5, [tx, .int sz, .int at0, .ref tk, .ref tp, .ref ou, .int tm, .int om, al, pt, .ref pg, .int wr2_76])), (pg, .inl (G.2.1 0, 4000, .inl pgf2_77))] ++ pl)) (As := [.ref c9]) (rest := []) ⟨hx, hb, hml, hown, hw⟩ (ih mm tp tk ou pg sz at0 tm om wr2_76 al pt tx pgf2_77 c9 (ws x2_217.toNatClampNeg) pl h_78 (by first | assumption | trivial | omega | (dsimp only; omega)) hg9 H.size) (cwV 1 hw (good_V m_715 m_717 ms_50 m_4 m_718) rfl rfl rfl hy_M_write_p ⟨by show 5 + d + 1 ≤ 5 + (d + 1); omega, by show 8 + (6 + 11) + (107 + 25 * d) ≤ 107 + 25 * (d + 1); omega⟩) (gp_here (X := [(mm, .inr (5, [tx, .int sz, .int at0, .ref tk, .ref tp, .ref ou, .int tm, .int om, al, pt, .ref pg, .int wr2_76])), (pg, .inl (G.2.1 0, 4000, .inl pgf2_77))]) (cx := [(mm, .inr (5, [tx, .int sz, .int at0, .ref tk, .ref tp, .ref ou, .int tm, .int om, al, pt, .ref pg, .int wr2_76])), (pg, .inl (G.2.1 0, 4000, .inl pgf2_77))]) hE hP hD hS hA [0, 1] rfl (by decide)) (va_recv hE.1 hP (ci := 5) (q0 := 0) rfl rfl) rfl hl rfl (Nat.le_of_ble_eq_true rfl) d_M_write_p_273 ⟨Nat.le_of_ble_eq_true rfl, Nat.le_of_ble_eq_true rfl⟩) hP hD hS hA [0, 1] [] rfl rfl (by decide) (by decide) (fun u_83 H locs hw_84 hP hD hS => ?_)
            obtain ⟨wr2_85, pgf2_86⟩ := u_83
            try dsimp only at hw_84
            obtain ⟨h_87, h_88⟩ := hw_84
            have hP : va_P G.1 vwCl ([(mm, .inr (5, [tx, .int sz, .int at0, .ref tk, .ref tp, .ref ou, .int tm, .int om, al, pt, .ref pg, .int wr2_85])), (pg, .inl (G.2.1 0, 4000, .inl pgf2_86))] ++ pl) H := hP
            have hD : va_D A ([(mm, .inr (5, [tx, .int sz, .int at0, .ref tk, .ref tp, .ref ou, .int tm, .int om, al, pt, .ref pg, .int wr2_85])), (pg, .inl (G.2.1 0, 4000, .inl pgf2_86))] ++ pl) := hD
            obtain ⟨y_89, ey_89⟩ : ∃ y : Int32, y = x2_217 + 1 := ⟨_, rfl⟩
            have tl_1 : (1 : Int32).toInt = 1 := by decide
            have ty_89 := z_addE ey_89
            refine lv_iinc (v := y_89) (lv' := [(2, .int y_89), (0, .ref mm), (1, .ref pa)]) hx hb d_M_write_p_276 hl (k := 0) rfl (by rw [ey_89]; rfl) (by decide) rfl (fun ls hl => ?_)
            refine lv_goto (tgt := 217) hx hb d_M_write_p_279 (by decide) ?_
            exact ih_217 y_89 wr2_85 pgf2_86 h_87 (by first | assumption | trivial | omega | (dsimp only; omega)) (by first | assumption | trivial | omega | (dsimp only; omega)) (by rw [sm_step (x := x2_217) (by omega) (by omega)]; (try dsimp only); omega) (by omega) _ _ (hP.part [0, 1] rfl) (hD.part [0, 1] (by decide) rfl) hS _ (lv_sub hl [0, 1, 2] rfl)
  refine lv_aload_n hx hb d_M_write_p_0 rfl (lv_at hl 1 rfl) ?_
  obtain ⟨k_90, hk_90⟩ := List.getElem?_of_mem (show ((pa, .inr (6, [.int 7, v1, v2, .int (nI m0), v4, .ref q0, .ref q1])) : Nat × va_E) ∈ ([(mm, .inr (5, [tx, .int sz, .int at0, .ref tk, .ref tp, .ref ou, .int tm, .int om, al, pt, .ref pg, .int wr])), (pg, .inl (G.2.1 0, 4000, .inl pgf))] ++ pl) from List.mem_append_right _ hself)
  refine va_get (D := G.1) (ci := 6) (v := .int 7) (C := R_Part) (T := F_Part) (N := 7) hx hb hw i_Part hown hE.1 hP k_90 hk_90 rfl 0 (by decide) (hw _ m_542) (fun _ h9 => h9) rfl d_M_write_p_1 ?_
  refine lv_tableIn (tgt := 195) hx hb d_M_write_p_4 (by decide) (by decide) rfl (by decide) ?_
  refine lv_aload_n hx hb d_M_write_p_195 rfl (lv_at hl 0 rfl) ?_
  refine lv_aload_n hx hb d_M_write_p_196 rfl (lv_at hl 1 rfl) ?_
  obtain ⟨k_91, hk_91⟩ := List.getElem?_of_mem (show ((pa, .inr (6, [.int 7, v1, v2, .int (nI m0), v4, .ref q0, .ref q1])) : Nat × va_E) ∈ ([(mm, .inr (5, [tx, .int sz, .int at0, .ref tk, .ref tp, .ref ou, .int tm, .int om, al, pt, .ref pg, .int wr])), (pg, .inl (G.2.1 0, 4000, .inl pgf))] ++ pl) from List.mem_append_right _ hself)
  refine va_get (D := G.1) (ci := 6) (v := .int 7) (C := R_Part) (T := F_Part) (N := 7) hx hb hw i_Part hown hE.1 hP k_91 hk_91 rfl 0 (by decide) (hw _ m_542) (fun _ h9 => h9) rfl d_M_write_p_197 ?_
  refine lv_bipush (v := 6) hx hb d_M_write_p_200 (by decide) ?_
  refine lv_icmp_ne (tgt := 210) hx hb d_M_write_p_202 (by decide) (fun c_92 => ?_) (fun c_92 => ?_)
  · have tl_7 : (7 : Int32).toInt = 7 := by decide
    have tl_6 : (6 : Int32).toInt = 6 := by decide
    have tc_92 := z_ne c_92
    refine va_ldcS (q := (G.2.2.1 15)) hx hb hown (hE.2.1 15 (by decide)).2 d_M_write_p_210 ?_
    have tk_15 : (nI (lenS.getD 15 0)).toInt = 2 := by decide
    refine gq_v (X := [(mm, .inr (5, [tx, .int sz, .int at0, .ref tk, .ref tp, .ref ou, .int tm, .int om, al, pt, .ref pg, .int wr])), (pg, .inl (G.2.1 0, 4000, .inl pgf))]) (wr := []) (gh_V (wc := [(mm, .inr (5, [tx, .int sz, .int at0, .ref tk, .ref tp, .ref ou, .int tm, .int om, al, pt, .ref pg, .int wr])), (pg, .inl (G.2.1 0, 4000, .inl pgf))]) (As := [.ref (G.2.2.1 15)]) (rest := []) ⟨hx, hb, hml, hown, hw⟩ (c_M_say_s l G mm tp tk ou pg sz at0 tm om wr al pt tx pgf 15 hpf (by first | assumption | trivial | omega | (dsimp only; omega)) (by decide) H.size) (cwV 1 hw (good_V m_719 m_721 ms_51 m_4 m_722) rfl rfl rfl hy_M_say_s ⟨Nat.le_trans (Nat.le_of_ble_eq_true rfl) (Nat.le_add_right 5 _), Nat.le_trans (Nat.le_of_ble_eq_true rfl) (Nat.le_add_right 107 _)⟩) (gP.here (wc := [(mm, .inr (5, [tx, .int sz, .int at0, .ref tk, .ref tp, .ref ou, .int tm, .int om, al, pt, .ref pg, .int wr])), (pg, .inl (G.2.1 0, 4000, .inl pgf))]) hE hP hD hS hA [0, 1] rfl (by decide)) (va_recv hE.1 hP (ci := 5) (q0 := 0) rfl rfl) rfl hl rfl (Nat.le_of_ble_eq_true rfl) d_M_write_p_212 ⟨Nat.le_of_ble_eq_true rfl, Nat.le_of_ble_eq_true rfl⟩) hP hD hS hA [0, 1] [] rfl rfl rfl (by decide) (by decide) (fun u_94 H locs hw_95 hP hD hS => ?_)
    obtain ⟨wr2_96, pgf2_97⟩ := u_94
    try dsimp only at hw_95
    obtain ⟨h_98, h_99⟩ := hw_95
    have hP : va_P G.1 vwCl ([(mm, .inr (5, [tx, .int sz, .int at0, .ref tk, .ref tp, .ref ou, .int tm, .int om, al, pt, .ref pg, .int wr2_96])), (pg, .inl (G.2.1 0, 4000, .inl pgf2_97))] ++ pl) H := hP
    have hD : va_D A ([(mm, .inr (5, [tx, .int sz, .int at0, .ref tk, .ref tp, .ref ou, .int tm, .int om, al, pt, .ref pg, .int wr2_96])), (pg, .inl (G.2.1 0, 4000, .inl pgf2_97))] ++ pl) := hD
    refine lv_iconst (v := 0) hx hb d_M_write_p_215 (by decide) ?_
    refine lv_istore_n (lv' := [(2, .int 0), (0, .ref mm), (1, .ref pa)]) hx hb d_M_write_p_216 rfl hl (by decide) rfl (fun ls hl => ?_)
    have tl_0 : (0 : Int32).toInt = 0 := by decide
    exact J_217 _ 0 wr2_96 pgf2_97 h_98 (by first | assumption | trivial | omega | (dsimp only; omega)) (by first | assumption | trivial | omega | (dsimp only; omega)) (by rw [sm_0]; omega) (Nat.lt_succ_self _) _ _ (hP.part [0, 1] rfl) (hD.part [0, 1] (by decide) rfl) hS _ (lv_sub hl [0, 1, 2] rfl)
  · exact absurd c_92 (by decide)
set_option maxHeartbeats 1000000 in
theorem rec_mw (l : Launch) (G : GG) : ∀ d, C_mw l G d := by
  intro d
  induction d with
  | zero => intro mm tp tk ou pg sz at0 tm om wr al pt tx pgf pa w9 pl hpf hw0 hg; exact hg.elim
  | succ d ih =>
    intro mm tp tk ou pg sz at0 tm om wr al pt tx pgf pa w9 pl hpf hw0 hg
    obtain ⟨kd, x, y, m, b, it, nm, ws, nl, h1, h2, h3, h4, h5, h6⟩ := hg
    rcases h3 with ⟨hk, rfl, rfl, rfl, hq⟩ | ⟨rfl, rfl, rfl, rfl, c, sg, hn, hq⟩ | ⟨rfl, rfl, hb, rfl, hl, hq⟩ | ⟨rfl, rfl, hb, rfl, hl, hq⟩ | ⟨rfl, rfl, rfl, rfl, c1, c2, hn, hm, hq⟩ | ⟨rfl, rfl, rfl, hi, hs⟩ | ⟨rfl, rfl, hn, hi, hl, hs⟩
    · rcases hk with rfl | rfl | rfl
      · exact s_w0 l G (d + 1) mm tp tk ou pg sz at0 tm om wr al pt tx pgf pa w9 _ _ _ _ _ _ pl hpf hw0 h1 hq
      · exact s_w1 l G (d + 1) mm tp tk ou pg sz at0 tm om wr al pt tx pgf pa w9 _ _ _ _ _ _ pl hpf hw0 h1 hq
      · exact s_w2 l G (d + 1) mm tp tk ou pg sz at0 tm om wr al pt tx pgf pa w9 _ _ _ _ _ _ pl hpf hw0 h1 hq
    · exact s_w3 l G (d + 1) mm tp tk ou pg sz at0 tm om wr al pt tx pgf pa w9 x _ _ _ _ _ c sg pl hpf hw0 h1 hn hq
    · obtain ⟨q, rfl⟩ := Option.ne_none_iff_exists'.mp hb
      obtain ⟨f, g1, g2⟩ := h4 q rfl
      exact s_w4 l G (d + 1) mm tp tk ou pg sz at0 tm om wr al pt tx pgf pa w9 _ _ _ _ _ q (nl 0) f pl hpf hw0 h1 g1 hq
    · obtain ⟨q, rfl⟩ := Option.ne_none_iff_exists'.mp hb
      obtain ⟨f, g1, g2⟩ := h4 q rfl
      exact s_w5 l G (d + 1) mm tp tk ou pg sz at0 tm om wr al pt tx pgf pa w9 _ _ _ _ _ q (nl 0) f pl hpf hw0 h1 g1 hq hl
    · exact s_w8 l G (d + 1) mm tp tk ou pg sz at0 tm om wr al pt tx pgf pa w9 x y _ _ _ _ c1 c2 pl hpf hw0 h1 hn hm hq
    · obtain ⟨q, rfl⟩ := Option.ne_none_iff_exists'.mp hi
      obtain ⟨n, g, g1, g2, g3, g4⟩ := h5 q rfl
      exact s_w6 l G d ih mm tp tk ou pg sz at0 tm om wr al pt tx pgf pa w9 m q n g ws _ _ _ _ pl hpf hw0 h1 g1 ⟨h2, g2, g3⟩ g4 hs
    · obtain ⟨q, rfl⟩ := Option.ne_none_iff_exists'.mp hi
      obtain ⟨r, rfl⟩ := Option.ne_none_iff_exists'.mp hn
      obtain ⟨n, g, g1, g2, g3, g4⟩ := h5 q rfl
      obtain ⟨nn, gn, k1, k2, k3, k4⟩ := h6 r rfl
      exact s_w7 l G d ih mm tp tk ou pg sz at0 tm om wr al pt tx pgf pa w9 m q n g ws _ _ _ r nn gn nl pl hpf hw0 h1 g1 ⟨h2, g2, g3⟩ g4 k1 ⟨k2, k3⟩ k4 hs
