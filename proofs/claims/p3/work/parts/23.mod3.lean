def rm_M_end : Room := { frames := 1, cells := 0, slots := 0, locals := 25 }
set_option maxHeartbeats 4000000 in
set_option maxRecDepth 100000 in
theorem c_M_end (l : Launch) (G : GG) (mm : Nat) (tp : Nat) (tk : Nat) (ou : Nat) (pg : Nat) (sz : Int32) (at0 : Int32) (tm : Int32) (om : Int32) (wr : Int32) (al : Value) (pt : Value) (tx : Value) (n : Int32) (ht : 0 ≤ tm.toInt ∧ tm.toInt ≤ 1000) : MI l y_M_end b_M_end 2 .int rm_M_end G [.ref mm, .int n] [(mm, .inr (5, [tx, .int sz, .int at0, .ref tk, .ref tp, .ref ou, .int tm, .int om, al, pt, .ref pg, .int wr]))] (fun (v : Int32) (u : Int32) => (v = edV tm n) ∧ (u = edT tm n)) (fun (u : Int32) => [(mm, .inr (5, [tx, .int sz, .int at0, .ref tk, .ref tp, .ref ou, .int u, .int om, al, pt, .ref pg, .int wr]))]) 0 0 := by
  refine MI.of (cc := b_M_end) (maxL := 2) (ty := .int) (C := R_M) (by decide +kernel) rfl (Nat.le_of_ble_eq_true rfl) ?_
  intro p e s m args below meth c A Q H ls hx hb hml hown hw hE hA hP hD hS ret hl
  have hl : lv_has ls 2 [(0, .ref mm), (1, .int n)] := hl
  refine lv_iload_n hx hb d_M_end_0 rfl (lv_at hl 1 rfl) ?_
  refine lv_i2l hx hb d_M_end_1 rfl ?_
  refine lv_lconst (v := 0) hx hb d_M_end_2 rfl ?_
  refine lv_aload_n hx hb d_M_end_3 rfl (lv_at hl 0 rfl) ?_
  refine va_get (D := G.1) (ci := 5) (v := .int tm) (C := R_M) (T := F_M) (N := 12) hx hb hw i_M hown hE.1 hP 0 rfl rfl 6 (by decide) (hw _ m_459) (fun _ h9 => h9) rfl d_M_end_4 ?_
  refine lv_i2l hx hb d_M_end_7 rfl ?_
  refine gc_i (wr := [(mm, .inr (5, [tx, .int sz, .int at0, .ref tk, .ref tp, .ref ou, .int tm, .int om, al, pt, .ref pg, .int wr]))]) (gc_S (wc := []) (As := [.long n.toInt64, .long 0, .long tm.toInt64]) (rest := []) ⟨hx, hb, hml, hown, hw⟩ (c_M_in l G n.toInt64 0 tm.toInt64 n.toInt 0 tm.toInt (Int32.toInt_toInt64 _) (by decide) (Int32.toInt_toInt64 _) H.size) (va_cwS 3 hw (good_S m_498 m_499 m_4 m_500) rfl rfl rfl hy_M_in.2 ⟨Nat.le_of_ble_eq_true rfl, Nat.le_of_ble_eq_true rfl⟩) hE hP hD hS hA [] rfl (by decide) rfl hl rfl (Nat.le_of_ble_eq_true rfl) d_M_end_8 ⟨Nat.le_of_ble_eq_true rfl, Nat.le_of_ble_eq_true rfl⟩) hP hD hS hA [] [0] rfl rfl (by decide) (by decide) (fun r_1 u_2 H locs hw_3 hP hD hS => ?_)
  try dsimp only at hw_3
  have h_4 := hw_3
  have hP : va_P G.1 vwCl [(mm, .inr (5, [tx, .int sz, .int at0, .ref tk, .ref tp, .ref ou, .int tm, .int om, al, pt, .ref pg, .int wr]))] H := hP
  have hD : va_D A [(mm, .inr (5, [tx, .int sz, .int at0, .ref tk, .ref tp, .ref ou, .int tm, .int om, al, pt, .ref pg, .int wr]))] := hD
  refine lv_if_ne (tgt := 16) hx hb d_M_end_11 (by decide) (fun c_5 => ?_) (fun c_5 => ?_)
  · have tc_5 := bool_t h_4 c_5
    refine lv_aload_n hx hb d_M_end_16 rfl (lv_at hl 0 rfl) ?_
    refine lv_iload_n hx hb d_M_end_17 rfl (lv_at hl 1 rfl) ?_
    refine va_put (D := G.1) (ci := 5) (v := .int n) (ty := .int) (C := R_M) (T := F_M) (N := 12) hx hb hw i_M t_M t_M_ok n_M hown hE.1 hP hD hS 0 rfl rfl 6 (by decide) (hw _ m_459) (fun _ h9 => h9) rfl (by decide +kernel) rfl rfl (Nat.le_of_ble_eq_true rfl) d_M_end_18 (fun H locs hP hD hS => ?_)
    have hP : va_P G.1 vwCl [(mm, .inr (5, [tx, .int sz, .int at0, .ref tk, .ref tp, .ref ou, .int n, .int om, al, pt, .ref pg, .int wr]))] H := hP
    have hD : va_D A [(mm, .inr (5, [tx, .int sz, .int at0, .ref tk, .ref tp, .ref ou, .int n, .int om, al, pt, .ref pg, .int wr]))] := hD
    refine lv_iload_n hx hb d_M_end_21 rfl (lv_at hl 1 rfl) ?_
    exact ret n (n) (Nat.le_of_ble_eq_true rfl) (Nat.le_of_ble_eq_true rfl) d_M_end_22 rfl ⟨(by first | exact (edM1 (by assumption)).1.symm | exact (edM2 (by assumption)).1.symm), (by first | exact (edM1 (by assumption)).2.symm | exact (edM2 (by assumption)).2.symm)⟩ (hP.sub [0] rfl) (hD.sub [0] (by decide) rfl) hS
  · have tc_5 := bool_f h_4 c_5
    refine lv_iconst (v := (-1)) hx hb d_M_end_14 (by decide) ?_
    exact ret (-1) (tm) (Nat.le_of_ble_eq_true rfl) (Nat.le_of_ble_eq_true rfl) d_M_end_15 rfl ⟨(by first | exact (edM1 (by assumption)).1.symm | exact (edM2 (by assumption)).1.symm), (by first | exact (edM1 (by assumption)).2.symm | exact (edM2 (by assumption)).2.symm)⟩ (hP.sub [0] rfl) (hD.sub [0] (by decide) rfl) hS
def rm_M_used : Room := { frames := 0, cells := 0, slots := 0, locals := 0 }
set_option maxHeartbeats 4000000 in
set_option maxRecDepth 100000 in
theorem c_M_used (l : Launch) (G : GG) (mm : Nat) (tp : Nat) (tk : Nat) (ou : Nat) (pg : Nat) (sz : Int32) (at0 : Int32) (tm : Int32) (om : Int32) (wr : Int32) (al : Value) (pt : Value) (tx : Value) (ht : 0 ≤ tm.toInt ∧ tm.toInt ≤ 1000) : MI l y_M_used b_M_used 2 .int rm_M_used G [.ref mm] [(mm, .inr (5, [tx, .int sz, .int at0, .ref tk, .ref tp, .ref ou, .int tm, .int om, al, pt, .ref pg, .int wr]))] (fun (v : Int32) (u : Int32) => (tm = v) ∧ (u = 0)) (fun (u : Int32) => [(mm, .inr (5, [tx, .int sz, .int at0, .ref tk, .ref tp, .ref ou, .int u, .int om, al, pt, .ref pg, .int wr]))]) 0 0 := by
  refine MI.of (cc := b_M_used) (maxL := 2) (ty := .int) (C := R_M) (by decide +kernel) rfl (Nat.le_of_ble_eq_true rfl) ?_
  intro p e s m args below meth c A Q H ls hx hb hml hown hw hE hA hP hD hS ret hl
  have hl : lv_has ls 2 [(0, .ref mm)] := hl
  refine lv_aload_n hx hb d_M_used_0 rfl (lv_at hl 0 rfl) ?_
  refine va_get (D := G.1) (ci := 5) (v := .int tm) (C := R_M) (T := F_M) (N := 12) hx hb hw i_M hown hE.1 hP 0 rfl rfl 6 (by decide) (hw _ m_459) (fun _ h9 => h9) rfl d_M_used_1 ?_
  refine lv_istore_n (lv' := [(1, .int tm), (0, .ref mm)]) hx hb d_M_used_4 rfl hl (by decide) rfl (fun ls hl => ?_)
  refine lv_aload_n hx hb d_M_used_5 rfl (lv_at hl 1 rfl) ?_
  refine lv_iconst (v := 0) hx hb d_M_used_6 (by decide) ?_
  refine va_put (D := G.1) (ci := 5) (v := .int 0) (ty := .int) (C := R_M) (T := F_M) (N := 12) hx hb hw i_M t_M t_M_ok n_M hown hE.1 hP hD hS 0 rfl rfl 6 (by decide) (hw _ m_459) (fun _ h9 => h9) rfl (by decide +kernel) rfl rfl (Nat.le_of_ble_eq_true rfl) d_M_used_7 (fun H locs hP hD hS => ?_)
  have hP : va_P G.1 vwCl [(mm, .inr (5, [tx, .int sz, .int at0, .ref tk, .ref tp, .ref ou, .int 0, .int om, al, pt, .ref pg, .int wr]))] H := hP
  have hD : va_D A [(mm, .inr (5, [tx, .int sz, .int at0, .ref tk, .ref tp, .ref ou, .int 0, .int om, al, pt, .ref pg, .int wr]))] := hD
  refine lv_iload_n hx hb d_M_used_10 rfl (lv_at hl 0 rfl) ?_
  exact ret tm (0) (Nat.le_of_ble_eq_true rfl) (Nat.le_of_ble_eq_true rfl) d_M_used_11 rfl ⟨rfl, rfl⟩ (hP.sub [0] rfl) (hD.sub [0] (by decide) rfl) hS
def rm_M_octet : Room := { frames := 1, cells := 0, slots := 0, locals := 25 }
set_option maxHeartbeats 4000000 in
set_option maxRecDepth 100000 in
theorem c_M_octet (l : Launch) (G : GG) (mm : Nat) (tp : Nat) (tk : Nat) (ou : Nat) (pg : Nat) (sz : Int32) (at0 : Int32) (tm : Int32) (om : Int32) (wr : Int32) (al : Value) (pt : Value) (tx : Value) (ouf : Nat → Int32) (i : Int32) (ho : 0 ≤ om.toInt ∧ om.toInt ≤ 4000) : MI l y_M_octet b_M_octet 2 .int rm_M_octet G [.ref mm, .int i] [(mm, .inr (5, [tx, .int sz, .int at0, .ref tk, .ref tp, .ref ou, .int tm, .int om, al, pt, .ref pg, .int wr])), (ou, .inl (G.2.1 0, 4000, .inl ouf))] (fun (v : Int32) (u : Unit) => True) (fun (u : Unit) => [(mm, .inr (5, [tx, .int sz, .int at0, .ref tk, .ref tp, .ref ou, .int tm, .int om, al, pt, .ref pg, .int wr])), (ou, .inl (G.2.1 0, 4000, .inl ouf))]) 0 0 := by
  refine MI.of (cc := b_M_octet) (maxL := 2) (ty := .int) (C := R_M) (by decide +kernel) rfl (Nat.le_of_ble_eq_true rfl) ?_
  intro p e s m args below meth c A Q H ls hx hb hml hown hw hE hA hP hD hS ret hl
  have hl : lv_has ls 2 [(0, .ref mm), (1, .int i)] := hl
  refine lv_iload_n hx hb d_M_octet_0 rfl (lv_at hl 1 rfl) ?_
  refine lv_i2l hx hb d_M_octet_1 rfl ?_
  refine lv_ldc2 (v := (-1)) hx hb hown (hw _ m_710) d_M_octet_2 ?_
  refine lv_aload_n hx hb d_M_octet_5 rfl (lv_at hl 0 rfl) ?_
  refine va_get (D := G.1) (ci := 5) (v := .int om) (C := R_M) (T := F_M) (N := 12) hx hb hw i_M hown hE.1 hP 0 rfl rfl 7 (by decide) (hw _ m_460) (fun _ h9 => h9) rfl d_M_octet_6 ?_
  refine lv_iconst (v := 1) hx hb d_M_octet_9 (by decide) ?_
  refine lv_isub hx hb d_M_octet_10 ?_
  refine lv_topi (fun y_1 ey_1 => ?_)
  have tl_1 : (1 : Int32).toInt = 1 := by decide
  have ty_1 := z_subE ey_1
  refine lv_i2l hx hb d_M_octet_11 rfl ?_
  refine gc_i (wr := [(mm, .inr (5, [tx, .int sz, .int at0, .ref tk, .ref tp, .ref ou, .int tm, .int om, al, pt, .ref pg, .int wr])), (ou, .inl (G.2.1 0, 4000, .inl ouf))]) (gc_S (wc := []) (As := [.long i.toInt64, .long (-1), .long y_1.toInt64]) (rest := []) ⟨hx, hb, hml, hown, hw⟩ (c_M_in l G i.toInt64 (-1) y_1.toInt64 i.toInt (-1) y_1.toInt (Int32.toInt_toInt64 _) (by decide) (Int32.toInt_toInt64 _) H.size) (va_cwS 3 hw (good_S m_498 m_499 m_4 m_500) rfl rfl rfl hy_M_in.2 ⟨Nat.le_of_ble_eq_true rfl, Nat.le_of_ble_eq_true rfl⟩) hE hP hD hS hA [] rfl (by decide) rfl hl rfl (Nat.le_of_ble_eq_true rfl) d_M_octet_12 ⟨Nat.le_of_ble_eq_true rfl, Nat.le_of_ble_eq_true rfl⟩) hP hD hS hA [] [0, 1] rfl rfl (by decide) (by decide) (fun r_2 u_3 H locs hw_4 hP hD hS => ?_)
  try dsimp only at hw_4
  have h_5 := hw_4
  have hP : va_P G.1 vwCl [(mm, .inr (5, [tx, .int sz, .int at0, .ref tk, .ref tp, .ref ou, .int tm, .int om, al, pt, .ref pg, .int wr])), (ou, .inl (G.2.1 0, 4000, .inl ouf))] H := hP
  have hD : va_D A [(mm, .inr (5, [tx, .int sz, .int at0, .ref tk, .ref tp, .ref ou, .int tm, .int om, al, pt, .ref pg, .int wr])), (ou, .inl (G.2.1 0, 4000, .inl ouf))] := hD
  refine lv_if_ne (tgt := 21) hx hb d_M_octet_15 (by decide) (fun c_6 => ?_) (fun c_6 => ?_)
  · have tc_6 := bool_t h_5 c_6
    refine lv_iload_n hx hb d_M_octet_21 rfl (lv_at hl 1 rfl) ?_
    refine lv_if_ge (tgt := 32) hx hb d_M_octet_22 (by decide) (fun c_7 => ?_) (fun c_7 => ?_)
    · have tl_0 : (0 : Int32).toInt = 0 := by decide
      have tc_7 := z_le.mp c_7
      refine lv_aload_n hx hb d_M_octet_32 rfl (lv_at hl 0 rfl) ?_
      refine va_get (D := G.1) (ci := 5) (v := .ref ou) (C := R_M) (T := F_M) (N := 12) hx hb hw i_M hown hE.1 hP 0 rfl rfl 5 (by decide) (hw _ m_458) (fun _ h9 => h9) rfl d_M_octet_33 ?_
      refine lv_iload_n hx hb d_M_octet_36 rfl (lv_at hl 1 rfl) ?_
      refine va_bald hx hb hE.1 hP 1 0 rfl rfl (i := i) (z_in (by omega) (by omega)) d_M_octet_37 ?_
      refine lv_topi (fun y_8 ey_8 => ?_)
      refine lv_sipush (v := 255) hx hb d_M_octet_38 (by decide) ?_
      refine lv_iand hx hb d_M_octet_41 ?_
      refine lv_topi (fun y_9 ey_9 => ?_)
      exact ret y_9 () (Nat.le_of_ble_eq_true rfl) (Nat.le_of_ble_eq_true rfl) d_M_octet_42 rfl trivial (hP.sub [0, 1] rfl) (hD.sub [0, 1] (by decide) rfl) hS
    · have tl_0 : (0 : Int32).toInt = 0 := by decide
      have tc_7 := z_nle c_7
      refine lv_aload_n hx hb d_M_octet_25 rfl (lv_at hl 0 rfl) ?_
      refine va_get (D := G.1) (ci := 5) (v := .int om) (C := R_M) (T := F_M) (N := 12) hx hb hw i_M hown hE.1 hP 0 rfl rfl 7 (by decide) (hw _ m_460) (fun _ h9 => h9) rfl d_M_octet_26 ?_
      refine lv_goto (tgt := 42) hx hb d_M_octet_29 (by decide) ?_
      exact ret om () (Nat.le_of_ble_eq_true rfl) (Nat.le_of_ble_eq_true rfl) d_M_octet_42 rfl trivial (hP.sub [0, 1] rfl) (hD.sub [0, 1] (by decide) rfl) hS
  · have tc_6 := bool_f h_5 c_6
    refine lv_bipush (v := (-2)) hx hb d_M_octet_18 (by decide) ?_
    exact ret (-2) () (Nat.le_of_ble_eq_true rfl) (Nat.le_of_ble_eq_true rfl) d_M_octet_20 rfl trivial (hP.sub [0, 1] rfl) (hD.sub [0, 1] (by decide) rfl) hS
def rm_M_init : Room := { frames := 1, cells := 4, slots := 9101, locals := 12 }
set_option maxHeartbeats 4000000 in
set_option maxRecDepth 100000 in
theorem c_M_init (l : Launch) (G : GG) (mm : Nat) : MV l y_M_init b_M_init 1 rm_M_init G [.ref mm] [(mm, .inr (5, [.null, .int 0, .int 0, .null, .null, .null, .int 0, .int 0, .null, .null, .null, .int 0]))] (fun (u : Nat × Nat × Nat × Nat) => True) (fun (u : Nat × Nat × Nat × Nat) => [(mm, .inr (5, [.null, .int 0, .int 0, .ref u.1, .ref u.2.1, .ref u.2.2.1, .int 0, .int 0, .null, .null, .ref u.2.2.2, .int 0])), (u.1, .inl (G.2.1 0, 101, .inl (fun _ => 0))), (u.2.1, .inl (G.2.1 0, 1000, .inl (fun _ => 0))), (u.2.2.1, .inl (G.2.1 0, 4000, .inl (fun _ => 0))), (u.2.2.2, .inl (G.2.1 0, 4000, .inl (fun _ => 0)))]) 4 9101 := by
  refine MV.of (cc := b_M_init) (maxL := 1) (C := R_M) (by decide +kernel) rfl (Nat.le_of_ble_eq_true rfl) ?_
  intro p e s m args below meth c A Q H ls hx hb hml hown hw hE hA hP hD hS hin ret hl
  have hl : lv_has ls 1 [(0, .ref mm)] := hl
  refine lv_aload_n hx hb d_M_init_0 rfl (lv_at hl 0 rfl) ?_
  refine W.objInit hx hb hown (hw _ m_452) (hw _ m_21) (hw _ m_oi) rfl (by rw [hml]; exact hl.1) rfl d_M_init_1 (Nat.le_of_ble_eq_true rfl) (Nat.le_of_ble_eq_true rfl) ?_
  refine W.eq (g2 := F0 m 4 ls []) rfl ?_
  refine lv_aload_n hx hb d_M_init_4 rfl (lv_at hl 0 rfl) ?_
  refine lv_bipush (v := 101) hx hb d_M_init_5 (by decide) ?_
  refine gc_newa (atype := .byte) (ty := .byte) (N' := 101) (a0 := (101, .inl (fun _ => 0))) hx hb (hw _ m_36) rfl hE hP hD hS hA 0 rfl (fun _ h => h) (fun _ => rfl) (by decide) (by decide) (by decide) (Nat.le_of_ble_eq_true rfl) (Nat.le_of_ble_eq_true rfl) d_M_init_7 (fun q_1 H hP hD hS => ?_)
  have hP : va_P G.1 vwCl [(mm, .inr (5, [.null, .int 0, .int 0, .null, .null, .null, .int 0, .int 0, .null, .null, .null, .int 0])), (q_1, .inl (G.2.1 0, 101, .inl (fun _ => 0)))] H := hP
  have hD : va_D A [(mm, .inr (5, [.null, .int 0, .int 0, .null, .null, .null, .int 0, .int 0, .null, .null, .null, .int 0])), (q_1, .inl (G.2.1 0, 101, .inl (fun _ => 0)))] := hD
  refine W.widen (k := 1) (n := 101) (Nat.le_of_ble_eq_true rfl) (Nat.le_of_ble_eq_true rfl) ?_
  refine va_putF (D := G.1) (ci := 5) (v := .ref q_1) (ty := (.array .byte)) (C := R_M) (T := F_M) (N := 12) hx hb hw i_M t_M t_M_ok n_M hown hE.1 hP hD hS 0 rfl rfl 3 (by decide) (hw _ m_456) (fun _ h9 => h9) rfl hin rfl (by decide +kernel) rfl rfl (Nat.le_of_ble_eq_true rfl) d_M_init_9 (fun H locs hP hD hS => ?_)
  have hP : va_P G.1 vwCl [(mm, .inr (5, [.null, .int 0, .int 0, .ref q_1, .null, .null, .int 0, .int 0, .null, .null, .null, .int 0])), (q_1, .inl (G.2.1 0, 101, .inl (fun _ => 0)))] H := hP
  have hD : va_D A [(mm, .inr (5, [.null, .int 0, .int 0, .ref q_1, .null, .null, .int 0, .int 0, .null, .null, .null, .int 0])), (q_1, .inl (G.2.1 0, 101, .inl (fun _ => 0)))] := hD
  refine lv_aload_n hx hb d_M_init_12 rfl (lv_at hl 0 rfl) ?_
  refine lv_sipush (v := 1000) hx hb d_M_init_13 (by decide) ?_
  refine gc_newa (atype := .byte) (ty := .byte) (N' := 1000) (a0 := (1000, .inl (fun _ => 0))) hx hb (hw _ m_36) rfl hE hP hD hS hA 0 rfl (fun _ h => h) (fun _ => rfl) (by decide) (by decide) (by decide) (Nat.le_of_ble_eq_true rfl) (Nat.le_of_ble_eq_true rfl) d_M_init_16 (fun q_2 H hP hD hS => ?_)
  have hP : va_P G.1 vwCl [(mm, .inr (5, [.null, .int 0, .int 0, .ref q_1, .null, .null, .int 0, .int 0, .null, .null, .null, .int 0])), (q_1, .inl (G.2.1 0, 101, .inl (fun _ => 0))), (q_2, .inl (G.2.1 0, 1000, .inl (fun _ => 0)))] H := hP
  have hD : va_D A [(mm, .inr (5, [.null, .int 0, .int 0, .ref q_1, .null, .null, .int 0, .int 0, .null, .null, .null, .int 0])), (q_1, .inl (G.2.1 0, 101, .inl (fun _ => 0))), (q_2, .inl (G.2.1 0, 1000, .inl (fun _ => 0)))] := hD
  refine W.widen (k := 2) (n := 1101) (Nat.le_of_ble_eq_true rfl) (Nat.le_of_ble_eq_true rfl) ?_
  refine va_putF (D := G.1) (ci := 5) (v := .ref q_2) (ty := (.array .byte)) (C := R_M) (T := F_M) (N := 12) hx hb hw i_M t_M t_M_ok n_M hown hE.1 hP hD hS 0 rfl rfl 4 (by decide) (hw _ m_457) (fun _ h9 => h9) rfl hin rfl (by decide +kernel) rfl rfl (Nat.le_of_ble_eq_true rfl) d_M_init_18 (fun H locs hP hD hS => ?_)
  have hP : va_P G.1 vwCl [(mm, .inr (5, [.null, .int 0, .int 0, .ref q_1, .ref q_2, .null, .int 0, .int 0, .null, .null, .null, .int 0])), (q_1, .inl (G.2.1 0, 101, .inl (fun _ => 0))), (q_2, .inl (G.2.1 0, 1000, .inl (fun _ => 0)))] H := hP
  have hD : va_D A [(mm, .inr (5, [.null, .int 0, .int 0, .ref q_1, .ref q_2, .null, .int 0, .int 0, .null, .null, .null, .int 0])), (q_1, .inl (G.2.1 0, 101, .inl (fun _ => 0))), (q_2, .inl (G.2.1 0, 1000, .inl (fun _ => 0)))] := hD
  refine lv_aload_n hx hb d_M_init_21 rfl (lv_at hl 0 rfl) ?_
  refine lv_sipush (v := 4000) hx hb d_M_init_22 (by decide) ?_
  refine gc_newa (atype := .byte) (ty := .byte) (N' := 4000) (a0 := (4000, .inl (fun _ => 0))) hx hb (hw _ m_36) rfl hE hP hD hS hA 0 rfl (fun _ h => h) (fun _ => rfl) (by decide) (by decide) (by decide) (Nat.le_of_ble_eq_true rfl) (Nat.le_of_ble_eq_true rfl) d_M_init_25 (fun q_3 H hP hD hS => ?_)
  have hP : va_P G.1 vwCl [(mm, .inr (5, [.null, .int 0, .int 0, .ref q_1, .ref q_2, .null, .int 0, .int 0, .null, .null, .null, .int 0])), (q_1, .inl (G.2.1 0, 101, .inl (fun _ => 0))), (q_2, .inl (G.2.1 0, 1000, .inl (fun _ => 0))), (q_3, .inl (G.2.1 0, 4000, .inl (fun _ => 0)))] H := hP
  have hD : va_D A [(mm, .inr (5, [.null, .int 0, .int 0, .ref q_1, .ref q_2, .null, .int 0, .int 0, .null, .null, .null, .int 0])), (q_1, .inl (G.2.1 0, 101, .inl (fun _ => 0))), (q_2, .inl (G.2.1 0, 1000, .inl (fun _ => 0))), (q_3, .inl (G.2.1 0, 4000, .inl (fun _ => 0)))] := hD
  refine W.widen (k := 3) (n := 5101) (Nat.le_of_ble_eq_true rfl) (Nat.le_of_ble_eq_true rfl) ?_
  refine va_putF (D := G.1) (ci := 5) (v := .ref q_3) (ty := (.array .byte)) (C := R_M) (T := F_M) (N := 12) hx hb hw i_M t_M t_M_ok n_M hown hE.1 hP hD hS 0 rfl rfl 5 (by decide) (hw _ m_458) (fun _ h9 => h9) rfl hin rfl (by decide +kernel) rfl rfl (Nat.le_of_ble_eq_true rfl) d_M_init_27 (fun H locs hP hD hS => ?_)
  have hP : va_P G.1 vwCl [(mm, .inr (5, [.null, .int 0, .int 0, .ref q_1, .ref q_2, .ref q_3, .int 0, .int 0, .null, .null, .null, .int 0])), (q_1, .inl (G.2.1 0, 101, .inl (fun _ => 0))), (q_2, .inl (G.2.1 0, 1000, .inl (fun _ => 0))), (q_3, .inl (G.2.1 0, 4000, .inl (fun _ => 0)))] H := hP
  have hD : va_D A [(mm, .inr (5, [.null, .int 0, .int 0, .ref q_1, .ref q_2, .ref q_3, .int 0, .int 0, .null, .null, .null, .int 0])), (q_1, .inl (G.2.1 0, 101, .inl (fun _ => 0))), (q_2, .inl (G.2.1 0, 1000, .inl (fun _ => 0))), (q_3, .inl (G.2.1 0, 4000, .inl (fun _ => 0)))] := hD
  refine lv_aload_n hx hb d_M_init_30 rfl (lv_at hl 0 rfl) ?_
  refine lv_sipush (v := 4000) hx hb d_M_init_31 (by decide) ?_
  refine gc_newa (atype := .byte) (ty := .byte) (N' := 4000) (a0 := (4000, .inl (fun _ => 0))) hx hb (hw _ m_36) rfl hE hP hD hS hA 0 rfl (fun _ h => h) (fun _ => rfl) (by decide) (by decide) (by decide) (Nat.le_of_ble_eq_true rfl) (Nat.le_of_ble_eq_true rfl) d_M_init_34 (fun q_4 H hP hD hS => ?_)
  have hP : va_P G.1 vwCl [(mm, .inr (5, [.null, .int 0, .int 0, .ref q_1, .ref q_2, .ref q_3, .int 0, .int 0, .null, .null, .null, .int 0])), (q_1, .inl (G.2.1 0, 101, .inl (fun _ => 0))), (q_2, .inl (G.2.1 0, 1000, .inl (fun _ => 0))), (q_3, .inl (G.2.1 0, 4000, .inl (fun _ => 0))), (q_4, .inl (G.2.1 0, 4000, .inl (fun _ => 0)))] H := hP
  have hD : va_D A [(mm, .inr (5, [.null, .int 0, .int 0, .ref q_1, .ref q_2, .ref q_3, .int 0, .int 0, .null, .null, .null, .int 0])), (q_1, .inl (G.2.1 0, 101, .inl (fun _ => 0))), (q_2, .inl (G.2.1 0, 1000, .inl (fun _ => 0))), (q_3, .inl (G.2.1 0, 4000, .inl (fun _ => 0))), (q_4, .inl (G.2.1 0, 4000, .inl (fun _ => 0)))] := hD
  refine W.widen (k := 4) (n := 9101) (Nat.le_of_ble_eq_true rfl) (Nat.le_of_ble_eq_true rfl) ?_
  refine va_putF (D := G.1) (ci := 5) (v := .ref q_4) (ty := (.array .byte)) (C := R_M) (T := F_M) (N := 12) hx hb hw i_M t_M t_M_ok n_M hown hE.1 hP hD hS 0 rfl rfl 10 (by decide) (hw _ m_463) (fun _ h9 => h9) rfl hin rfl (by decide +kernel) rfl rfl (Nat.le_of_ble_eq_true rfl) d_M_init_36 (fun H locs hP hD hS => ?_)
  have hP : va_P G.1 vwCl [(mm, .inr (5, [.null, .int 0, .int 0, .ref q_1, .ref q_2, .ref q_3, .int 0, .int 0, .null, .null, .ref q_4, .int 0])), (q_1, .inl (G.2.1 0, 101, .inl (fun _ => 0))), (q_2, .inl (G.2.1 0, 1000, .inl (fun _ => 0))), (q_3, .inl (G.2.1 0, 4000, .inl (fun _ => 0))), (q_4, .inl (G.2.1 0, 4000, .inl (fun _ => 0)))] H := hP
  have hD : va_D A [(mm, .inr (5, [.null, .int 0, .int 0, .ref q_1, .ref q_2, .ref q_3, .int 0, .int 0, .null, .null, .ref q_4, .int 0])), (q_1, .inl (G.2.1 0, 101, .inl (fun _ => 0))), (q_2, .inl (G.2.1 0, 1000, .inl (fun _ => 0))), (q_3, .inl (G.2.1 0, 4000, .inl (fun _ => 0))), (q_4, .inl (G.2.1 0, 4000, .inl (fun _ => 0)))] := hD
  exact ret (q_1, q_2, q_3, q_4) (Nat.le_of_ble_eq_true rfl) (Nat.le_of_ble_eq_true rfl) d_M_init_39 trivial (hP.sub [0, 1, 2, 3, 4] rfl) (hD.sub [0, 1, 2, 3, 4] (by decide) rfl) hS
def rm_Part_init : Room := { frames := 1, cells := 0, slots := 0, locals := 12 }
set_option maxHeartbeats 4000000 in
set_option maxRecDepth 100000 in
theorem c_Part_init (l : Launch) (G : GG) (p0 : Nat) (kd : Int32) : MV l y_Part_init b_Part_init 2 rm_Part_init G [.ref p0, .int kd] [(p0, .inr (6, [.int 0, .int 0, .int 0, .int 0, .null, .null, .null]))] (fun (u : Unit) => True) (fun (u : Unit) => [(p0, .inr (6, [.int kd, .int 0, .int 0, .int 0, .null, .null, .null]))]) 0 0 := by
  refine MV.of (cc := b_Part_init) (maxL := 2) (C := R_Part) (by decide +kernel) rfl (Nat.le_of_ble_eq_true rfl) ?_
  intro p e s m args below meth c A Q H ls hx hb hml hown hw hE hA hP hD hS hin ret hl
  have hl : lv_has ls 2 [(0, .ref p0), (1, .int kd)] := hl
  refine lv_aload_n hx hb d_Part_init_0 rfl (lv_at hl 0 rfl) ?_
  refine W.objInit hx hb hown (hw _ m_540) (hw _ m_21) (hw _ m_oi) rfl (by rw [hml]; exact hl.1) rfl d_Part_init_1 (Nat.le_of_ble_eq_true rfl) (Nat.le_of_ble_eq_true rfl) ?_
  refine W.eq (g2 := F0 m 4 ls []) rfl ?_
  refine lv_aload_n hx hb d_Part_init_4 rfl (lv_at hl 0 rfl) ?_
  refine lv_iload_n hx hb d_Part_init_5 rfl (lv_at hl 1 rfl) ?_
  refine va_putF (D := G.1) (ci := 6) (v := .int kd) (ty := .int) (C := R_Part) (T := F_Part) (N := 7) hx hb hw i_Part t_Part t_Part_ok n_Part hown hE.1 hP hD hS 0 rfl rfl 0 (by decide) (hw _ m_541) (fun _ h9 => h9) rfl hin rfl (by decide +kernel) rfl rfl (Nat.le_of_ble_eq_true rfl) d_Part_init_6 (fun H locs hP hD hS => ?_)
  have hP : va_P G.1 vwCl [(p0, .inr (6, [.int kd, .int 0, .int 0, .int 0, .null, .null, .null]))] H := hP
  have hD : va_D A [(p0, .inr (6, [.int kd, .int 0, .int 0, .int 0, .null, .null, .null]))] := hD
  exact ret () (Nat.le_of_ble_eq_true rfl) (Nat.le_of_ble_eq_true rfl) d_Part_init_9 trivial (hP.sub [0] rfl) (hD.sub [0] (by decide) rfl) hS
def rm_M_say_i : Room := { frames := 0, cells := 0, slots := 0, locals := 0 }
set_option maxHeartbeats 4000000 in
set_option maxRecDepth 100000 in
theorem c_M_say_i (l : Launch) (G : GG) (mm : Nat) (tp : Nat) (tk : Nat) (ou : Nat) (pg : Nat) (sz : Int32) (at0 : Int32) (tm : Int32) (om : Int32) (wr : Int32) (al : Value) (pt : Value) (tx : Value) (pgf : Nat → Int32) (b : Int32) (hpf : sb_Fit pgf) (hw0 : 0 ≤ wr.toInt ∧ wr.toInt + 1 ≤ 4000) : MV l y_M_say_i b_M_say_i 2 rm_M_say_i G [.ref mm, .int b] [(mm, .inr (5, [tx, .int sz, .int at0, .ref tk, .ref tp, .ref ou, .int tm, .int om, al, pt, .ref pg, .int wr])), (pg, .inl (G.2.1 0, 4000, .inl pgf))] (fun (u : Int32 × (Nat → Int32)) => (sb_Fit u.2) ∧ (u.1.toInt = wr.toInt + 1)) (fun (u : Int32 × (Nat → Int32)) => [(mm, .inr (5, [tx, .int sz, .int at0, .ref tk, .ref tp, .ref ou, .int tm, .int om, al, pt, .ref pg, .int u.1])), (pg, .inl (G.2.1 0, 4000, .inl u.2))]) 0 0 := by
  refine MV.of (cc := b_M_say_i) (maxL := 2) (C := R_M) (by decide +kernel) rfl (Nat.le_of_ble_eq_true rfl) ?_
  intro p e s m args below meth c A Q H ls hx hb hml hown hw hE hA hP hD hS hin ret hl
  have hl : lv_has ls 2 [(0, .ref mm), (1, .int b)] := hl
  refine lv_aload_n hx hb d_M_say_i_0 rfl (lv_at hl 0 rfl) ?_
  refine va_get (D := G.1) (ci := 5) (v := .ref pg) (C := R_M) (T := F_M) (N := 12) hx hb hw i_M hown hE.1 hP 0 rfl rfl 10 (by decide) (hw _ m_463) (fun _ h9 => h9) rfl d_M_say_i_1 ?_
  refine lv_aload_n hx hb d_M_say_i_4 rfl (lv_at hl 0 rfl) ?_
  refine va_get (D := G.1) (ci := 5) (v := .int wr) (C := R_M) (T := F_M) (N := 12) hx hb hw i_M hown hE.1 hP 0 rfl rfl 11 (by decide) (hw _ m_464) (fun _ h9 => h9) rfl d_M_say_i_5 ?_
  refine lv_iload_n hx hb d_M_say_i_8 rfl (lv_at hl 1 rfl) ?_
  refine lv_i2b hx hb d_M_say_i_9 rfl ?_
  refine lv_topi (fun y_1 ey_1 => ?_)
  refine va_bast hx hb hE.1 hP hD hS 1 0 rfl rfl (i := wr) (z_in (by omega) (by omega)) d_M_say_i_10 (fun H locs hP hD hS => ?_)
  obtain ⟨f_2, ef_2⟩ : ∃ y : Nat → Int32, y = upd pgf wr.toNatClampNeg (vp_nar .byte y_1) := ⟨_, rfl⟩
  rw [← ef_2] at hP hD
  have hP : va_P G.1 vwCl [(mm, .inr (5, [tx, .int sz, .int at0, .ref tk, .ref tp, .ref ou, .int tm, .int om, al, pt, .ref pg, .int wr])), (pg, .inl (G.2.1 0, 4000, .inl f_2))] H := hP
  have hD : va_D A [(mm, .inr (5, [tx, .int sz, .int at0, .ref tk, .ref tp, .ref ou, .int tm, .int om, al, pt, .ref pg, .int wr])), (pg, .inl (G.2.1 0, 4000, .inl f_2))] := hD
  have hff_2 : sb_Fit f_2 := by rw [ef_2]; exact fit_upd hpf
  refine lv_aload_n hx hb d_M_say_i_11 rfl (lv_at hl 0 rfl) ?_
  refine lv_dup hx hb d_M_say_i_12 rfl ?_
  refine va_get (D := G.1) (ci := 5) (v := .int wr) (C := R_M) (T := F_M) (N := 12) hx hb hw i_M hown hE.1 hP 0 rfl rfl 11 (by decide) (hw _ m_464) (fun _ h9 => h9) rfl d_M_say_i_13 ?_
  refine lv_iconst (v := 1) hx hb d_M_say_i_16 (by decide) ?_
  refine lv_iadd hx hb d_M_say_i_17 ?_
  refine lv_topi (fun y_3 ey_3 => ?_)
  have tl_1 : (1 : Int32).toInt = 1 := by decide
  have ty_3 := z_addE ey_3
  refine va_put (D := G.1) (ci := 5) (v := .int y_3) (ty := .int) (C := R_M) (T := F_M) (N := 12) hx hb hw i_M t_M t_M_ok n_M hown hE.1 hP hD hS 0 rfl rfl 11 (by decide) (hw _ m_464) (fun _ h9 => h9) rfl (by decide +kernel) rfl rfl (Nat.le_of_ble_eq_true rfl) d_M_say_i_18 (fun H locs hP hD hS => ?_)
  have hP : va_P G.1 vwCl [(mm, .inr (5, [tx, .int sz, .int at0, .ref tk, .ref tp, .ref ou, .int tm, .int om, al, pt, .ref pg, .int y_3])), (pg, .inl (G.2.1 0, 4000, .inl f_2))] H := hP
  have hD : va_D A [(mm, .inr (5, [tx, .int sz, .int at0, .ref tk, .ref tp, .ref ou, .int tm, .int om, al, pt, .ref pg, .int y_3])), (pg, .inl (G.2.1 0, 4000, .inl f_2))] := hD
  exact ret (y_3, f_2) (Nat.le_of_ble_eq_true rfl) (Nat.le_of_ble_eq_true rfl) d_M_say_i_21 ⟨hff_2, (by first | assumption | trivial | omega | (dsimp only; omega))⟩ (hP.sub [0, 1] rfl) (hD.sub [0, 1] (by decide) rfl) hS
def rm_M_hexDigit : Room := { frames := 1, cells := 0, slots := 0, locals := 21 }
set_option maxHeartbeats 4000000 in
set_option maxRecDepth 100000 in
theorem c_M_hexDigit (l : Launch) (G : GG) (mm : Nat) (tp : Nat) (tk : Nat) (ou : Nat) (pg : Nat) (sz : Int32) (at0 : Int32) (tm : Int32) (om : Int32) (wr : Int32) (al : Value) (pt : Value) (tx : Value) (pgf : Nat → Int32) (b : Int32) (hpf : sb_Fit pgf) (hw0 : 0 ≤ wr.toInt ∧ wr.toInt + 1 ≤ 4000) : MV l y_M_hexDigit b_M_hexDigit 2 rm_M_hexDigit G [.ref mm, .int b] [(mm, .inr (5, [tx, .int sz, .int at0, .ref tk, .ref tp, .ref ou, .int tm, .int om, al, pt, .ref pg, .int wr])), (pg, .inl (G.2.1 0, 4000, .inl pgf))] (fun (u : Int32 × (Nat → Int32)) => (sb_Fit u.2) ∧ (u.1.toInt = wr.toInt + 1)) (fun (u : Int32 × (Nat → Int32)) => [(mm, .inr (5, [tx, .int sz, .int at0, .ref tk, .ref tp, .ref ou, .int tm, .int om, al, pt, .ref pg, .int u.1])), (pg, .inl (G.2.1 0, 4000, .inl u.2))]) 0 0 := by
  refine MV.of (cc := b_M_hexDigit) (maxL := 2) (C := R_M) (by decide +kernel) rfl (Nat.le_of_ble_eq_true rfl) ?_
  intro p e s m args below meth c A Q H ls hx hb hml hown hw hE hA hP hD hS hin ret hl
  have hl : lv_has ls 2 [(0, .ref mm), (1, .int b)] := hl
  have J_21 : ∀ (k0_21 : Int32) (wr2_21 : Int32) (pgf2_21 : Nat → Int32) (hj0_21 : sb_Fit pgf2_21) (hk0_21 : wr2_21.toInt = wr.toInt) (H : Heap) (locs : List Loc), va_P G.1 vwCl [(mm, .inr (5, [tx, .int sz, .int at0, .ref tk, .ref tp, .ref ou, .int tm, .int om, al, pt, .ref pg, .int wr2_21])), (pg, .inl (G.2.1 0, 4000, .inl pgf2_21))] H → va_D A [(mm, .inr (5, [tx, .int sz, .int at0, .ref tk, .ref tp, .ref ou, .int tm, .int om, al, pt, .ref pg, .int wr2_21])), (pg, .inl (G.2.1 0, 4000, .inl pgf2_21))] → va_S A s.heap H locs → ∀ ls : Array Slot, lv_has ls 2 [(0, .ref mm), (1, .int b)] → W p l e rm_M_hexDigit s m args below meth c H locs 0 0 Q (F0 m 21 ls [.int k0_21, .ref mm]) := by
    intro k0_21 wr2_21 pgf2_21 hj0_21 hk0_21 H locs hP hD hS ls hl
    refine gc_v (wr := []) (gc_V (wc := [(mm, .inr (5, [tx, .int sz, .int at0, .ref tk, .ref tp, .ref ou, .int tm, .int om, al, pt, .ref pg, .int wr2_21])), (pg, .inl (G.2.1 0, 4000, .inl pgf2_21))]) (As := [.int k0_21]) (rest := []) ⟨hx, hb, hml, hown, hw⟩ (c_M_say_i l G mm tp tk ou pg sz at0 tm om wr2_21 al pt tx pgf2_21 k0_21 hj0_21 (by first | assumption | trivial | omega | (dsimp only; omega)) H.size) (cwV 1 hw (good_V m_723 m_725 ms_52 m_4 m_726) rfl rfl rfl hy_M_say_i ⟨Nat.le_of_ble_eq_true rfl, Nat.le_of_ble_eq_true rfl⟩) hE hP hD hS hA (va_recv hE.1 hP (ci := 5) (q0 := 0) rfl rfl) [0, 1] rfl (by decide) rfl hl rfl (Nat.le_of_ble_eq_true rfl) d_M_hexDigit_21 ⟨Nat.le_of_ble_eq_true rfl, Nat.le_of_ble_eq_true rfl⟩) hP hD hS hA [0, 1] [] rfl rfl (by decide) (by decide) (fun u_2 H locs hw_3 hP hD hS => ?_)
    obtain ⟨wr2_4, pgf2_5⟩ := u_2
    try dsimp only at hw_3
    obtain ⟨h_6, h_7⟩ := hw_3
    have hP : va_P G.1 vwCl [(mm, .inr (5, [tx, .int sz, .int at0, .ref tk, .ref tp, .ref ou, .int tm, .int om, al, pt, .ref pg, .int wr2_4])), (pg, .inl (G.2.1 0, 4000, .inl pgf2_5))] H := hP
    have hD : va_D A [(mm, .inr (5, [tx, .int sz, .int at0, .ref tk, .ref tp, .ref ou, .int tm, .int om, al, pt, .ref pg, .int wr2_4])), (pg, .inl (G.2.1 0, 4000, .inl pgf2_5))] := hD
    exact ret (wr2_4, pgf2_5) (Nat.le_of_ble_eq_true rfl) (Nat.le_of_ble_eq_true rfl) d_M_hexDigit_24 ⟨h_6, (by first | assumption | trivial | omega | (dsimp only; omega))⟩ (hP.sub [0, 1] rfl) (hD.sub [0, 1] (by decide) rfl) hS
  refine lv_aload_n hx hb d_M_hexDigit_0 rfl (lv_at hl 0 rfl) ?_
  refine lv_iload_n hx hb d_M_hexDigit_1 rfl (lv_at hl 1 rfl) ?_
  refine lv_bipush (v := 10) hx hb d_M_hexDigit_2 (by decide) ?_
  refine lv_icmp_ge (tgt := 14) hx hb d_M_hexDigit_4 (by decide) (fun c_8 => ?_) (fun c_8 => ?_)
  · have tl_10 : (10 : Int32).toInt = 10 := by decide
    have tc_8 := z_le.mp c_8
    refine lv_bipush (v := 97) hx hb d_M_hexDigit_14 (by decide) ?_
    refine lv_iload_n hx hb d_M_hexDigit_16 rfl (lv_at hl 1 rfl) ?_
    refine lv_iadd hx hb d_M_hexDigit_17 ?_
    refine lv_topi (fun y_9 ey_9 => ?_)
    have tl_97 : (97 : Int32).toInt = 97 := by decide
    have ty_9 := z_addE ey_9
    refine lv_bipush (v := 10) hx hb d_M_hexDigit_18 (by decide) ?_
    refine lv_isub hx hb d_M_hexDigit_20 ?_
    refine lv_topi (fun y_10 ey_10 => ?_)
    have ty_10 := z_subE ey_10
    exact J_21 y_10 wr pgf hpf (by first | assumption | trivial | omega | (dsimp only; omega)) _ _ (hP.sub [0, 1] rfl) (hD.sub [0, 1] (by decide) rfl) hS _ (lv_sub hl [0, 1] rfl)
  · have tl_10 : (10 : Int32).toInt = 10 := by decide
    have tc_8 := z_nle c_8
    refine lv_bipush (v := 48) hx hb d_M_hexDigit_7 (by decide) ?_
    refine lv_iload_n hx hb d_M_hexDigit_9 rfl (lv_at hl 1 rfl) ?_
    refine lv_iadd hx hb d_M_hexDigit_10 ?_
    refine lv_topi (fun y_11 ey_11 => ?_)
    have tl_48 : (48 : Int32).toInt = 48 := by decide
    have ty_11 := z_addE ey_11
    refine lv_goto (tgt := 21) hx hb d_M_hexDigit_11 (by decide) ?_
    exact J_21 y_11 wr pgf hpf (by first | assumption | trivial | omega | (dsimp only; omega)) _ _ (hP.sub [0, 1] rfl) (hD.sub [0, 1] (by decide) rfl) hS _ (lv_sub hl [0, 1] rfl)
def rm_M_say_s : Room := { frames := 4, cells := 0, slots := 0, locals := 85 }
set_option maxHeartbeats 4000000 in
set_option maxRecDepth 100000 in
theorem c_M_say_s (l : Launch) (G : GG) (mm : Nat) (tp : Nat) (tk : Nat) (ou : Nat) (pg : Nat) (sz : Int32) (at0 : Int32) (tm : Int32) (om : Int32) (wr : Int32) (al : Value) (pt : Value) (tx : Value) (pgf : Nat → Int32) (k : Nat) (hpf : sb_Fit pgf) (hw0 : 0 ≤ wr.toInt ∧ wr.toInt + (nI (lenS.getD k 0)).toInt ≤ 4000) (hk : k < nS) : MV l y_M_say_s b_M_say_s 3 rm_M_say_s G [.ref mm, .ref (G.2.2.1 k)] [(mm, .inr (5, [tx, .int sz, .int at0, .ref tk, .ref tp, .ref ou, .int tm, .int om, al, pt, .ref pg, .int wr])), (pg, .inl (G.2.1 0, 4000, .inl pgf))] (fun (u : Int32 × (Nat → Int32)) => (sb_Fit u.2) ∧ (u.1.toInt = wr.toInt + (nI (lenS.getD k 0)).toInt)) (fun (u : Int32 × (Nat → Int32)) => [(mm, .inr (5, [tx, .int sz, .int at0, .ref tk, .ref tp, .ref ou, .int tm, .int om, al, pt, .ref pg, .int u.1])), (pg, .inl (G.2.1 0, 4000, .inl u.2))]) 0 0 := by
  refine MV.of (cc := b_M_say_s) (maxL := 3) (C := R_M) (by decide +kernel) rfl (Nat.le_of_ble_eq_true rfl) ?_
  intro p e s m args below meth c A Q H ls hx hb hml hown hw hE hA hP hD hS hin ret hl
  have hl : lv_has ls 3 [(0, .ref mm), (1, .ref (G.2.2.1 k))] := hl
  have hq := lenS_z hk
  have hq2 : (0 : Int) ≤ (lenS.getD k 0 : Int) := Int.natCast_nonneg _
  have J_2 : ∀ (fu : Nat) (x2_2 : Int32) (wr2_2 : Int32) (pgf2_2 : Nat → Int32) (hj0_2 : sb_Fit pgf2_2) (hk0_2 : 0 ≤ x2_2.toInt ∧ x2_2.toInt ≤ (nI (lenS.getD k 0)).toInt) (hk1_2 : wr2_2.toInt = wr.toInt + x2_2.toInt), ((nI (lenS.getD k 0)).toInt - x2_2.toInt).toNat < fu → ∀ (H : Heap) (locs : List Loc), va_P G.1 vwCl [(mm, .inr (5, [tx, .int sz, .int at0, .ref tk, .ref tp, .ref ou, .int tm, .int om, al, pt, .ref pg, .int wr2_2])), (pg, .inl (G.2.1 0, 4000, .inl pgf2_2))] H → va_D A [(mm, .inr (5, [tx, .int sz, .int at0, .ref tk, .ref tp, .ref ou, .int tm, .int om, al, pt, .ref pg, .int wr2_2])), (pg, .inl (G.2.1 0, 4000, .inl pgf2_2))] → va_S A s.heap H locs → ∀ ls : Array Slot, lv_has ls 3 [(2, .int x2_2), (0, .ref mm), (1, .ref (G.2.2.1 k))] → W p l e rm_M_say_s s m args below meth c H locs 0 0 Q (F0 m 2 ls []) := by
    intro fu
    induction fu with
    | zero =>
      intro x2_2 wr2_2 pgf2_2 hj0_2 hk0_2 hk1_2 hm
      exact absurd hm (Nat.not_lt_zero _)
    | succ fu ih_2 =>
      intro x2_2 wr2_2 pgf2_2 hj0_2 hk0_2 hk1_2 hm_2 H locs hP hD hS ls hl
      refine lv_iload_n hx hb d_M_say_s_2 rfl (lv_at hl 0 rfl) ?_
      refine lv_aload_n hx hb d_M_say_s_3 rfl (lv_at hl 2 rfl) ?_
      refine gc_i (wr := [(mm, .inr (5, [tx, .int sz, .int at0, .ref tk, .ref tp, .ref ou, .int tm, .int om, al, pt, .ref pg, .int wr2_2])), (pg, .inl (G.2.1 0, 4000, .inl pgf2_2))]) (gc_V (wc := []) (As := []) (rest := [.int x2_2]) ⟨hx, hb, hml, hown, hw⟩ (c_Str_length l G k hk H.size) (cwV 0 hw (good_V m_644 m_266 m_267 m_6 m_268) rfl rfl rfl hy_Str_length ⟨Nat.le_of_ble_eq_true rfl, Nat.le_of_ble_eq_true rfl⟩) hE hP hD hS hA (vk_recv (hE.2.1 k hk).1 (i := 0) (by decide) hS) [] rfl (by decide) rfl hl rfl (Nat.le_of_ble_eq_true rfl) d_M_say_s_4 ⟨Nat.le_of_ble_eq_true rfl, Nat.le_of_ble_eq_true rfl⟩) hP hD hS hA [] [0, 1] rfl rfl (by decide) (by decide) (fun r_1 u_2 H locs hw_3 hP hD hS => ?_)
      try dsimp only at hw_3
      have h_4 := hw_3
      subst h_4
      have hP : va_P G.1 vwCl [(mm, .inr (5, [tx, .int sz, .int at0, .ref tk, .ref tp, .ref ou, .int tm, .int om, al, pt, .ref pg, .int wr2_2])), (pg, .inl (G.2.1 0, 4000, .inl pgf2_2))] H := hP
      have hD : va_D A [(mm, .inr (5, [tx, .int sz, .int at0, .ref tk, .ref tp, .ref ou, .int tm, .int om, al, pt, .ref pg, .int wr2_2])), (pg, .inl (G.2.1 0, 4000, .inl pgf2_2))] := hD
      refine lv_icmp_ge (tgt := 25) hx hb d_M_say_s_7 (by decide) (fun c_5 => ?_) (fun c_5 => ?_)
      · have tc_5 := z_le.mp c_5
        exact ret (wr2_2, pgf2_2) (Nat.le_of_ble_eq_true rfl) (Nat.le_of_ble_eq_true rfl) d_M_say_s_25 ⟨hj0_2, (by first | assumption | trivial | omega | (dsimp only; omega))⟩ (hP.sub [0, 1] rfl) (hD.sub [0, 1] (by decide) rfl) hS
      · have tc_5 := z_nle c_5
        refine lv_aload_n hx hb d_M_say_s_10 rfl (lv_at hl 1 rfl) ?_
        refine lv_aload_n hx hb d_M_say_s_11 rfl (lv_at hl 2 rfl) ?_
        refine lv_iload_n hx hb d_M_say_s_12 rfl (lv_at hl 0 rfl) ?_
        refine gc_i (wr := [(mm, .inr (5, [tx, .int sz, .int at0, .ref tk, .ref tp, .ref ou, .int tm, .int om, al, pt, .ref pg, .int wr2_2])), (pg, .inl (G.2.1 0, 4000, .inl pgf2_2))]) (gc_V (wc := []) (As := [.int x2_2]) (rest := [.ref mm]) ⟨hx, hb, hml, hown, hw⟩ (c_Str_charAt l G k x2_2 hk (by first | assumption | trivial | omega | (dsimp only; omega)) H.size) (cwV 1 hw (good_V m_649 m_276 m_277 m_6 m_278) rfl rfl rfl hy_Str_charAt ⟨Nat.le_of_ble_eq_true rfl, Nat.le_of_ble_eq_true rfl⟩) hE hP hD hS hA (vk_recv (hE.2.1 k hk).1 (i := 0) (by decide) hS) [] rfl (by decide) rfl hl rfl (Nat.le_of_ble_eq_true rfl) d_M_say_s_13 ⟨Nat.le_of_ble_eq_true rfl, Nat.le_of_ble_eq_true rfl⟩) hP hD hS hA [] [0, 1] rfl rfl (by decide) (by decide) (fun r_6 u_7 H locs hw_8 hP hD hS => ?_)
        have hP : va_P G.1 vwCl [(mm, .inr (5, [tx, .int sz, .int at0, .ref tk, .ref tp, .ref ou, .int tm, .int om, al, pt, .ref pg, .int wr2_2])), (pg, .inl (G.2.1 0, 4000, .inl pgf2_2))] H := hP
        have hD : va_D A [(mm, .inr (5, [tx, .int sz, .int at0, .ref tk, .ref tp, .ref ou, .int tm, .int om, al, pt, .ref pg, .int wr2_2])), (pg, .inl (G.2.1 0, 4000, .inl pgf2_2))] := hD
        refine gc_v (wr := []) (gc_V (wc := [(mm, .inr (5, [tx, .int sz, .int at0, .ref tk, .ref tp, .ref ou, .int tm, .int om, al, pt, .ref pg, .int wr2_2])), (pg, .inl (G.2.1 0, 4000, .inl pgf2_2))]) (As := [.int r_6]) (rest := []) ⟨hx, hb, hml, hown, hw⟩ (c_M_say_i l G mm tp tk ou pg sz at0 tm om wr2_2 al pt tx pgf2_2 r_6 hj0_2 (by first | assumption | trivial | omega | (dsimp only; omega)) H.size) (cwV 1 hw (good_V m_723 m_725 ms_52 m_4 m_726) rfl rfl rfl hy_M_say_i ⟨Nat.le_of_ble_eq_true rfl, Nat.le_of_ble_eq_true rfl⟩) hE hP hD hS hA (va_recv hE.1 hP (ci := 5) (q0 := 0) rfl rfl) [0, 1] rfl (by decide) rfl hl rfl (Nat.le_of_ble_eq_true rfl) d_M_say_s_16 ⟨Nat.le_of_ble_eq_true rfl, Nat.le_of_ble_eq_true rfl⟩) hP hD hS hA [0, 1] [] rfl rfl (by decide) (by decide) (fun u_10 H locs hw_11 hP hD hS => ?_)
        obtain ⟨wr2_12, pgf2_13⟩ := u_10
        try dsimp only at hw_11
        obtain ⟨h_14, h_15⟩ := hw_11
        have hP : va_P G.1 vwCl [(mm, .inr (5, [tx, .int sz, .int at0, .ref tk, .ref tp, .ref ou, .int tm, .int om, al, pt, .ref pg, .int wr2_12])), (pg, .inl (G.2.1 0, 4000, .inl pgf2_13))] H := hP
        have hD : va_D A [(mm, .inr (5, [tx, .int sz, .int at0, .ref tk, .ref tp, .ref ou, .int tm, .int om, al, pt, .ref pg, .int wr2_12])), (pg, .inl (G.2.1 0, 4000, .inl pgf2_13))] := hD
        obtain ⟨y_16, ey_16⟩ : ∃ y : Int32, y = x2_2 + 1 := ⟨_, rfl⟩
        have tl_1 : (1 : Int32).toInt = 1 := by decide
        have ty_16 := z_addE ey_16
        refine lv_iinc (v := y_16) (lv' := [(2, .int y_16), (0, .ref mm), (1, .ref (G.2.2.1 k))]) hx hb d_M_say_s_19 hl (k := 0) rfl (by rw [ey_16]; rfl) (by decide) rfl (fun ls hl => ?_)
        refine lv_goto (tgt := 2) hx hb d_M_say_s_22 (by decide) ?_
        exact ih_2 y_16 wr2_12 pgf2_13 h_14 (by first | assumption | trivial | omega | (dsimp only; omega)) (by first | assumption | trivial | omega | (dsimp only; omega)) (by omega) _ _ (hP.sub [0, 1] rfl) (hD.sub [0, 1] (by decide) rfl) hS _ (lv_sub hl [0, 1, 2] rfl)
  refine lv_iconst (v := 0) hx hb d_M_say_s_0 (by decide) ?_
  refine lv_istore_n (lv' := [(2, .int 0), (0, .ref mm), (1, .ref (G.2.2.1 k))]) hx hb d_M_say_s_1 rfl hl (by decide) rfl (fun ls hl => ?_)
  have tl_0 : (0 : Int32).toInt = 0 := by decide
  exact J_2 _ 0 wr pgf hpf (by first | assumption | trivial | omega | (dsimp only; omega)) (by first | assumption | trivial | omega | (dsimp only; omega)) (Nat.lt_succ_self _) _ _ (hP.sub [0, 1] rfl) (hD.sub [0, 1] (by decide) rfl) hS _ (lv_sub hl [0, 1, 2] rfl)
def rm_M_number : Room := { frames := 1, cells := 0, slots := 0, locals := 21 }
set_option maxHeartbeats 4000000 in
set_option maxRecDepth 100000 in
theorem c_M_number (l : Launch) (G : GG) (mm : Nat) (tp : Nat) (tk : Nat) (ou : Nat) (pg : Nat) (sz : Int32) (at0 : Int32) (tm : Int32) (om : Int32) (wr : Int32) (al : Value) (pt : Value) (tx : Value) (pgf : Nat → Int32) (x : Int32) (c9 : Nat) (sg : Int) (hpf : sb_Fit pgf) (hc9 : 1 ≤ c9 ∧ c9 ≤ 9) (hsg : (0 ≤ x.toInt ∧ sg = 0 ∧ x.toInt < 10 ^ c9) ∨ (x.toInt < 0 ∧ sg = 1 ∧ -x.toInt < 10 ^ c9)) (hw0 : 0 ≤ wr.toInt ∧ wr.toInt + c9 + sg ≤ 4000) : MV l y_M_number b_M_number 7 rm_M_number G [.ref mm, .int x, .int 1] [(mm, .inr (5, [tx, .int sz, .int at0, .ref tk, .ref tp, .ref ou, .int tm, .int om, al, pt, .ref pg, .int wr])), (pg, .inl (G.2.1 0, 4000, .inl pgf))] (fun (u : Int32 × (Nat → Int32)) => (sb_Fit u.2) ∧ (wr.toInt ≤ u.1.toInt ∧ u.1.toInt ≤ wr.toInt + c9 + sg)) (fun (u : Int32 × (Nat → Int32)) => [(mm, .inr (5, [tx, .int sz, .int at0, .ref tk, .ref tp, .ref ou, .int tm, .int om, al, pt, .ref pg, .int u.1])), (pg, .inl (G.2.1 0, 4000, .inl u.2))]) 0 0 := by
  refine MV.of (cc := b_M_number) (maxL := 7) (C := R_M) (by decide +kernel) rfl (Nat.le_of_ble_eq_true rfl) ?_
  intro p e s m args below meth c A Q H ls hx hb hml hown hw hE hA hP hD hS hin ret hl
  have hl : lv_has ls 7 [(0, .ref mm), (1, .int x), (2, .int 1)] := hl
  have hp9 := p10_9 hc9.2
  have hsg2 : 0 ≤ sg ∧ sg ≤ 1 := by omega
  have J_71 : ∀ (fu : Nat) (x6_71 : Int32) (x5_71 : Int32) (x4_71 : Int32) (x3_71 : Int32) (wr2_71 : Int32) (pgf2_71 : Nat → Int32) (j_71 : Nat) (hj0_71 : sb_Fit pgf2_71) (hk0_71 : 0 ≤ x3_71.toInt) (hk1_71 : (x5_71.toInt = 10 ^ j_71 ∧ wr2_71.toInt + j_71 + 1 ≤ wr.toInt + c9 + sg) ∨ (x5_71.toInt = 0 ∧ wr2_71.toInt ≤ wr.toInt + c9 + sg)) (hk2_71 : wr.toInt ≤ wr2_71.toInt), x5_71.toInt.toNat < fu → ∀ (H : Heap) (locs : List Loc), va_P G.1 vwCl [(mm, .inr (5, [tx, .int sz, .int at0, .ref tk, .ref tp, .ref ou, .int tm, .int om, al, pt, .ref pg, .int wr2_71])), (pg, .inl (G.2.1 0, 4000, .inl pgf2_71))] H → va_D A [(mm, .inr (5, [tx, .int sz, .int at0, .ref tk, .ref tp, .ref ou, .int tm, .int om, al, pt, .ref pg, .int wr2_71])), (pg, .inl (G.2.1 0, 4000, .inl pgf2_71))] → va_S A s.heap H locs → ∀ ls : Array Slot, lv_has ls 7 [(6, .int x6_71), (5, .int x5_71), (4, .int x4_71), (3, .int x3_71), (0, .ref mm), (1, .int x), (2, .int 1)] → W p l e rm_M_number s m args below meth c H locs 0 0 Q (F0 m 71 ls []) := by
    intro fu
    induction fu with
    | zero =>
      intro x6_71 x5_71 x4_71 x3_71 wr2_71 pgf2_71 j_71 hj0_71 hk0_71 hk1_71 hk2_71 hm
      exact absurd hm (Nat.not_lt_zero _)
    | succ fu ih_71 =>
      intro x6_71 x5_71 x4_71 x3_71 wr2_71 pgf2_71 j_71 hj0_71 hk0_71 hk1_71 hk2_71 hm_71 H locs hP hD hS ls hl
      refine lv_iload hx hb d_M_number_71 (lv_at hl 1 rfl) ?_
      refine lv_if_le (tgt := 100) hx hb d_M_number_73 (by decide) (fun c_1 => ?_) (fun c_1 => ?_)
      · have tl_0 : (0 : Int32).toInt = 0 := by decide
        have tc_1 := z_le.mp c_1
        exact ret (wr2_71, pgf2_71) (Nat.le_of_ble_eq_true rfl) (Nat.le_of_ble_eq_true rfl) d_M_number_100 ⟨hj0_71, (by first | assumption | trivial | omega | (dsimp only; omega))⟩ (hP.sub [0, 1] rfl) (hD.sub [0, 1] (by decide) rfl) hS
      · have tl_0 : (0 : Int32).toInt = 0 := by decide
        have tc_1 := z_nle c_1
        refine lv_aload_n hx hb d_M_number_76 rfl (lv_at hl 4 rfl) ?_
        refine lv_bipush (v := 48) hx hb d_M_number_77 (by decide) ?_
        refine lv_iload_n hx hb d_M_number_79 rfl (lv_at hl 3 rfl) ?_
        refine lv_iload hx hb d_M_number_80 (lv_at hl 1 rfl) ?_
        refine lv_idiv hx hb d_M_number_82 (nz_i (by omega)) ?_
        refine lv_topi (fun y_2 ey_2 => ?_)
        refine lv_bipush (v := 10) hx hb d_M_number_83 (by decide) ?_
        refine lv_irem hx hb d_M_number_85 (by decide) ?_
        refine lv_topi (fun y_3 ey_3 => ?_)
        refine lv_iadd hx hb d_M_number_86 ?_
        refine lv_topi (fun y_4 ey_4 => ?_)
        have tl_48 : (48 : Int32).toInt = 48 := by decide
        have ty_4 := z_addE ey_4
        refine gc_v (wr := []) (gc_V (wc := [(mm, .inr (5, [tx, .int sz, .int at0, .ref tk, .ref tp, .ref ou, .int tm, .int om, al, pt, .ref pg, .int wr2_71])), (pg, .inl (G.2.1 0, 4000, .inl pgf2_71))]) (As := [.int y_4]) (rest := []) ⟨hx, hb, hml, hown, hw⟩ (c_M_say_i l G mm tp tk ou pg sz at0 tm om wr2_71 al pt tx pgf2_71 y_4 hj0_71 (by first | assumption | trivial | omega | (dsimp only; omega)) H.size) (cwV 1 hw (good_V m_723 m_725 ms_52 m_4 m_726) rfl rfl rfl hy_M_say_i ⟨Nat.le_of_ble_eq_true rfl, Nat.le_of_ble_eq_true rfl⟩) hE hP hD hS hA (va_recv hE.1 hP (ci := 5) (q0 := 0) rfl rfl) [0, 1] rfl (by decide) rfl hl rfl (Nat.le_of_ble_eq_true rfl) d_M_number_87 ⟨Nat.le_of_ble_eq_true rfl, Nat.le_of_ble_eq_true rfl⟩) hP hD hS hA [0, 1] [] rfl rfl (by decide) (by decide) (fun u_6 H locs hw_7 hP hD hS => ?_)
        obtain ⟨wr2_8, pgf2_9⟩ := u_6
        try dsimp only at hw_7
        obtain ⟨h_10, h_11⟩ := hw_7
        have hP : va_P G.1 vwCl [(mm, .inr (5, [tx, .int sz, .int at0, .ref tk, .ref tp, .ref ou, .int tm, .int om, al, pt, .ref pg, .int wr2_8])), (pg, .inl (G.2.1 0, 4000, .inl pgf2_9))] H := hP
        have hD : va_D A [(mm, .inr (5, [tx, .int sz, .int at0, .ref tk, .ref tp, .ref ou, .int tm, .int om, al, pt, .ref pg, .int wr2_8])), (pg, .inl (G.2.1 0, 4000, .inl pgf2_9))] := hD
        refine lv_iload hx hb d_M_number_90 (lv_at hl 1 rfl) ?_
        refine lv_bipush (v := 10) hx hb d_M_number_92 (by decide) ?_
        refine lv_idiv hx hb d_M_number_94 (by decide) ?_
        refine lv_topi (fun y_12 ey_12 => ?_)
        have ty_12 := z_divE (k := 10) (by decide) (by decide) ey_12
        refine lv_istore (lv' := [(5, .int y_12), (6, .int x6_71), (4, .int x4_71), (3, .int x3_71), (0, .ref mm), (1, .int x), (2, .int 1)]) hx hb d_M_number_95 hl (by decide) rfl (fun ls hl => ?_)
        refine lv_goto (tgt := 71) hx hb d_M_number_97 (by decide) ?_
        exact ih_71 x6_71 y_12 x4_71 x3_71 wr2_8 pgf2_9 (j_71 - 1) h_10 hk0_71 ((p10_down hk1_71 (by omega) (by assumption)).imp (fun h8 => ⟨h8.1, by omega⟩) (fun h8 => ⟨h8.1, by omega⟩)) (by first | assumption | trivial | omega | (dsimp only; omega)) (by omega) _ _ (hP.sub [0, 1] rfl) (hD.sub [0, 1] (by decide) rfl) hS _ (lv_sub hl [1, 0, 2, 3, 4, 5, 6] rfl)
  have J_53 : ∀ (fu : Nat) (x6_53 : Int32) (x5_53 : Int32) (x4_53 : Int32) (x3_53 : Int32) (wr2_53 : Int32) (pgf2_53 : Nat → Int32) (j_53 : Nat) (hj0_53 : sb_Fit pgf2_53) (hk0_53 : wr2_53.toInt = wr.toInt + sg) (hk1_53 : 0 ≤ x3_53.toInt ∧ x3_53.toInt < 10 ^ c9) (hk2_53 : x5_53.toInt = 10 ^ j_53) (hk3_53 : j_53 + 1 ≤ c9) (hk4_53 : 1 ≤ x6_53.toInt), (1 - x6_53.toInt).toNat < fu → ∀ (H : Heap) (locs : List Loc), va_P G.1 vwCl [(mm, .inr (5, [tx, .int sz, .int at0, .ref tk, .ref tp, .ref ou, .int tm, .int om, al, pt, .ref pg, .int wr2_53])), (pg, .inl (G.2.1 0, 4000, .inl pgf2_53))] H → va_D A [(mm, .inr (5, [tx, .int sz, .int at0, .ref tk, .ref tp, .ref ou, .int tm, .int om, al, pt, .ref pg, .int wr2_53])), (pg, .inl (G.2.1 0, 4000, .inl pgf2_53))] → va_S A s.heap H locs → ∀ ls : Array Slot, lv_has ls 7 [(6, .int x6_53), (5, .int x5_53), (4, .int x4_53), (3, .int x3_53), (0, .ref mm), (1, .int x), (2, .int 1)] → W p l e rm_M_number s m args below meth c H locs 0 0 Q (F0 m 53 ls []) := by
    intro fu
    induction fu with
    | zero =>
      intro x6_53 x5_53 x4_53 x3_53 wr2_53 pgf2_53 j_53 hj0_53 hk0_53 hk1_53 hk2_53 hk3_53 hk4_53 hm
      exact absurd hm (Nat.not_lt_zero _)
    | succ fu ih_53 =>
      intro x6_53 x5_53 x4_53 x3_53 wr2_53 pgf2_53 j_53 hj0_53 hk0_53 hk1_53 hk2_53 hk3_53 hk4_53 hm_53 H locs hP hD hS ls hl
      have hpj := p10_pos j_53
      refine lv_iload hx hb d_M_number_53 (lv_at hl 0 rfl) ?_
      refine lv_iload_n hx hb d_M_number_55 rfl (lv_at hl 6 rfl) ?_
      refine lv_icmp_ge (tgt := 71) hx hb d_M_number_56 (by decide) (fun c_13 => ?_) (fun c_13 => ?_)
      · have tl_1 : (1 : Int32).toInt = 1 := by decide
        have tc_13 := z_le.mp c_13
        exact J_71 _ x6_53 x5_53 x4_53 x3_53 wr2_53 pgf2_53 j_53 hj0_53 (by first | assumption | trivial | omega | (dsimp only; omega)) (by first | assumption | trivial | omega | (dsimp only; omega)) (by first | assumption | trivial | omega | (dsimp only; omega)) (Nat.lt_succ_self _) _ _ (hP.sub [0, 1] rfl) (hD.sub [0, 1] (by decide) rfl) hS _ (lv_sub hl [0, 1, 2, 3, 4, 5, 6] rfl)
      · exact absurd (z_nle c_13) (by rw [z_1]; omega)
  have J_27 : ∀ (fu : Nat) (x5_27 : Int32) (x4_27 : Int32) (x3_27 : Int32) (wr2_27 : Int32) (pgf2_27 : Nat → Int32) (j_27 : Nat) (hj0_27 : sb_Fit pgf2_27) (hk0_27 : wr2_27.toInt = wr.toInt + sg) (hk1_27 : 0 ≤ x3_27.toInt ∧ x3_27.toInt < 10 ^ c9) (hk2_27 : x5_27.toInt = 10 ^ j_27) (hk3_27 : j_27 + 1 ≤ c9) (hk4_27 : 1 ≤ x4_27.toInt ∧ x4_27.toInt ≤ 1 + j_27), (c9 - j_27) < fu → ∀ (H : Heap) (locs : List Loc), va_P G.1 vwCl [(mm, .inr (5, [tx, .int sz, .int at0, .ref tk, .ref tp, .ref ou, .int tm, .int om, al, pt, .ref pg, .int wr2_27])), (pg, .inl (G.2.1 0, 4000, .inl pgf2_27))] H → va_D A [(mm, .inr (5, [tx, .int sz, .int at0, .ref tk, .ref tp, .ref ou, .int tm, .int om, al, pt, .ref pg, .int wr2_27])), (pg, .inl (G.2.1 0, 4000, .inl pgf2_27))] → va_S A s.heap H locs → ∀ ls : Array Slot, lv_has ls 7 [(5, .int x5_27), (4, .int x4_27), (3, .int x3_27), (0, .ref mm), (1, .int x), (2, .int 1)] → W p l e rm_M_number s m args below meth c H locs 0 0 Q (F0 m 27 ls []) := by
    intro fu
    induction fu with
    | zero =>
      intro x5_27 x4_27 x3_27 wr2_27 pgf2_27 j_27 hj0_27 hk0_27 hk1_27 hk2_27 hk3_27 hk4_27 hm
      exact absurd hm (Nat.not_lt_zero _)
    | succ fu ih_27 =>
      intro x5_27 x4_27 x3_27 wr2_27 pgf2_27 j_27 hj0_27 hk0_27 hk1_27 hk2_27 hk3_27 hk4_27 hm_27 H locs hP hD hS ls hl
      have hpj := p10_pos j_27
      refine lv_iload_n hx hb d_M_number_27 rfl (lv_at hl 2 rfl) ?_
      refine lv_iload hx hb d_M_number_28 (lv_at hl 0 rfl) ?_
      refine lv_idiv hx hb d_M_number_30 (nz_i (by omega)) ?_
      refine lv_topi (fun y_14 ey_14 => ?_)
      refine lv_bipush (v := 9) hx hb d_M_number_31 (by decide) ?_
      refine lv_icmp_le (tgt := 49) hx hb d_M_number_33 (by decide) (fun c_15 => ?_) (fun c_15 => ?_)
      · have tl_9 : (9 : Int32).toInt = 9 := by decide
        have tc_15 := z_le.mp c_15
        refine lv_iload hx hb d_M_number_49 (lv_at hl 1 rfl) ?_
        refine lv_istore (lv' := [(6, .int x4_27), (5, .int x5_27), (4, .int x4_27), (3, .int x3_27), (0, .ref mm), (1, .int x), (2, .int 1)]) hx hb d_M_number_51 hl (by decide) rfl (fun ls hl => ?_)
        exact J_53 _ x4_27 x5_27 x4_27 x3_27 wr2_27 pgf2_27 j_27 hj0_27 hk0_27 hk1_27 hk2_27 hk3_27 (by first | assumption | trivial | omega | (dsimp only; omega)) (Nat.lt_succ_self _) _ _ (hP.sub [0, 1] rfl) (hD.sub [0, 1] (by decide) rfl) hS _ (lv_sub hl [0, 1, 2, 3, 4, 5, 6] rfl)
      · have tl_9 : (9 : Int32).toInt = 9 := by decide
        have tc_15 := z_nle c_15
        have hgr := num_grow (by omega) (show 9 < x3_27.toInt / x5_27.toInt by rw [← z_divV (by omega) (by omega) (by assumption)]; omega)
        have hlt : j_27 + 1 < c9 := p10_lt (by rw [p10_s]; omega)
        refine lv_iload hx hb d_M_number_36 (lv_at hl 0 rfl) ?_
        refine lv_bipush (v := 10) hx hb d_M_number_38 (by decide) ?_
        refine lv_imul hx hb d_M_number_40 ?_
        refine lv_topi (fun y_16 ey_16 => ?_)
        have tl_10 : (10 : Int32).toInt = 10 := by decide
        have ty_16 := z_mulR (k := 10) (by decide) ey_16
        refine lv_istore (lv' := [(5, .int y_16), (4, .int x4_27), (3, .int x3_27), (0, .ref mm), (1, .int x), (2, .int 1)]) hx hb d_M_number_41 hl (by decide) rfl (fun ls hl => ?_)
        have hps := p10_s j_27
        obtain ⟨y_17, ey_17⟩ : ∃ y : Int32, y = x4_27 + 1 := ⟨_, rfl⟩
        have tl_1 : (1 : Int32).toInt = 1 := by decide
        have ty_17 := z_addE ey_17
        refine lv_iinc (v := y_17) (lv' := [(4, .int y_17), (5, .int y_16), (3, .int x3_27), (0, .ref mm), (1, .int x), (2, .int 1)]) hx hb d_M_number_43 hl (k := 1) rfl (by rw [ey_17]; rfl) (by decide) rfl (fun ls hl => ?_)
        refine lv_goto (tgt := 27) hx hb d_M_number_46 (by decide) ?_
        exact ih_27 y_16 y_17 x3_27 wr2_27 pgf2_27 (j_27 + 1) hj0_27 hk0_27 hk1_27 (by first | assumption | trivial | omega | (dsimp only; omega)) (by first | assumption | trivial | omega | (dsimp only; omega)) (by first | assumption | trivial | omega | (dsimp only; omega)) (by omega) _ _ (hP.sub [0, 1] rfl) (hD.sub [0, 1] (by decide) rfl) hS _ (lv_sub hl [1, 0, 2, 3, 4, 5] rfl)
  have J_20 : ∀ (k0_20 : Int32) (wr2_20 : Int32) (pgf2_20 : Nat → Int32) (hj0_20 : sb_Fit pgf2_20) (hk0_20 : wr2_20.toInt = wr.toInt + sg) (hk1_20 : 0 ≤ k0_20.toInt ∧ k0_20.toInt < 10 ^ c9) (H : Heap) (locs : List Loc), va_P G.1 vwCl [(mm, .inr (5, [tx, .int sz, .int at0, .ref tk, .ref tp, .ref ou, .int tm, .int om, al, pt, .ref pg, .int wr2_20])), (pg, .inl (G.2.1 0, 4000, .inl pgf2_20))] H → va_D A [(mm, .inr (5, [tx, .int sz, .int at0, .ref tk, .ref tp, .ref ou, .int tm, .int om, al, pt, .ref pg, .int wr2_20])), (pg, .inl (G.2.1 0, 4000, .inl pgf2_20))] → va_S A s.heap H locs → ∀ ls : Array Slot, lv_has ls 7 [(0, .ref mm), (1, .int x), (2, .int 1)] → W p l e rm_M_number s m args below meth c H locs 0 0 Q (F0 m 20 ls [.int k0_20]) := by
    intro k0_20 wr2_20 pgf2_20 hj0_20 hk0_20 hk1_20 H locs hP hD hS ls hl
    refine lv_istore_n (lv' := [(3, .int k0_20), (0, .ref mm), (1, .int x), (2, .int 1)]) hx hb d_M_number_20 rfl hl (by decide) rfl (fun ls hl => ?_)
    refine lv_iconst (v := 1) hx hb d_M_number_21 (by decide) ?_
    refine lv_istore (lv' := [(4, .int 1), (3, .int k0_20), (0, .ref mm), (1, .int x), (2, .int 1)]) hx hb d_M_number_22 hl (by decide) rfl (fun ls hl => ?_)
    refine lv_iconst (v := 1) hx hb d_M_number_24 (by decide) ?_
    refine lv_istore (lv' := [(5, .int 1), (4, .int 1), (3, .int k0_20), (0, .ref mm), (1, .int x), (2, .int 1)]) hx hb d_M_number_25 hl (by decide) rfl (fun ls hl => ?_)
    have tl_1 : (1 : Int32).toInt = 1 := by decide
    have tl_0 : (0 : Int32).toInt = 0 := by decide
    exact J_27 _ 1 1 k0_20 wr2_20 pgf2_20 0 hj0_20 hk0_20 hk1_20 (by decide) (by first | assumption | trivial | omega | (dsimp only; omega)) (by first | assumption | trivial | omega | (dsimp only; omega)) (Nat.lt_succ_self _) _ _ (hP.sub [0, 1] rfl) (hD.sub [0, 1] (by decide) rfl) hS _ (lv_sub hl [0, 1, 2, 3, 4, 5] rfl)
  have J_10 : ∀ (wr2_10 : Int32) (pgf2_10 : Nat → Int32) (hj0_10 : sb_Fit pgf2_10) (hk0_10 : wr2_10.toInt = wr.toInt + sg) (H : Heap) (locs : List Loc), va_P G.1 vwCl [(mm, .inr (5, [tx, .int sz, .int at0, .ref tk, .ref tp, .ref ou, .int tm, .int om, al, pt, .ref pg, .int wr2_10])), (pg, .inl (G.2.1 0, 4000, .inl pgf2_10))] H → va_D A [(mm, .inr (5, [tx, .int sz, .int at0, .ref tk, .ref tp, .ref ou, .int tm, .int om, al, pt, .ref pg, .int wr2_10])), (pg, .inl (G.2.1 0, 4000, .inl pgf2_10))] → va_S A s.heap H locs → ∀ ls : Array Slot, lv_has ls 7 [(0, .ref mm), (1, .int x), (2, .int 1)] → W p l e rm_M_number s m args below meth c H locs 0 0 Q (F0 m 10 ls []) := by
    intro wr2_10 pgf2_10 hj0_10 hk0_10 H locs hP hD hS ls hl
    refine lv_iload_n hx hb d_M_number_10 rfl (lv_at hl 1 rfl) ?_
    refine lv_if_ge (tgt := 19) hx hb d_M_number_11 (by decide) (fun c_18 => ?_) (fun c_18 => ?_)
    · have tl_0 : (0 : Int32).toInt = 0 := by decide
      have tc_18 := z_le.mp c_18
      refine lv_iload_n hx hb d_M_number_19 rfl (lv_at hl 1 rfl) ?_
      exact J_20 x wr2_10 pgf2_10 hj0_10 hk0_10 (by first | assumption | trivial | omega | (dsimp only; omega)) _ _ (hP.sub [0, 1] rfl) (hD.sub [0, 1] (by decide) rfl) hS _ (lv_sub hl [0, 1, 2] rfl)
    · have tl_0 : (0 : Int32).toInt = 0 := by decide
      have tc_18 := z_nle c_18
      refine lv_iload_n hx hb d_M_number_14 rfl (lv_at hl 1 rfl) ?_
      refine lv_ineg hx hb d_M_number_15 ?_
      refine lv_topi (fun y_19 ey_19 => ?_)
      have ty_19 := z_neg ey_19 (by omega)
      refine lv_goto (tgt := 20) hx hb d_M_number_16 (by decide) ?_
      exact J_20 y_19 wr2_10 pgf2_10 hj0_10 hk0_10 (by first | assumption | trivial | omega | (dsimp only; omega)) _ _ (hP.sub [0, 1] rfl) (hD.sub [0, 1] (by decide) rfl) hS _ (lv_sub hl [0, 1, 2] rfl)
  refine lv_iload_n hx hb d_M_number_0 rfl (lv_at hl 1 rfl) ?_
  refine lv_if_ge (tgt := 10) hx hb d_M_number_1 (by decide) (fun c_20 => ?_) (fun c_20 => ?_)
  · have tl_0 : (0 : Int32).toInt = 0 := by decide
    have tc_20 := z_le.mp c_20
    exact J_10 wr pgf hpf (by first | assumption | trivial | omega | (dsimp only; omega)) _ _ (hP.sub [0, 1] rfl) (hD.sub [0, 1] (by decide) rfl) hS _ (lv_sub hl [0, 1, 2] rfl)
  · have tl_0 : (0 : Int32).toInt = 0 := by decide
    have tc_20 := z_nle c_20
    refine lv_aload_n hx hb d_M_number_4 rfl (lv_at hl 0 rfl) ?_
    refine lv_bipush (v := 45) hx hb d_M_number_5 (by decide) ?_
    refine gc_v (wr := []) (gc_V (wc := [(mm, .inr (5, [tx, .int sz, .int at0, .ref tk, .ref tp, .ref ou, .int tm, .int om, al, pt, .ref pg, .int wr])), (pg, .inl (G.2.1 0, 4000, .inl pgf))]) (As := [.int 45]) (rest := []) ⟨hx, hb, hml, hown, hw⟩ (c_M_say_i l G mm tp tk ou pg sz at0 tm om wr al pt tx pgf 45 hpf (by first | assumption | trivial | omega | (dsimp only; omega)) H.size) (cwV 1 hw (good_V m_723 m_725 ms_52 m_4 m_726) rfl rfl rfl hy_M_say_i ⟨Nat.le_of_ble_eq_true rfl, Nat.le_of_ble_eq_true rfl⟩) hE hP hD hS hA (va_recv hE.1 hP (ci := 5) (q0 := 0) rfl rfl) [0, 1] rfl (by decide) rfl hl rfl (Nat.le_of_ble_eq_true rfl) d_M_number_7 ⟨Nat.le_of_ble_eq_true rfl, Nat.le_of_ble_eq_true rfl⟩) hP hD hS hA [0, 1] [] rfl rfl (by decide) (by decide) (fun u_22 H locs hw_23 hP hD hS => ?_)
    obtain ⟨wr2_24, pgf2_25⟩ := u_22
    try dsimp only at hw_23
    obtain ⟨h_26, h_27⟩ := hw_23
    have hP : va_P G.1 vwCl [(mm, .inr (5, [tx, .int sz, .int at0, .ref tk, .ref tp, .ref ou, .int tm, .int om, al, pt, .ref pg, .int wr2_24])), (pg, .inl (G.2.1 0, 4000, .inl pgf2_25))] H := hP
    have hD : va_D A [(mm, .inr (5, [tx, .int sz, .int at0, .ref tk, .ref tp, .ref ou, .int tm, .int om, al, pt, .ref pg, .int wr2_24])), (pg, .inl (G.2.1 0, 4000, .inl pgf2_25))] := hD
    exact J_10 wr2_24 pgf2_25 h_26 (by first | assumption | trivial | omega | (dsimp only; omega)) _ _ (hP.sub [0, 1] rfl) (hD.sub [0, 1] (by decide) rfl) hS _ (lv_sub hl [0, 1, 2] rfl)
def rm_Arr_checkLength : Room := { frames := 0, cells := 0, slots := 0, locals := 0 }
set_option maxHeartbeats 4000000 in
set_option maxRecDepth 100000 in
theorem c_Arr_checkLength (l : Launch) (G : GG) (i : Int32) (j : Int32) (hij : i.toInt ≤ j.toInt) : MV l y_Arr_checkLength b_Arr_checkLength 2 rm_Arr_checkLength G [.int i, .int j] [] (fun (u : Unit) => True) (fun (u : Unit) => []) 0 0 := by
  refine MV.of (cc := b_Arr_checkLength) (maxL := 2) (C := R_Arr) (by decide +kernel) rfl (Nat.le_of_ble_eq_true rfl) ?_
  intro p e s m args below meth c A Q H ls hx hb hml hown hw hE hA hP hD hS hin ret hl
  have hl : lv_has ls 2 [(0, .int i), (1, .int j)] := hl
  refine lv_iload_n hx hb d_Arr_checkLength_0 rfl (lv_at hl 1 rfl) ?_
  refine lv_iload_n hx hb d_Arr_checkLength_1 rfl (lv_at hl 0 rfl) ?_
  refine lv_icmp_ge (tgt := 37) hx hb d_Arr_checkLength_2 (by decide) (fun c_1 => ?_) (fun c_1 => ?_)
  · have tc_1 := z_le.mp c_1
    exact ret () (Nat.le_of_ble_eq_true rfl) (Nat.le_of_ble_eq_true rfl) d_Arr_checkLength_37 trivial (hP.sub [] rfl) (hD.sub [] (by decide) rfl) hS
  · have tc_1 := z_nle c_1
    exact absurd hij (by omega)
def rm_Arr_copyOfRangeByte : Room := { frames := 1, cells := 1, slots := 100, locals := 28 }
set_option maxHeartbeats 4000000 in
set_option maxRecDepth 100000 in
theorem c_Arr_copyOfRangeByte (l : Launch) (G : GG) (ar : Nat) (N0 : Nat) (sf : Nat → Int32) (i : Int32) (j : Int32) (nn : Nat) (hsf : sb_Fit sf) (hN0 : N0 ≤ 4000) (hr : 0 ≤ i.toInt ∧ j.toInt = i.toInt + nn ∧ nn ≤ 100 ∧ j.toInt ≤ N0) : MR l y_Arr_copyOfRangeByte b_Arr_copyOfRangeByte 5 (.array .byte) rm_Arr_copyOfRangeByte G [.ref ar, .int i, .int j] [(ar, .inl (G.2.1 0, N0, .inl sf))] (fun (v : Nat) (u : Nat × (Nat → Int32)) => (u.1 = v) ∧ (sb_Fit u.2)) (fun (u : Nat × (Nat → Int32)) => [(ar, .inl (G.2.1 0, N0, .inl sf)), (u.1, .inl (G.2.1 0, nn, .inl u.2))]) 1 100 := by
  refine MR.of (cc := b_Arr_copyOfRangeByte) (maxL := 5) (ty := .array .byte) (C := R_Arr) (by decide +kernel) rfl (Nat.le_of_ble_eq_true rfl) (Or.inr ⟨_, rfl⟩) ?_
  intro p e s m args below meth c A Q H ls hx hb hml hown hw hE hA hP hD hS ret hl
  have hl : lv_has ls 5 [(0, .ref ar), (1, .int i), (2, .int j)] := hl
  have hn0 := z_n (n := N0) (by omega)
  have hnn : (0 : Int) ≤ (nn : Int) := Int.natCast_nonneg _
  refine lv_iload_n hx hb d_Arr_copyOfRangeByte_0 rfl (lv_at hl 1 rfl) ?_
  refine lv_iload_n hx hb d_Arr_copyOfRangeByte_1 rfl (lv_at hl 2 rfl) ?_
  refine gc_v (wr := [(ar, .inl (G.2.1 0, N0, .inl sf))]) (gc_S (wc := []) (As := [.int i, .int j]) (rest := []) ⟨hx, hb, hml, hown, hw⟩ (c_Arr_checkLength l G i j (by first | assumption | trivial | omega | (dsimp only; omega)) H.size) (va_cwS 2 hw (good_S m_573 m_574 m_11 m_575) rfl rfl rfl hy_Arr_checkLength.2 ⟨Nat.le_of_ble_eq_true rfl, Nat.le_of_ble_eq_true rfl⟩) hE hP hD hS hA [] rfl (by decide) rfl hl rfl (Nat.le_of_ble_eq_true rfl) d_Arr_copyOfRangeByte_2 ⟨Nat.le_of_ble_eq_true rfl, Nat.le_of_ble_eq_true rfl⟩) hP hD hS hA [] [0] rfl rfl (by decide) (by decide) (fun u_2 H locs hw_3 hP hD hS => ?_)
  have hP : va_P G.1 vwCl [(ar, .inl (G.2.1 0, N0, .inl sf))] H := hP
  have hD : va_D A [(ar, .inl (G.2.1 0, N0, .inl sf))] := hD
  refine lv_iload_n hx hb d_Arr_copyOfRangeByte_5 rfl (lv_at hl 2 rfl) ?_
  refine lv_iload_n hx hb d_Arr_copyOfRangeByte_6 rfl (lv_at hl 1 rfl) ?_
  refine lv_isub hx hb d_Arr_copyOfRangeByte_7 ?_
  refine lv_topi (fun y_4 ey_4 => ?_)
  have ty_4 := z_subE ey_4
  refine lv_istore_n (lv' := [(3, .int y_4), (0, .ref ar), (1, .int i), (2, .int j)]) hx hb d_Arr_copyOfRangeByte_8 rfl hl (by decide) rfl (fun ls hl => ?_)
  refine lv_iload_n hx hb d_Arr_copyOfRangeByte_9 rfl (lv_at hl 0 rfl) ?_
  refine gc_newa (atype := .byte) (ty := .byte) (N' := nn) (a0 := (nn, .inl (fun _ => 0))) hx hb (hw _ m_36) rfl hE hP hD hS hA 0 rfl (fun _ h => h) (fun _ => rfl) (z_nn (by omega)) (cl_of (by omega)) (by show nn * 1 ≤ 536870912; omega) (Nat.le_of_ble_eq_true rfl) (by show 0 + nn ≤ 100; omega) d_Arr_copyOfRangeByte_10 (fun q_5 H hP hD hS => ?_)
  have hP : va_P G.1 vwCl [(ar, .inl (G.2.1 0, N0, .inl sf)), (q_5, .inl (G.2.1 0, nn, .inl (fun _ => 0)))] H := hP
  have hD : va_D A [(ar, .inl (G.2.1 0, N0, .inl sf)), (q_5, .inl (G.2.1 0, nn, .inl (fun _ => 0)))] := hD
  refine W.widen (k := 1) (n := 100) (Nat.le_of_ble_eq_true rfl) (by omega) ?_
  refine lv_astore (lv' := [(4, .ref q_5), (3, .int y_4), (0, .ref ar), (1, .int i), (2, .int j)]) hx hb d_Arr_copyOfRangeByte_12 hl (by decide) rfl (fun ls hl => ?_)
  refine lv_aload_n hx hb d_Arr_copyOfRangeByte_14 rfl (lv_at hl 2 rfl) ?_
  refine lv_iload_n hx hb d_Arr_copyOfRangeByte_15 rfl (lv_at hl 3 rfl) ?_
  refine lv_aload hx hb d_Arr_copyOfRangeByte_16 (lv_at hl 0 rfl) ?_
  refine lv_iconst (v := 0) hx hb d_Arr_copyOfRangeByte_18 (by decide) ?_
  refine lv_aload_n hx hb d_Arr_copyOfRangeByte_19 rfl (lv_at hl 2 rfl) ?_
  refine va_alen (v := nI N0) hx hb hE.1 hP 0 0 rfl rfl rfl d_Arr_copyOfRangeByte_20 ?_
  refine lv_iload_n hx hb d_Arr_copyOfRangeByte_21 rfl (lv_at hl 3 rfl) ?_
  refine lv_isub hx hb d_Arr_copyOfRangeByte_22 ?_
  refine lv_topi (fun y_6 ey_6 => ?_)
  have ty_6 := z_subE ey_6
  refine lv_iload_n hx hb d_Arr_copyOfRangeByte_23 rfl (lv_at hl 1 rfl) ?_
  refine va_mmin hx hb (by rw [hml]; exact hl.1.symm) hown (hw _ m_576) (hw _ m_577) (hw _ m_12) (hw _ m_578) (Nat.le_of_ble_eq_true rfl) (Nat.le_of_ble_eq_true rfl) (Nat.le_of_ble_eq_true rfl) (Nat.le_of_ble_eq_true rfl) d_Arr_copyOfRangeByte_24 ?_
  refine lv_topi (fun y_7 ey_7 => ?_)
  have ty_7 := z_min ey_7
  have tl_0 : (0 : Int32).toInt = 0 := by decide
  refine va_copyi (ty := .byte) hx hb (by rw [hml]; exact hl.1.symm) hown (hw _ m_579) (hw _ m_acn) (hw _ m_580) (hw _ m_13) hE.1 hP hD hS 0 1 0 0 rfl rfl rfl rfl rfl (z_nn (by omega)) (z_nn (by omega)) (z_nn (by omega)) (cp_le (by omega) (by omega) (by omega)) (cp_le (by omega) (by omega) (by omega)) (fun i _ => hsf _) (Nat.le_of_ble_eq_true rfl) (Nat.le_of_ble_eq_true rfl) d_Arr_copyOfRangeByte_27 (fun H locs hP hD hS => ?_)
  obtain ⟨f_8, ef_8⟩ : ∃ y : Nat → Int32, y = va_cpy sf (fun _ => 0) i.toNatClampNeg (0 : Int32).toNatClampNeg y_7.toNatClampNeg := ⟨_, rfl⟩
  rw [← ef_8] at hP hD
  have hP : va_P G.1 vwCl [(ar, .inl (G.2.1 0, N0, .inl sf)), (q_5, .inl (G.2.1 0, nn, .inl f_8))] H := hP
  have hD : va_D A [(ar, .inl (G.2.1 0, N0, .inl sf)), (q_5, .inl (G.2.1 0, nn, .inl f_8))] := hD
  have hff_8 : sb_Fit f_8 := by rw [ef_8]; exact sb_fitC hsf sb_fit0
  refine lv_aload hx hb d_Arr_copyOfRangeByte_30 (lv_at hl 0 rfl) ?_
  exact ret q_5 (q_5, f_8) (Nat.le_of_ble_eq_true rfl) (Nat.le_of_ble_eq_true rfl) d_Arr_copyOfRangeByte_32 ⟨rfl, hff_8⟩ (hP.sub [0, 1] rfl) (hD.sub [0, 1] (by decide) rfl) hS
def rm_Arr_copyOfRange : Room := { frames := 2, cells := 1, slots := 100, locals := 52 }
set_option maxHeartbeats 4000000 in
set_option maxRecDepth 100000 in
theorem c_Arr_copyOfRange (l : Launch) (G : GG) (ar : Nat) (N0 : Nat) (sf : Nat → Int32) (i : Int32) (j : Int32) (nn : Nat) (hsf : sb_Fit sf) (hN0 : N0 ≤ 4000) (hr : 0 ≤ i.toInt ∧ j.toInt = i.toInt + nn ∧ nn ≤ 100 ∧ j.toInt ≤ N0) (h1 : 1 ≤ i.toInt) : MR l y_Arr_copyOfRange b_Arr_copyOfRange 3 (.array .byte) rm_Arr_copyOfRange G [.ref ar, .int i, .int j] [(ar, .inl (G.2.1 0, N0, .inl sf))] (fun (v : Nat) (u : Nat × (Nat → Int32)) => (u.1 = v) ∧ (sb_Fit u.2)) (fun (u : Nat × (Nat → Int32)) => [(ar, .inl (G.2.1 0, N0, .inl sf)), (u.1, .inl (G.2.1 0, nn, .inl u.2))]) 1 100 := by
  refine MR.of (cc := b_Arr_copyOfRange) (maxL := 3) (ty := .array .byte) (C := R_Arr) (by decide +kernel) rfl (Nat.le_of_ble_eq_true rfl) (Or.inr ⟨_, rfl⟩) ?_
  intro p e s m args below meth c A Q H ls hx hb hml hown hw hE hA hP hD hS ret hl
  have hl : lv_has ls 3 [(0, .ref ar), (1, .int i), (2, .int j)] := hl
  have hn0 := z_n (n := N0) (by omega)
  have hnn : (0 : Int) ≤ (nn : Int) := Int.natCast_nonneg _
  refine lv_iload_n hx hb d_Arr_copyOfRange_0 rfl (lv_at hl 1 rfl) ?_
  refine lv_if_ne (tgt := 10) hx hb d_Arr_copyOfRange_1 (by decide) (fun c_1 => ?_) (fun c_1 => ?_)
  · have tl_0 : (0 : Int32).toInt = 0 := by decide
    have tc_1 := z_ne c_1
    refine lv_aload_n hx hb d_Arr_copyOfRange_10 rfl (lv_at hl 0 rfl) ?_
    refine lv_iload_n hx hb d_Arr_copyOfRange_11 rfl (lv_at hl 1 rfl) ?_
    refine lv_iload_n hx hb d_Arr_copyOfRange_12 rfl (lv_at hl 2 rfl) ?_
    refine gc_r (wr := []) (gc_S (wc := [(ar, .inl (G.2.1 0, N0, .inl sf))]) (As := [.ref ar, .int i, .int j]) (rest := []) ⟨hx, hb, hml, hown, hw⟩ (c_Arr_copyOfRangeByte l G ar N0 sf i j nn hsf hN0 hr H.size) (va_cwS 3 hw (good_S m_570 m_571 m_11 m_572) rfl rfl rfl hy_Arr_copyOfRangeByte.2 ⟨Nat.le_of_ble_eq_true rfl, Nat.le_of_ble_eq_true rfl⟩) hE hP hD hS hA [0] rfl (by decide) rfl hl rfl (Nat.le_of_ble_eq_true rfl) d_Arr_copyOfRange_13 ⟨Nat.le_of_ble_eq_true rfl, Nat.le_of_ble_eq_true rfl⟩) hP hD hS hA [0] [] rfl rfl (by decide) (by decide) (fun r_2 u_3 H locs hw_4 hP hD hS => ?_)
    obtain ⟨q_5, cf_6⟩ := u_3
    try dsimp only at hw_4
    obtain ⟨h_7, h_8⟩ := hw_4
    subst h_7
    have hP : va_P G.1 vwCl [(ar, .inl (G.2.1 0, N0, .inl sf)), (q_5, .inl (G.2.1 0, nn, .inl cf_6))] H := hP
    have hD : va_D A [(ar, .inl (G.2.1 0, N0, .inl sf)), (q_5, .inl (G.2.1 0, nn, .inl cf_6))] := hD
    refine W.widen (k := 1) (n := 100) (Nat.le_of_ble_eq_true rfl) (Nat.le_of_ble_eq_true rfl) ?_
    exact ret q_5 (q_5, cf_6) (Nat.le_of_ble_eq_true rfl) (Nat.le_of_ble_eq_true rfl) d_Arr_copyOfRange_16 ⟨rfl, h_8⟩ (hP.sub [0, 1] rfl) (hD.sub [0, 1] (by decide) rfl) hS
  · have tl_0 : (0 : Int32).toInt = 0 := by decide
    have tc_1 := congrArg Int32.toInt c_1
    exact absurd h1 (by omega)
def rm_Arr_copyOf : Room := { frames := 1, cells := 1, slots := 100, locals := 28 }
set_option maxHeartbeats 4000000 in
set_option maxRecDepth 100000 in
theorem c_Arr_copyOf (l : Launch) (G : GG) (ar : Nat) (N0 : Nat) (sf : Nat → Int32) (n : Int32) (nn : Nat) (hsf : sb_Fit sf) (hN0 : N0 ≤ 4000) (hr : n.toInt = nn ∧ nn ≤ 100 ∧ nn < N0) : MR l y_Arr_copyOf b_Arr_copyOf 3 (.array .byte) rm_Arr_copyOf G [.ref ar, .int n] [(ar, .inl (G.2.1 0, N0, .inl sf))] (fun (v : Nat) (u : Nat × (Nat → Int32)) => (u.1 = v) ∧ (sb_Fit u.2)) (fun (u : Nat × (Nat → Int32)) => [(ar, .inl (G.2.1 0, N0, .inl sf)), (u.1, .inl (G.2.1 0, nn, .inl u.2))]) 1 100 := by
  refine MR.of (cc := b_Arr_copyOf) (maxL := 3) (ty := .array .byte) (C := R_Arr) (by decide +kernel) rfl (Nat.le_of_ble_eq_true rfl) (Or.inr ⟨_, rfl⟩) ?_
  intro p e s m args below meth c A Q H ls hx hb hml hown hw hE hA hP hD hS ret hl
  have hl : lv_has ls 3 [(0, .ref ar), (1, .int n)] := hl
  have hn0 := z_n (n := N0) (by omega)
  have hnn : (0 : Int) ≤ (nn : Int) := Int.natCast_nonneg _
  refine lv_iload_n hx hb d_Arr_copyOf_0 rfl (lv_at hl 1 rfl) ?_
  refine lv_aload_n hx hb d_Arr_copyOf_1 rfl (lv_at hl 0 rfl) ?_
  refine va_alen (v := nI N0) hx hb hE.1 hP 0 0 rfl rfl rfl d_Arr_copyOf_2 ?_
  refine lv_icmp_ne (tgt := 14) hx hb d_Arr_copyOf_3 (by decide) (fun c_1 => ?_) (fun c_1 => ?_)
  · have tc_1 := z_ne c_1
    refine lv_iload_n hx hb d_Arr_copyOf_14 rfl (lv_at hl 1 rfl) ?_
    refine gc_newa (atype := .byte) (ty := .byte) (N' := nn) (a0 := (nn, .inl (fun _ => 0))) hx hb (hw _ m_36) rfl hE hP hD hS hA 0 rfl (fun _ h => h) (fun _ => rfl) (z_nn (by omega)) (cl_of (by omega)) (by show nn * 1 ≤ 536870912; omega) (Nat.le_of_ble_eq_true rfl) (by show 0 + nn ≤ 100; omega) d_Arr_copyOf_15 (fun q_2 H hP hD hS => ?_)
    have hP : va_P G.1 vwCl [(ar, .inl (G.2.1 0, N0, .inl sf)), (q_2, .inl (G.2.1 0, nn, .inl (fun _ => 0)))] H := hP
    have hD : va_D A [(ar, .inl (G.2.1 0, N0, .inl sf)), (q_2, .inl (G.2.1 0, nn, .inl (fun _ => 0)))] := hD
    refine W.widen (k := 1) (n := 100) (Nat.le_of_ble_eq_true rfl) (by omega) ?_
    refine lv_astore_n (lv' := [(2, .ref q_2), (0, .ref ar), (1, .int n)]) hx hb d_Arr_copyOf_17 rfl hl (by decide) rfl (fun ls hl => ?_)
    refine lv_aload_n hx hb d_Arr_copyOf_18 rfl (lv_at hl 1 rfl) ?_
    refine lv_iconst (v := 0) hx hb d_Arr_copyOf_19 (by decide) ?_
    refine lv_aload_n hx hb d_Arr_copyOf_20 rfl (lv_at hl 0 rfl) ?_
    refine lv_iconst (v := 0) hx hb d_Arr_copyOf_21 (by decide) ?_
    refine lv_aload_n hx hb d_Arr_copyOf_22 rfl (lv_at hl 1 rfl) ?_
    refine va_alen (v := nI N0) hx hb hE.1 hP 0 0 rfl rfl rfl d_Arr_copyOf_23 ?_
    refine lv_iload_n hx hb d_Arr_copyOf_24 rfl (lv_at hl 2 rfl) ?_
    refine va_mmin hx hb (by rw [hml]; exact hl.1.symm) hown (hw _ m_576) (hw _ m_577) (hw _ m_12) (hw _ m_578) (Nat.le_of_ble_eq_true rfl) (Nat.le_of_ble_eq_true rfl) (Nat.le_of_ble_eq_true rfl) (Nat.le_of_ble_eq_true rfl) d_Arr_copyOf_25 ?_
    refine lv_topi (fun y_3 ey_3 => ?_)
    have ty_3 := z_min ey_3
    have tl_0 : (0 : Int32).toInt = 0 := by decide
    refine va_copyi (ty := .byte) hx hb (by rw [hml]; exact hl.1.symm) hown (hw _ m_579) (hw _ m_acn) (hw _ m_580) (hw _ m_13) hE.1 hP hD hS 0 1 0 0 rfl rfl rfl rfl rfl (z_nn (by omega)) (z_nn (by omega)) (z_nn (by omega)) (cp_le (by omega) (by omega) (by omega)) (cp_le (by omega) (by omega) (by omega)) (fun i _ => hsf _) (Nat.le_of_ble_eq_true rfl) (Nat.le_of_ble_eq_true rfl) d_Arr_copyOf_28 (fun H locs hP hD hS => ?_)
    obtain ⟨f_4, ef_4⟩ : ∃ y : Nat → Int32, y = va_cpy sf (fun _ => 0) (0 : Int32).toNatClampNeg (0 : Int32).toNatClampNeg y_3.toNatClampNeg := ⟨_, rfl⟩
    rw [← ef_4] at hP hD
    have hP : va_P G.1 vwCl [(ar, .inl (G.2.1 0, N0, .inl sf)), (q_2, .inl (G.2.1 0, nn, .inl f_4))] H := hP
    have hD : va_D A [(ar, .inl (G.2.1 0, N0, .inl sf)), (q_2, .inl (G.2.1 0, nn, .inl f_4))] := hD
    have hff_4 : sb_Fit f_4 := by rw [ef_4]; exact sb_fitC hsf sb_fit0
    refine lv_aload_n hx hb d_Arr_copyOf_31 rfl (lv_at hl 0 rfl) ?_
    exact ret q_2 (q_2, f_4) (Nat.le_of_ble_eq_true rfl) (Nat.le_of_ble_eq_true rfl) d_Arr_copyOf_32 ⟨rfl, hff_4⟩ (hP.sub [0, 1] rfl) (hD.sub [0, 1] (by decide) rfl) hS
  · have tc_1 := congrArg Int32.toInt c_1
    exact absurd hr (by omega)
