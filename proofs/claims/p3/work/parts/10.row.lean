def rm_Row_init_1000 : Room := { frames := 1, cells := 1, slots := 1000, locals := 12 }
set_option maxHeartbeats 4000000 in
set_option maxRecDepth 100000 in
/-- Row(1000) -/
theorem c_Row_init_1000 (l : Launch) (G : GG) (r : Nat) : MV l y_Row_init b_Row_init 2 rm_Row_init_1000 G [.ref r, .int 1000] [(r, .inr (1, [.null, .int 0]))] (fun (u : Nat) => True) (fun (u : Nat) => [(r, .inr (1, [.ref u, .int 0])), (u, .inl (G.2.1 0, 1000, .inl (fun _ => 0)))]) 1 1000 := by
  refine MV.of (cc := b_Row_init) (maxL := 2) (C := R_Row) (by decide +kernel) rfl (Nat.le_of_ble_eq_true rfl) ?_
  intro p e s m args below meth c A Q H ls hx hb hml hown hw hE hA hP hD hS hin ret hl
  have hl : lv_has ls 2 [(0, .ref r), (1, .int 1000)] := hl
  refine lv_aload_n hx hb d_Row_init_0 rfl (lv_at hl 0 rfl) ?_
  refine W.objInit hx hb hown (hw _ m_28) (hw _ m_21) (hw _ m_oi) rfl (by rw [hml]; exact hl.1) rfl d_Row_init_1 (Nat.le_of_ble_eq_true rfl) (Nat.le_of_ble_eq_true rfl) ?_
  refine W.eq (g2 := F0 m 4 ls []) rfl ?_
  refine lv_aload_n hx hb d_Row_init_4 rfl (lv_at hl 0 rfl) ?_
  refine lv_iload_n hx hb d_Row_init_5 rfl (lv_at hl 1 rfl) ?_
  refine gc_newa (atype := .byte) (ty := .byte) (N' := 1000) (a0 := (1000, .inl (fun _ => 0))) hx hb (hw _ m_36) rfl hE hP hD hS hA 0 rfl (fun _ h => h) (fun _ => rfl) (by decide) (by decide) (by decide) (Nat.le_of_ble_eq_true rfl) (Nat.le_of_ble_eq_true rfl) d_Row_init_6 (fun q_1 H hP hD hS => ?_)
  have hP : va_P G.1 vwCl [(r, .inr (1, [.null, .int 0])), (q_1, .inl (G.2.1 0, 1000, .inl (fun _ => 0)))] H := hP
  have hD : va_D A [(r, .inr (1, [.null, .int 0])), (q_1, .inl (G.2.1 0, 1000, .inl (fun _ => 0)))] := hD
  refine W.widen (k := 1) (n := 1000) (Nat.le_of_ble_eq_true rfl) (Nat.le_of_ble_eq_true rfl) ?_
  refine va_putF (D := G.1) (ci := 1) (v := .ref q_1) (ty := (.array .byte)) (C := R_Row) (T := F_Row) (N := 2) hx hb hw i_Row t_Row t_Row_ok n_Row hown hE.1 hP hD hS 0 rfl rfl 0 (by decide) (hw _ m_29) (fun _ h9 => h9) rfl hin rfl (by decide +kernel) rfl rfl (Nat.le_of_ble_eq_true rfl) d_Row_init_8 (fun H locs hP hD hS => ?_)
  have hP : va_P G.1 vwCl [(r, .inr (1, [.ref q_1, .int 0])), (q_1, .inl (G.2.1 0, 1000, .inl (fun _ => 0)))] H := hP
  have hD : va_D A [(r, .inr (1, [.ref q_1, .int 0])), (q_1, .inl (G.2.1 0, 1000, .inl (fun _ => 0)))] := hD
  refine lv_aload_n hx hb d_Row_init_11 rfl (lv_at hl 0 rfl) ?_
  refine lv_iconst (v := 0) hx hb d_Row_init_12 (by decide) ?_
  refine va_put (D := G.1) (ci := 1) (v := .int 0) (ty := .int) (C := R_Row) (T := F_Row) (N := 2) hx hb hw i_Row t_Row t_Row_ok n_Row hown hE.1 hP hD hS 0 rfl rfl 1 (by decide) (hw _ m_30) (fun _ h9 => h9) rfl (by decide +kernel) rfl rfl (Nat.le_of_ble_eq_true rfl) d_Row_init_13 (fun H locs hP hD hS => ?_)
  have hP : va_P G.1 vwCl [(r, .inr (1, [.ref q_1, .int 0])), (q_1, .inl (G.2.1 0, 1000, .inl (fun _ => 0)))] H := hP
  have hD : va_D A [(r, .inr (1, [.ref q_1, .int 0])), (q_1, .inl (G.2.1 0, 1000, .inl (fun _ => 0)))] := hD
  exact ret (q_1) (Nat.le_of_ble_eq_true rfl) (Nat.le_of_ble_eq_true rfl) d_Row_init_16 trivial (hP.sub [0, 1] rfl) (hD.sub [0, 1] (by decide) rfl) hS
def rm_Row_init_2000 : Room := { frames := 1, cells := 1, slots := 2000, locals := 12 }
set_option maxHeartbeats 4000000 in
set_option maxRecDepth 100000 in
/-- Row(2000) -/
theorem c_Row_init_2000 (l : Launch) (G : GG) (r : Nat) : MV l y_Row_init b_Row_init 2 rm_Row_init_2000 G [.ref r, .int 2000] [(r, .inr (1, [.null, .int 0]))] (fun (u : Nat) => True) (fun (u : Nat) => [(r, .inr (1, [.ref u, .int 0])), (u, .inl (G.2.1 0, 2000, .inl (fun _ => 0)))]) 1 2000 := by
  refine MV.of (cc := b_Row_init) (maxL := 2) (C := R_Row) (by decide +kernel) rfl (Nat.le_of_ble_eq_true rfl) ?_
  intro p e s m args below meth c A Q H ls hx hb hml hown hw hE hA hP hD hS hin ret hl
  have hl : lv_has ls 2 [(0, .ref r), (1, .int 2000)] := hl
  refine lv_aload_n hx hb d_Row_init_0 rfl (lv_at hl 0 rfl) ?_
  refine W.objInit hx hb hown (hw _ m_28) (hw _ m_21) (hw _ m_oi) rfl (by rw [hml]; exact hl.1) rfl d_Row_init_1 (Nat.le_of_ble_eq_true rfl) (Nat.le_of_ble_eq_true rfl) ?_
  refine W.eq (g2 := F0 m 4 ls []) rfl ?_
  refine lv_aload_n hx hb d_Row_init_4 rfl (lv_at hl 0 rfl) ?_
  refine lv_iload_n hx hb d_Row_init_5 rfl (lv_at hl 1 rfl) ?_
  refine gc_newa (atype := .byte) (ty := .byte) (N' := 2000) (a0 := (2000, .inl (fun _ => 0))) hx hb (hw _ m_36) rfl hE hP hD hS hA 0 rfl (fun _ h => h) (fun _ => rfl) (by decide) (by decide) (by decide) (Nat.le_of_ble_eq_true rfl) (Nat.le_of_ble_eq_true rfl) d_Row_init_6 (fun q_1 H hP hD hS => ?_)
  have hP : va_P G.1 vwCl [(r, .inr (1, [.null, .int 0])), (q_1, .inl (G.2.1 0, 2000, .inl (fun _ => 0)))] H := hP
  have hD : va_D A [(r, .inr (1, [.null, .int 0])), (q_1, .inl (G.2.1 0, 2000, .inl (fun _ => 0)))] := hD
  refine W.widen (k := 1) (n := 2000) (Nat.le_of_ble_eq_true rfl) (Nat.le_of_ble_eq_true rfl) ?_
  refine va_putF (D := G.1) (ci := 1) (v := .ref q_1) (ty := (.array .byte)) (C := R_Row) (T := F_Row) (N := 2) hx hb hw i_Row t_Row t_Row_ok n_Row hown hE.1 hP hD hS 0 rfl rfl 0 (by decide) (hw _ m_29) (fun _ h9 => h9) rfl hin rfl (by decide +kernel) rfl rfl (Nat.le_of_ble_eq_true rfl) d_Row_init_8 (fun H locs hP hD hS => ?_)
  have hP : va_P G.1 vwCl [(r, .inr (1, [.ref q_1, .int 0])), (q_1, .inl (G.2.1 0, 2000, .inl (fun _ => 0)))] H := hP
  have hD : va_D A [(r, .inr (1, [.ref q_1, .int 0])), (q_1, .inl (G.2.1 0, 2000, .inl (fun _ => 0)))] := hD
  refine lv_aload_n hx hb d_Row_init_11 rfl (lv_at hl 0 rfl) ?_
  refine lv_iconst (v := 0) hx hb d_Row_init_12 (by decide) ?_
  refine va_put (D := G.1) (ci := 1) (v := .int 0) (ty := .int) (C := R_Row) (T := F_Row) (N := 2) hx hb hw i_Row t_Row t_Row_ok n_Row hown hE.1 hP hD hS 0 rfl rfl 1 (by decide) (hw _ m_30) (fun _ h9 => h9) rfl (by decide +kernel) rfl rfl (Nat.le_of_ble_eq_true rfl) d_Row_init_13 (fun H locs hP hD hS => ?_)
  have hP : va_P G.1 vwCl [(r, .inr (1, [.ref q_1, .int 0])), (q_1, .inl (G.2.1 0, 2000, .inl (fun _ => 0)))] H := hP
  have hD : va_D A [(r, .inr (1, [.ref q_1, .int 0])), (q_1, .inl (G.2.1 0, 2000, .inl (fun _ => 0)))] := hD
  exact ret (q_1) (Nat.le_of_ble_eq_true rfl) (Nat.le_of_ble_eq_true rfl) d_Row_init_16 trivial (hP.sub [0, 1] rfl) (hD.sub [0, 1] (by decide) rfl) hS
def rm_Row_size : Room := { frames := 0, cells := 0, slots := 0, locals := 0 }
set_option maxHeartbeats 4000000 in
set_option maxRecDepth 100000 in
/-- size() -/
theorem c_Row_size (l : Launch) (G : GG) (r : Nat) (a : Nat) (N : Nat) (sz : Int32) (f : Nat → Int32) (hN : N ≤ 2000) (hok : RowOk N sz) : MI l y_Row_size b_Row_size 1 .int rm_Row_size G [.ref r] [(r, .inr (1, [.ref a, .int sz])), (a, .inl (G.2.1 0, N, .inl f))] (fun (v : Int32) (u : Unit) => (sz = v)) (fun (u : Unit) => [(r, .inr (1, [.ref a, .int sz])), (a, .inl (G.2.1 0, N, .inl f))]) 0 0 := by
  refine MI.of (cc := b_Row_size) (maxL := 1) (ty := .int) (C := R_Row) (by decide +kernel) rfl (Nat.le_of_ble_eq_true rfl) ?_
  intro p e s m args below meth c A Q H ls hx hb hml hown hw hE hA hP hD hS ret hl
  have hl : lv_has ls 1 [(0, .ref r)] := hl
  refine lv_aload_n hx hb d_Row_size_0 rfl (lv_at hl 0 rfl) ?_
  refine va_get (D := G.1) (ci := 1) (v := .int sz) (C := R_Row) (T := F_Row) (N := 2) hx hb hw i_Row hown hE.1 hP 0 rfl rfl 1 (by decide) (hw _ m_30) (fun _ h9 => h9) rfl d_Row_size_1 ?_
  exact ret sz () (Nat.le_of_ble_eq_true rfl) (Nat.le_of_ble_eq_true rfl) d_Row_size_4 rfl rfl (hP.sub [0, 1] rfl) (hD.sub [0, 1] (by decide) rfl) hS
def rm_Row_get : Room := { frames := 0, cells := 0, slots := 0, locals := 0 }
set_option maxHeartbeats 4000000 in
set_option maxRecDepth 100000 in
/-- get(i) -/
theorem c_Row_get (l : Launch) (G : GG) (r : Nat) (a : Nat) (N : Nat) (sz : Int32) (f : Nat → Int32) (i : Int32) (hN : N ≤ 2000) (hok : RowOk N sz) : MI l y_Row_get b_Row_get 2 .int rm_Row_get G [.ref r, .int i] [(r, .inr (1, [.ref a, .int sz])), (a, .inl (G.2.1 0, N, .inl f))] (fun (v : Int32) (u : Unit) => True) (fun (u : Unit) => [(r, .inr (1, [.ref a, .int sz])), (a, .inl (G.2.1 0, N, .inl f))]) 0 0 := by
  refine MI.of (cc := b_Row_get) (maxL := 2) (ty := .int) (C := R_Row) (by decide +kernel) rfl (Nat.le_of_ble_eq_true rfl) ?_
  intro p e s m args below meth c A Q H ls hx hb hml hown hw hE hA hP hD hS ret hl
  have hl : lv_has ls 2 [(0, .ref r), (1, .int i)] := hl
  refine lv_iload_n hx hb d_Row_get_0 rfl (lv_at hl 1 rfl) ?_
  refine lv_if_lt (tgt := 25) hx hb d_Row_get_1 (by decide) (fun c_1 => ?_) (fun c_1 => ?_)
  · refine lv_iconst (v := (-1)) hx hb d_Row_get_25 (by decide) ?_
    exact ret (-1) () (Nat.le_of_ble_eq_true rfl) (Nat.le_of_ble_eq_true rfl) d_Row_get_26 rfl trivial (hP.sub [0, 1] rfl) (hD.sub [0, 1] (by decide) rfl) hS
  · refine lv_iload_n hx hb d_Row_get_4 rfl (lv_at hl 1 rfl) ?_
    refine lv_aload_n hx hb d_Row_get_5 rfl (lv_at hl 0 rfl) ?_
    refine va_get (D := G.1) (ci := 1) (v := .int sz) (C := R_Row) (T := F_Row) (N := 2) hx hb hw i_Row hown hE.1 hP 0 rfl rfl 1 (by decide) (hw _ m_30) (fun _ h9 => h9) rfl d_Row_get_6 ?_
    refine lv_icmp_ge (tgt := 25) hx hb d_Row_get_9 (by decide) (fun c_2 => ?_) (fun c_2 => ?_)
    · refine lv_iconst (v := (-1)) hx hb d_Row_get_25 (by decide) ?_
      exact ret (-1) () (Nat.le_of_ble_eq_true rfl) (Nat.le_of_ble_eq_true rfl) d_Row_get_26 rfl trivial (hP.sub [0, 1] rfl) (hD.sub [0, 1] (by decide) rfl) hS
    · refine lv_aload_n hx hb d_Row_get_12 rfl (lv_at hl 0 rfl) ?_
      refine va_get (D := G.1) (ci := 1) (v := .ref a) (C := R_Row) (T := F_Row) (N := 2) hx hb hw i_Row hown hE.1 hP 0 rfl rfl 0 (by decide) (hw _ m_29) (fun _ h9 => h9) rfl d_Row_get_13 ?_
      refine lv_iload_n hx hb d_Row_get_16 rfl (lv_at hl 1 rfl) ?_
      refine va_bald hx hb hE.1 hP 1 0 rfl rfl (i := i) (z_in (by rw [z_lt, z_0] at c_1; omega) (by have h9 := hok.2; rw [z_le] at c_2; omega)) d_Row_get_17 ?_
      refine lv_topi (fun y_3 ey_3 => ?_)
      refine lv_sipush (v := 255) hx hb d_Row_get_18 (by decide) ?_
      refine lv_iand hx hb d_Row_get_21 ?_
      refine lv_topi (fun y_4 ey_4 => ?_)
      refine lv_goto (tgt := 26) hx hb d_Row_get_22 (by decide) ?_
      exact ret y_4 () (Nat.le_of_ble_eq_true rfl) (Nat.le_of_ble_eq_true rfl) d_Row_get_26 rfl trivial (hP.sub [0, 1] rfl) (hD.sub [0, 1] (by decide) rfl) hS
def rm_Row_cut : Room := { frames := 0, cells := 0, slots := 0, locals := 0 }
set_option maxHeartbeats 4000000 in
set_option maxRecDepth 100000 in
/-- cut(n) -/
theorem c_Row_cut (l : Launch) (G : GG) (r : Nat) (a : Nat) (N : Nat) (sz : Int32) (f : Nat → Int32) (n : Int32) (hN : N ≤ 2000) (hok : RowOk N sz) : MV l y_Row_cut b_Row_cut 2 rm_Row_cut G [.ref r, .int n] [(r, .inr (1, [.ref a, .int sz])), (a, .inl (G.2.1 0, N, .inl f))] (fun (u : Int32) => (RowOk N u) ∧ (0 ≤ n.toInt ∧ n.toInt ≤ sz.toInt → n = u)) (fun (u : Int32) => [(r, .inr (1, [.ref a, .int u])), (a, .inl (G.2.1 0, N, .inl f))]) 0 0 := by
  refine MV.of (cc := b_Row_cut) (maxL := 2) (C := R_Row) (by decide +kernel) rfl (Nat.le_of_ble_eq_true rfl) ?_
  intro p e s m args below meth c A Q H ls hx hb hml hown hw hE hA hP hD hS hin ret hl
  have hl : lv_has ls 2 [(0, .ref r), (1, .int n)] := hl
  refine lv_iload_n hx hb d_Row_cut_0 rfl (lv_at hl 1 rfl) ?_
  refine lv_if_lt (tgt := 17) hx hb d_Row_cut_1 (by decide) (fun c_1 => ?_) (fun c_1 => ?_)
  · exact ret (sz) (Nat.le_of_ble_eq_true rfl) (Nat.le_of_ble_eq_true rfl) d_Row_cut_17 ⟨(by first | exact hok | exact row_cut hok c_1 c_2), (by first | exact fun _ => rfl | exact fun h => absurd h.1 (by rw [z_lt, z_0] at c_1; omega) | exact fun h => absurd h.2 (by rw [z_lt] at c_2; omega))⟩ (hP.sub [0, 1] rfl) (hD.sub [0, 1] (by decide) rfl) hS
  · refine lv_iload_n hx hb d_Row_cut_4 rfl (lv_at hl 1 rfl) ?_
    refine lv_aload_n hx hb d_Row_cut_5 rfl (lv_at hl 0 rfl) ?_
    refine va_get (D := G.1) (ci := 1) (v := .int sz) (C := R_Row) (T := F_Row) (N := 2) hx hb hw i_Row hown hE.1 hP 0 rfl rfl 1 (by decide) (hw _ m_30) (fun _ h9 => h9) rfl d_Row_cut_6 ?_
    refine lv_icmp_gt (tgt := 17) hx hb d_Row_cut_9 (by decide) (fun c_2 => ?_) (fun c_2 => ?_)
    · exact ret (sz) (Nat.le_of_ble_eq_true rfl) (Nat.le_of_ble_eq_true rfl) d_Row_cut_17 ⟨(by first | exact hok | exact row_cut hok c_1 c_2), (by first | exact fun _ => rfl | exact fun h => absurd h.1 (by rw [z_lt, z_0] at c_1; omega) | exact fun h => absurd h.2 (by rw [z_lt] at c_2; omega))⟩ (hP.sub [0, 1] rfl) (hD.sub [0, 1] (by decide) rfl) hS
    · refine lv_aload_n hx hb d_Row_cut_12 rfl (lv_at hl 0 rfl) ?_
      refine lv_iload_n hx hb d_Row_cut_13 rfl (lv_at hl 1 rfl) ?_
      refine va_put (D := G.1) (ci := 1) (v := .int n) (ty := .int) (C := R_Row) (T := F_Row) (N := 2) hx hb hw i_Row t_Row t_Row_ok n_Row hown hE.1 hP hD hS 0 rfl rfl 1 (by decide) (hw _ m_30) (fun _ h9 => h9) rfl (by decide +kernel) rfl rfl (Nat.le_of_ble_eq_true rfl) d_Row_cut_14 (fun H locs hP hD hS => ?_)
      have hP : va_P G.1 vwCl [(r, .inr (1, [.ref a, .int n])), (a, .inl (G.2.1 0, N, .inl f))] H := hP
      have hD : va_D A [(r, .inr (1, [.ref a, .int n])), (a, .inl (G.2.1 0, N, .inl f))] := hD
      exact ret (n) (Nat.le_of_ble_eq_true rfl) (Nat.le_of_ble_eq_true rfl) d_Row_cut_17 ⟨(by first | exact hok | exact row_cut hok c_1 c_2), (by first | exact fun _ => rfl | exact fun h => absurd h.1 (by rw [z_lt, z_0] at c_1; omega) | exact fun h => absurd h.2 (by rw [z_lt] at c_2; omega))⟩ (hP.sub [0, 1] rfl) (hD.sub [0, 1] (by decide) rfl) hS
def rm_Row_add : Room := { frames := 0, cells := 0, slots := 0, locals := 0 }
set_option maxHeartbeats 4000000 in
set_option maxRecDepth 100000 in
/-- add(b) -/
theorem c_Row_add (l : Launch) (G : GG) (r : Nat) (a : Nat) (N : Nat) (sz : Int32) (f : Nat → Int32) (b : Int32) (hN : N ≤ 2000) (hok : RowOk N sz) : MV l y_Row_add b_Row_add 2 rm_Row_add G [.ref r, .int b] [(r, .inr (1, [.ref a, .int sz])), (a, .inl (G.2.1 0, N, .inl f))] (fun (u : Int32 × (Nat → Int32)) => (RowOk N u.1) ∧ (sz.toInt < N → u.1.toInt = sz.toInt + 1)) (fun (u : Int32 × (Nat → Int32)) => [(r, .inr (1, [.ref a, .int u.1])), (a, .inl (G.2.1 0, N, .inl u.2))]) 0 0 := by
  refine MV.of (cc := b_Row_add) (maxL := 2) (C := R_Row) (by decide +kernel) rfl (Nat.le_of_ble_eq_true rfl) ?_
  intro p e s m args below meth c A Q H ls hx hb hml hown hw hE hA hP hD hS hin ret hl
  have hl : lv_has ls 2 [(0, .ref r), (1, .int b)] := hl
  refine lv_aload_n hx hb d_Row_add_0 rfl (lv_at hl 0 rfl) ?_
  refine va_get (D := G.1) (ci := 1) (v := .int sz) (C := R_Row) (T := F_Row) (N := 2) hx hb hw i_Row hown hE.1 hP 0 rfl rfl 1 (by decide) (hw _ m_30) (fun _ h9 => h9) rfl d_Row_add_1 ?_
  refine lv_aload_n hx hb d_Row_add_4 rfl (lv_at hl 0 rfl) ?_
  refine va_get (D := G.1) (ci := 1) (v := .ref a) (C := R_Row) (T := F_Row) (N := 2) hx hb hw i_Row hown hE.1 hP 0 rfl rfl 0 (by decide) (hw _ m_29) (fun _ h9 => h9) rfl d_Row_add_5 ?_
  refine va_alen (v := nI N) hx hb hE.1 hP 1 0 rfl rfl rfl d_Row_add_8 ?_
  refine lv_icmp_ge (tgt := 33) hx hb d_Row_add_9 (by decide) (fun c_1 => ?_) (fun c_1 => ?_)
  · exact ret (sz, f) (Nat.le_of_ble_eq_true rfl) (Nat.le_of_ble_eq_true rfl) d_Row_add_33 ⟨(by first | exact hok | exact (row_add hN hok c_1 ey_4).1), (by first | exact (row_add hN hok c_1 ey_4).2 | exact (row_full hN c_1))⟩ (hP.sub [0, 1] rfl) (hD.sub [0, 1] (by decide) rfl) hS
  · refine lv_aload_n hx hb d_Row_add_12 rfl (lv_at hl 0 rfl) ?_
    refine va_get (D := G.1) (ci := 1) (v := .ref a) (C := R_Row) (T := F_Row) (N := 2) hx hb hw i_Row hown hE.1 hP 0 rfl rfl 0 (by decide) (hw _ m_29) (fun _ h9 => h9) rfl d_Row_add_13 ?_
    refine lv_aload_n hx hb d_Row_add_16 rfl (lv_at hl 0 rfl) ?_
    refine va_get (D := G.1) (ci := 1) (v := .int sz) (C := R_Row) (T := F_Row) (N := 2) hx hb hw i_Row hown hE.1 hP 0 rfl rfl 1 (by decide) (hw _ m_30) (fun _ h9 => h9) rfl d_Row_add_17 ?_
    refine lv_iload_n hx hb d_Row_add_20 rfl (lv_at hl 1 rfl) ?_
    refine lv_i2b hx hb d_Row_add_21 rfl ?_
    refine lv_topi (fun y_2 ey_2 => ?_)
    refine va_bast hx hb hE.1 hP hD hS 1 0 rfl rfl (i := sz) (row_in hN hok c_1) d_Row_add_22 (fun H locs hP hD hS => ?_)
    obtain ⟨f_3, ef_3⟩ : ∃ y : Nat → Int32, y = upd f sz.toNatClampNeg (vp_nar .byte y_2) := ⟨_, rfl⟩
    rw [← ef_3] at hP hD
    have hP : va_P G.1 vwCl [(r, .inr (1, [.ref a, .int sz])), (a, .inl (G.2.1 0, N, .inl f_3))] H := hP
    have hD : va_D A [(r, .inr (1, [.ref a, .int sz])), (a, .inl (G.2.1 0, N, .inl f_3))] := hD
    refine lv_aload_n hx hb d_Row_add_23 rfl (lv_at hl 0 rfl) ?_
    refine lv_dup hx hb d_Row_add_24 rfl ?_
    refine va_get (D := G.1) (ci := 1) (v := .int sz) (C := R_Row) (T := F_Row) (N := 2) hx hb hw i_Row hown hE.1 hP 0 rfl rfl 1 (by decide) (hw _ m_30) (fun _ h9 => h9) rfl d_Row_add_25 ?_
    refine lv_iconst (v := 1) hx hb d_Row_add_28 (by decide) ?_
    refine lv_iadd hx hb d_Row_add_29 ?_
    refine lv_topi (fun y_4 ey_4 => ?_)
    refine va_put (D := G.1) (ci := 1) (v := .int y_4) (ty := .int) (C := R_Row) (T := F_Row) (N := 2) hx hb hw i_Row t_Row t_Row_ok n_Row hown hE.1 hP hD hS 0 rfl rfl 1 (by decide) (hw _ m_30) (fun _ h9 => h9) rfl (by decide +kernel) rfl rfl (Nat.le_of_ble_eq_true rfl) d_Row_add_30 (fun H locs hP hD hS => ?_)
    have hP : va_P G.1 vwCl [(r, .inr (1, [.ref a, .int y_4])), (a, .inl (G.2.1 0, N, .inl f_3))] H := hP
    have hD : va_D A [(r, .inr (1, [.ref a, .int y_4])), (a, .inl (G.2.1 0, N, .inl f_3))] := hD
    exact ret (y_4, f_3) (Nat.le_of_ble_eq_true rfl) (Nat.le_of_ble_eq_true rfl) d_Row_add_33 ⟨(by first | exact hok | exact (row_add hN hok c_1 ey_4).1), (by first | exact (row_add hN hok c_1 ey_4).2 | exact (row_full hN c_1))⟩ (hP.sub [0, 1] rfl) (hD.sub [0, 1] (by decide) rfl) hS
def rm_Row_addFour : Room := { frames := 1, cells := 0, slots := 0, locals := 21 }
set_option maxHeartbeats 4000000 in
set_option maxRecDepth 100000 in
/-- addFour(b) -/
theorem c_Row_addFour (l : Launch) (G : GG) (r : Nat) (a : Nat) (N : Nat) (sz : Int32) (f : Nat → Int32) (b : Int32) (hN : N ≤ 2000) (hok : RowOk N sz) : MV l y_Row_addFour b_Row_addFour 2 rm_Row_addFour G [.ref r, .int b] [(r, .inr (1, [.ref a, .int sz])), (a, .inl (G.2.1 0, N, .inl f))] (fun (u : Int32 × (Nat → Int32)) => (RowOk N u.1) ∧ (sz.toInt + 4 ≤ N → u.1.toInt = sz.toInt + 4)) (fun (u : Int32 × (Nat → Int32)) => [(r, .inr (1, [.ref a, .int u.1])), (a, .inl (G.2.1 0, N, .inl u.2))]) 0 0 := by
  refine MV.of (cc := b_Row_addFour) (maxL := 2) (C := R_Row) (by decide +kernel) rfl (Nat.le_of_ble_eq_true rfl) ?_
  intro p e s m args below meth c A Q H ls hx hb hml hown hw hE hA hP hD hS hin ret hl
  have hl : lv_has ls 2 [(0, .ref r), (1, .int b)] := hl
  refine lv_aload_n hx hb d_Row_addFour_0 rfl (lv_at hl 0 rfl) ?_
  refine lv_iload_n hx hb d_Row_addFour_1 rfl (lv_at hl 1 rfl) ?_
  refine lv_bipush (v := 24) hx hb d_Row_addFour_2 (by decide) ?_
  refine lv_iushr hx hb d_Row_addFour_4 rfl ?_
  refine lv_topi (fun y_1 ey_1 => ?_)
  refine gc_v (wr := []) (gc_V (wc := [(r, .inr (1, [.ref a, .int sz])), (a, .inl (G.2.1 0, N, .inl f))]) (As := [.int y_1]) (rest := []) ⟨hx, hb, hml, hown, hw⟩ (c_Row_add l G r a N sz f y_1 hN hok H.size) (cwV 1 hw (good_V m_93 m_94 m_95 m_2 m_96) rfl rfl rfl hy_Row_add ⟨Nat.le_of_ble_eq_true rfl, Nat.le_of_ble_eq_true rfl⟩) hE hP hD hS hA (va_recv hE.1 hP (ci := 1) (q0 := 0) rfl rfl) [0, 1] rfl (by decide) rfl hl rfl (Nat.le_of_ble_eq_true rfl) d_Row_addFour_5 ⟨Nat.le_of_ble_eq_true rfl, Nat.le_of_ble_eq_true rfl⟩) hP hD hS hA [0, 1] [] rfl rfl (by decide) (by decide) (fun u_3 H locs hw_4 hP hD hS => ?_)
  obtain ⟨sz2_5, f2_6⟩ := u_3
  try dsimp only at hw_4
  obtain ⟨h_7, h_8⟩ := hw_4
  have hP : va_P G.1 vwCl [(r, .inr (1, [.ref a, .int sz2_5])), (a, .inl (G.2.1 0, N, .inl f2_6))] H := hP
  have hD : va_D A [(r, .inr (1, [.ref a, .int sz2_5])), (a, .inl (G.2.1 0, N, .inl f2_6))] := hD
  refine lv_aload_n hx hb d_Row_addFour_8 rfl (lv_at hl 0 rfl) ?_
  refine lv_iload_n hx hb d_Row_addFour_9 rfl (lv_at hl 1 rfl) ?_
  refine lv_bipush (v := 16) hx hb d_Row_addFour_10 (by decide) ?_
  refine lv_iushr hx hb d_Row_addFour_12 rfl ?_
  refine lv_topi (fun y_9 ey_9 => ?_)
  refine gc_v (wr := []) (gc_V (wc := [(r, .inr (1, [.ref a, .int sz2_5])), (a, .inl (G.2.1 0, N, .inl f2_6))]) (As := [.int y_9]) (rest := []) ⟨hx, hb, hml, hown, hw⟩ (c_Row_add l G r a N sz2_5 f2_6 y_9 hN h_7 H.size) (cwV 1 hw (good_V m_93 m_94 m_95 m_2 m_96) rfl rfl rfl hy_Row_add ⟨Nat.le_of_ble_eq_true rfl, Nat.le_of_ble_eq_true rfl⟩) hE hP hD hS hA (va_recv hE.1 hP (ci := 1) (q0 := 0) rfl rfl) [0, 1] rfl (by decide) rfl hl rfl (Nat.le_of_ble_eq_true rfl) d_Row_addFour_13 ⟨Nat.le_of_ble_eq_true rfl, Nat.le_of_ble_eq_true rfl⟩) hP hD hS hA [0, 1] [] rfl rfl (by decide) (by decide) (fun u_11 H locs hw_12 hP hD hS => ?_)
  obtain ⟨sz2_13, f2_14⟩ := u_11
  try dsimp only at hw_12
  obtain ⟨h_15, h_16⟩ := hw_12
  have hP : va_P G.1 vwCl [(r, .inr (1, [.ref a, .int sz2_13])), (a, .inl (G.2.1 0, N, .inl f2_14))] H := hP
  have hD : va_D A [(r, .inr (1, [.ref a, .int sz2_13])), (a, .inl (G.2.1 0, N, .inl f2_14))] := hD
  refine lv_aload_n hx hb d_Row_addFour_16 rfl (lv_at hl 0 rfl) ?_
  refine lv_iload_n hx hb d_Row_addFour_17 rfl (lv_at hl 1 rfl) ?_
  refine lv_bipush (v := 8) hx hb d_Row_addFour_18 (by decide) ?_
  refine lv_iushr hx hb d_Row_addFour_20 rfl ?_
  refine lv_topi (fun y_17 ey_17 => ?_)
  refine gc_v (wr := []) (gc_V (wc := [(r, .inr (1, [.ref a, .int sz2_13])), (a, .inl (G.2.1 0, N, .inl f2_14))]) (As := [.int y_17]) (rest := []) ⟨hx, hb, hml, hown, hw⟩ (c_Row_add l G r a N sz2_13 f2_14 y_17 hN h_15 H.size) (cwV 1 hw (good_V m_93 m_94 m_95 m_2 m_96) rfl rfl rfl hy_Row_add ⟨Nat.le_of_ble_eq_true rfl, Nat.le_of_ble_eq_true rfl⟩) hE hP hD hS hA (va_recv hE.1 hP (ci := 1) (q0 := 0) rfl rfl) [0, 1] rfl (by decide) rfl hl rfl (Nat.le_of_ble_eq_true rfl) d_Row_addFour_21 ⟨Nat.le_of_ble_eq_true rfl, Nat.le_of_ble_eq_true rfl⟩) hP hD hS hA [0, 1] [] rfl rfl (by decide) (by decide) (fun u_19 H locs hw_20 hP hD hS => ?_)
  obtain ⟨sz2_21, f2_22⟩ := u_19
  try dsimp only at hw_20
  obtain ⟨h_23, h_24⟩ := hw_20
  have hP : va_P G.1 vwCl [(r, .inr (1, [.ref a, .int sz2_21])), (a, .inl (G.2.1 0, N, .inl f2_22))] H := hP
  have hD : va_D A [(r, .inr (1, [.ref a, .int sz2_21])), (a, .inl (G.2.1 0, N, .inl f2_22))] := hD
  refine lv_aload_n hx hb d_Row_addFour_24 rfl (lv_at hl 0 rfl) ?_
  refine lv_iload_n hx hb d_Row_addFour_25 rfl (lv_at hl 1 rfl) ?_
  refine gc_v (wr := []) (gc_V (wc := [(r, .inr (1, [.ref a, .int sz2_21])), (a, .inl (G.2.1 0, N, .inl f2_22))]) (As := [.int b]) (rest := []) ⟨hx, hb, hml, hown, hw⟩ (c_Row_add l G r a N sz2_21 f2_22 b hN h_23 H.size) (cwV 1 hw (good_V m_93 m_94 m_95 m_2 m_96) rfl rfl rfl hy_Row_add ⟨Nat.le_of_ble_eq_true rfl, Nat.le_of_ble_eq_true rfl⟩) hE hP hD hS hA (va_recv hE.1 hP (ci := 1) (q0 := 0) rfl rfl) [0, 1] rfl (by decide) rfl hl rfl (Nat.le_of_ble_eq_true rfl) d_Row_addFour_26 ⟨Nat.le_of_ble_eq_true rfl, Nat.le_of_ble_eq_true rfl⟩) hP hD hS hA [0, 1] [] rfl rfl (by decide) (by decide) (fun u_26 H locs hw_27 hP hD hS => ?_)
  obtain ⟨sz2_28, f2_29⟩ := u_26
  try dsimp only at hw_27
  obtain ⟨h_30, h_31⟩ := hw_27
  have hP : va_P G.1 vwCl [(r, .inr (1, [.ref a, .int sz2_28])), (a, .inl (G.2.1 0, N, .inl f2_29))] H := hP
  have hD : va_D A [(r, .inr (1, [.ref a, .int sz2_28])), (a, .inl (G.2.1 0, N, .inl f2_29))] := hD
  exact ret (sz2_28, f2_29) (Nat.le_of_ble_eq_true rfl) (Nat.le_of_ble_eq_true rfl) d_Row_addFour_29 ⟨h_30, (fun h => by try dsimp only; omega)⟩ (hP.sub [0, 1] rfl) (hD.sub [0, 1] (by decide) rfl) hS
def rm_Row_addFrom : Room := { frames := 1, cells := 0, slots := 0, locals := 21 }
set_option maxHeartbeats 4000000 in
set_option maxRecDepth 100000 in
/-- addFrom(row, i, n) -/
theorem c_Row_addFrom (l : Launch) (G : GG) (r : Nat) (a : Nat) (N : Nat) (sz : Int32) (f : Nat → Int32) (r1 : Nat) (a1 : Nat) (N1 : Nat) (sz1 : Int32) (f1 : Nat → Int32) (i : Int32) (n : Int32) (hN : N ≤ 2000) (hok : RowOk N sz) (hN1 : N1 ≤ 2000) (hok1 : RowOk N1 sz1) : MV l y_Row_addFrom b_Row_addFrom 5 rm_Row_addFrom G [.ref r, .ref r1, .int i, .int n] [(r, .inr (1, [.ref a, .int sz])), (a, .inl (G.2.1 0, N, .inl f)), (r1, .inr (1, [.ref a1, .int sz1])), (a1, .inl (G.2.1 0, N1, .inl f1))] (fun (u : Int32 × (Nat → Int32)) => (RowOk N u.1)) (fun (u : Int32 × (Nat → Int32)) => [(r, .inr (1, [.ref a, .int u.1])), (a, .inl (G.2.1 0, N, .inl u.2)), (r1, .inr (1, [.ref a1, .int sz1])), (a1, .inl (G.2.1 0, N1, .inl f1))]) 0 0 := by
  refine MV.of (cc := b_Row_addFrom) (maxL := 5) (C := R_Row) (by decide +kernel) rfl (Nat.le_of_ble_eq_true rfl) ?_
  intro p e s m args below meth c A Q H ls hx hb hml hown hw hE hA hP hD hS hin ret hl
  have hl : lv_has ls 5 [(0, .ref r), (1, .ref r1), (2, .int i), (3, .int n)] := hl
  have J_3 : ∀ (fu : Nat) (x4_3 : Int32) (sz2_3 : Int32) (f2_3 : Nat → Int32) (hj0_3 : RowOk N sz2_3), (n.toInt - x4_3.toInt).toNat < fu → ∀ (H : Heap) (locs : List Loc), va_P G.1 vwCl [(r, .inr (1, [.ref a, .int sz2_3])), (a, .inl (G.2.1 0, N, .inl f2_3)), (r1, .inr (1, [.ref a1, .int sz1])), (a1, .inl (G.2.1 0, N1, .inl f1))] H → va_D A [(r, .inr (1, [.ref a, .int sz2_3])), (a, .inl (G.2.1 0, N, .inl f2_3)), (r1, .inr (1, [.ref a1, .int sz1])), (a1, .inl (G.2.1 0, N1, .inl f1))] → va_S A s.heap H locs → ∀ ls : Array Slot, lv_has ls 5 [(4, .int x4_3), (0, .ref r), (1, .ref r1), (2, .int i), (3, .int n)] → W p l e rm_Row_addFrom s m args below meth c H locs 0 0 Q (F0 m 3 ls []) := by
    intro fu
    induction fu with
    | zero =>
      intro x4_3 sz2_3 f2_3 hj0_3 hm
      exact absurd hm (Nat.not_lt_zero _)
    | succ fu ih_3 =>
      intro x4_3 sz2_3 f2_3 hj0_3 hm_3 H locs hP hD hS ls hl
      refine lv_iload hx hb d_Row_addFrom_3 (lv_at hl 0 rfl) ?_
      refine lv_iload_n hx hb d_Row_addFrom_5 rfl (lv_at hl 4 rfl) ?_
      refine lv_icmp_ge (tgt := 27) hx hb d_Row_addFrom_6 (by decide) (fun c_1 => ?_) (fun c_1 => ?_)
      · exact ret (sz2_3, f2_3) (Nat.le_of_ble_eq_true rfl) (Nat.le_of_ble_eq_true rfl) d_Row_addFrom_27 hj0_3 (hP.sub [0, 1, 2, 3] rfl) (hD.sub [0, 1, 2, 3] (by decide) rfl) hS
      · refine lv_aload_n hx hb d_Row_addFrom_9 rfl (lv_at hl 1 rfl) ?_
        refine lv_aload_n hx hb d_Row_addFrom_10 rfl (lv_at hl 2 rfl) ?_
        refine lv_iload_n hx hb d_Row_addFrom_11 rfl (lv_at hl 3 rfl) ?_
        refine lv_iload hx hb d_Row_addFrom_12 (lv_at hl 0 rfl) ?_
        refine lv_iadd hx hb d_Row_addFrom_14 ?_
        refine lv_topi (fun y_2 ey_2 => ?_)
        refine gc_i (wr := [(r, .inr (1, [.ref a, .int sz2_3])), (a, .inl (G.2.1 0, N, .inl f2_3))]) (gc_V (wc := [(r1, .inr (1, [.ref a1, .int sz1])), (a1, .inl (G.2.1 0, N1, .inl f1))]) (As := [.int y_2]) (rest := [.ref r]) ⟨hx, hb, hml, hown, hw⟩ (c_Row_get l G r1 a1 N1 sz1 f1 y_2 hN1 hok1 H.size) (cwV 1 hw (good_V m_173 m_144 m_145 m_2 m_146) rfl rfl rfl hy_Row_get ⟨Nat.le_of_ble_eq_true rfl, Nat.le_of_ble_eq_true rfl⟩) hE hP hD hS hA (va_recv hE.1 hP (ci := 1) (q0 := 2) rfl rfl) [2, 3] rfl (by decide) rfl hl rfl (Nat.le_of_ble_eq_true rfl) d_Row_addFrom_15 ⟨Nat.le_of_ble_eq_true rfl, Nat.le_of_ble_eq_true rfl⟩) hP hD hS hA [2, 3] [0, 1] rfl rfl (by decide) (by decide) (fun r_3 u_4 H locs hw_5 hP hD hS => ?_)
        have hP : va_P G.1 vwCl [(r, .inr (1, [.ref a, .int sz2_3])), (a, .inl (G.2.1 0, N, .inl f2_3)), (r1, .inr (1, [.ref a1, .int sz1])), (a1, .inl (G.2.1 0, N1, .inl f1))] H := hP
        have hD : va_D A [(r, .inr (1, [.ref a, .int sz2_3])), (a, .inl (G.2.1 0, N, .inl f2_3)), (r1, .inr (1, [.ref a1, .int sz1])), (a1, .inl (G.2.1 0, N1, .inl f1))] := hD
        refine gc_v (wr := [(r1, .inr (1, [.ref a1, .int sz1])), (a1, .inl (G.2.1 0, N1, .inl f1))]) (gc_V (wc := [(r, .inr (1, [.ref a, .int sz2_3])), (a, .inl (G.2.1 0, N, .inl f2_3))]) (As := [.int r_3]) (rest := []) ⟨hx, hb, hml, hown, hw⟩ (c_Row_add l G r a N sz2_3 f2_3 r_3 hN hj0_3 H.size) (cwV 1 hw (good_V m_93 m_94 m_95 m_2 m_96) rfl rfl rfl hy_Row_add ⟨Nat.le_of_ble_eq_true rfl, Nat.le_of_ble_eq_true rfl⟩) hE hP hD hS hA (va_recv hE.1 hP (ci := 1) (q0 := 0) rfl rfl) [0, 1] rfl (by decide) rfl hl rfl (Nat.le_of_ble_eq_true rfl) d_Row_addFrom_18 ⟨Nat.le_of_ble_eq_true rfl, Nat.le_of_ble_eq_true rfl⟩) hP hD hS hA [0, 1] [2, 3] rfl rfl (by decide) (by decide) (fun u_7 H locs hw_8 hP hD hS => ?_)
        obtain ⟨sz2_9, f2_10⟩ := u_7
        try dsimp only at hw_8
        obtain ⟨h_11, h_12⟩ := hw_8
        have hP : va_P G.1 vwCl [(r1, .inr (1, [.ref a1, .int sz1])), (a1, .inl (G.2.1 0, N1, .inl f1)), (r, .inr (1, [.ref a, .int sz2_9])), (a, .inl (G.2.1 0, N, .inl f2_10))] H := hP
        have hD : va_D A [(r1, .inr (1, [.ref a1, .int sz1])), (a1, .inl (G.2.1 0, N1, .inl f1)), (r, .inr (1, [.ref a, .int sz2_9])), (a, .inl (G.2.1 0, N, .inl f2_10))] := hD
        obtain ⟨y_13, ey_13⟩ : ∃ y : Int32, y = x4_3 + 1 := ⟨_, rfl⟩
        refine lv_iinc (v := y_13) (lv' := [(4, .int y_13), (0, .ref r), (1, .ref r1), (2, .int i), (3, .int n)]) hx hb d_Row_addFrom_21 hl (k := 0) rfl (by rw [ey_13]; rfl) (by decide) rfl (fun ls hl => ?_)
        refine lv_goto (tgt := 3) hx hb d_Row_addFrom_24 (by decide) ?_
        exact ih_3 y_13 sz2_9 f2_10 h_11 (ms_up (by assumption) (by assumption) hm_3) _ _ (hP.sub [2, 3, 0, 1] rfl) (hD.sub [2, 3, 0, 1] (by decide) rfl) hS _ (lv_sub hl [0, 1, 2, 3, 4] rfl)
  refine lv_iconst (v := 0) hx hb d_Row_addFrom_0 (by decide) ?_
  refine lv_istore (lv' := [(4, .int 0), (0, .ref r), (1, .ref r1), (2, .int i), (3, .int n)]) hx hb d_Row_addFrom_1 hl (by decide) rfl (fun ls hl => ?_)
  exact J_3 _ 0 sz f hok (Nat.lt_succ_self _) _ _ (hP.sub [0, 1, 2, 3] rfl) (hD.sub [0, 1, 2, 3] (by decide) rfl) hS _ (lv_sub hl [0, 1, 2, 3, 4] rfl)
def rm_Row_hasAt : Room := { frames := 1, cells := 0, slots := 0, locals := 21 }
set_option maxHeartbeats 4000000 in
set_option maxRecDepth 100000 in
/-- hasAt(i, row, j, n) -/
theorem c_Row_hasAt (l : Launch) (G : GG) (r : Nat) (a : Nat) (N : Nat) (sz : Int32) (f : Nat → Int32) (r1 : Nat) (a1 : Nat) (N1 : Nat) (sz1 : Int32) (f1 : Nat → Int32) (i : Int32) (j : Int32) (n : Int32) (hN : N ≤ 2000) (hok : RowOk N sz) (hN1 : N1 ≤ 2000) (hok1 : RowOk N1 sz1) : MI l y_Row_hasAt b_Row_hasAt 6 .boolean rm_Row_hasAt G [.ref r, .int i, .ref r1, .int j, .int n] [(r, .inr (1, [.ref a, .int sz])), (a, .inl (G.2.1 0, N, .inl f)), (r1, .inr (1, [.ref a1, .int sz1])), (a1, .inl (G.2.1 0, N1, .inl f1))] (fun (v : Int32) (u : Unit) => (v = 0 ∨ v = 1)) (fun (u : Unit) => [(r, .inr (1, [.ref a, .int sz])), (a, .inl (G.2.1 0, N, .inl f)), (r1, .inr (1, [.ref a1, .int sz1])), (a1, .inl (G.2.1 0, N1, .inl f1))]) 0 0 := by
  refine MI.of (cc := b_Row_hasAt) (maxL := 6) (ty := .boolean) (C := R_Row) (by decide +kernel) rfl (Nat.le_of_ble_eq_true rfl) ?_
  intro p e s m args below meth c A Q H ls hx hb hml hown hw hE hA hP hD hS ret hl
  have hl : lv_has ls 6 [(0, .ref r), (1, .int i), (2, .ref r1), (3, .int j), (4, .int n)] := hl
  have J_3 : ∀ (fu : Nat) (x5_3 : Int32), (n.toInt - x5_3.toInt).toNat < fu → ∀ (H : Heap) (locs : List Loc), va_P G.1 vwCl [(r, .inr (1, [.ref a, .int sz])), (a, .inl (G.2.1 0, N, .inl f)), (r1, .inr (1, [.ref a1, .int sz1])), (a1, .inl (G.2.1 0, N1, .inl f1))] H → va_D A [(r, .inr (1, [.ref a, .int sz])), (a, .inl (G.2.1 0, N, .inl f)), (r1, .inr (1, [.ref a1, .int sz1])), (a1, .inl (G.2.1 0, N1, .inl f1))] → va_S A s.heap H locs → ∀ ls : Array Slot, lv_has ls 6 [(5, .int x5_3), (0, .ref r), (1, .int i), (2, .ref r1), (3, .int j), (4, .int n)] → W p l e rm_Row_hasAt s m args below meth c H locs 0 0 Q (F0 m 3 ls []) := by
    intro fu
    induction fu with
    | zero =>
      intro x5_3 hm
      exact absurd hm (Nat.not_lt_zero _)
    | succ fu ih_3 =>
      intro x5_3 hm_3 H locs hP hD hS ls hl
      refine lv_iload hx hb d_Row_hasAt_3 (lv_at hl 0 rfl) ?_
      refine lv_iload hx hb d_Row_hasAt_5 (lv_at hl 5 rfl) ?_
      refine lv_icmp_ge (tgt := 37) hx hb d_Row_hasAt_7 (by decide) (fun c_1 => ?_) (fun c_1 => ?_)
      · refine lv_iconst (v := 1) hx hb d_Row_hasAt_37 (by decide) ?_
        exact ret 1 () (Nat.le_of_ble_eq_true rfl) (Nat.le_of_ble_eq_true rfl) d_Row_hasAt_38 rfl (by decide) (hP.sub [0, 1, 2, 3] rfl) (hD.sub [0, 1, 2, 3] (by decide) rfl) hS
      · refine lv_aload_n hx hb d_Row_hasAt_10 rfl (lv_at hl 1 rfl) ?_
        refine lv_iload_n hx hb d_Row_hasAt_11 rfl (lv_at hl 2 rfl) ?_
        refine lv_iload hx hb d_Row_hasAt_12 (lv_at hl 0 rfl) ?_
        refine lv_iadd hx hb d_Row_hasAt_14 ?_
        refine lv_topi (fun y_2 ey_2 => ?_)
        refine gc_i (wr := [(r1, .inr (1, [.ref a1, .int sz1])), (a1, .inl (G.2.1 0, N1, .inl f1))]) (gc_V (wc := [(r, .inr (1, [.ref a, .int sz])), (a, .inl (G.2.1 0, N, .inl f))]) (As := [.int y_2]) (rest := []) ⟨hx, hb, hml, hown, hw⟩ (c_Row_get l G r a N sz f y_2 hN hok H.size) (cwV 1 hw (good_V m_173 m_144 m_145 m_2 m_146) rfl rfl rfl hy_Row_get ⟨Nat.le_of_ble_eq_true rfl, Nat.le_of_ble_eq_true rfl⟩) hE hP hD hS hA (va_recv hE.1 hP (ci := 1) (q0 := 0) rfl rfl) [0, 1] rfl (by decide) rfl hl rfl (Nat.le_of_ble_eq_true rfl) d_Row_hasAt_15 ⟨Nat.le_of_ble_eq_true rfl, Nat.le_of_ble_eq_true rfl⟩) hP hD hS hA [0, 1] [2, 3] rfl rfl (by decide) (by decide) (fun r_3 u_4 H locs hw_5 hP hD hS => ?_)
        have hP : va_P G.1 vwCl [(r1, .inr (1, [.ref a1, .int sz1])), (a1, .inl (G.2.1 0, N1, .inl f1)), (r, .inr (1, [.ref a, .int sz])), (a, .inl (G.2.1 0, N, .inl f))] H := hP
        have hD : va_D A [(r1, .inr (1, [.ref a1, .int sz1])), (a1, .inl (G.2.1 0, N1, .inl f1)), (r, .inr (1, [.ref a, .int sz])), (a, .inl (G.2.1 0, N, .inl f))] := hD
        refine lv_aload_n hx hb d_Row_hasAt_18 rfl (lv_at hl 3 rfl) ?_
        refine lv_iload_n hx hb d_Row_hasAt_19 rfl (lv_at hl 4 rfl) ?_
        refine lv_iload hx hb d_Row_hasAt_20 (lv_at hl 0 rfl) ?_
        refine lv_iadd hx hb d_Row_hasAt_22 ?_
        refine lv_topi (fun y_6 ey_6 => ?_)
        refine gc_i (wr := [(r, .inr (1, [.ref a, .int sz])), (a, .inl (G.2.1 0, N, .inl f))]) (gc_V (wc := [(r1, .inr (1, [.ref a1, .int sz1])), (a1, .inl (G.2.1 0, N1, .inl f1))]) (As := [.int y_6]) (rest := [.int r_3]) ⟨hx, hb, hml, hown, hw⟩ (c_Row_get l G r1 a1 N1 sz1 f1 y_6 hN1 hok1 H.size) (cwV 1 hw (good_V m_173 m_144 m_145 m_2 m_146) rfl rfl rfl hy_Row_get ⟨Nat.le_of_ble_eq_true rfl, Nat.le_of_ble_eq_true rfl⟩) hE hP hD hS hA (va_recv hE.1 hP (ci := 1) (q0 := 0) rfl rfl) [0, 1] rfl (by decide) rfl hl rfl (Nat.le_of_ble_eq_true rfl) d_Row_hasAt_23 ⟨Nat.le_of_ble_eq_true rfl, Nat.le_of_ble_eq_true rfl⟩) hP hD hS hA [0, 1] [2, 3] rfl rfl (by decide) (by decide) (fun r_7 u_8 H locs hw_9 hP hD hS => ?_)
        have hP : va_P G.1 vwCl [(r, .inr (1, [.ref a, .int sz])), (a, .inl (G.2.1 0, N, .inl f)), (r1, .inr (1, [.ref a1, .int sz1])), (a1, .inl (G.2.1 0, N1, .inl f1))] H := hP
        have hD : va_D A [(r, .inr (1, [.ref a, .int sz])), (a, .inl (G.2.1 0, N, .inl f)), (r1, .inr (1, [.ref a1, .int sz1])), (a1, .inl (G.2.1 0, N1, .inl f1))] := hD
        refine lv_icmp_eq (tgt := 31) hx hb d_Row_hasAt_26 (by decide) (fun c_10 => ?_) (fun c_10 => ?_)
        · obtain ⟨y_11, ey_11⟩ : ∃ y : Int32, y = x5_3 + 1 := ⟨_, rfl⟩
          refine lv_iinc (v := y_11) (lv' := [(5, .int y_11), (0, .ref r), (1, .int i), (2, .ref r1), (3, .int j), (4, .int n)]) hx hb d_Row_hasAt_31 hl (k := 0) rfl (by rw [ey_11]; rfl) (by decide) rfl (fun ls hl => ?_)
          refine lv_goto (tgt := 3) hx hb d_Row_hasAt_34 (by decide) ?_
          exact ih_3 y_11 (ms_up (by assumption) (by assumption) hm_3) _ _ (hP.sub [0, 1, 2, 3] rfl) (hD.sub [0, 1, 2, 3] (by decide) rfl) hS _ (lv_sub hl [0, 1, 2, 3, 4, 5] rfl)
        · refine lv_iconst (v := 0) hx hb d_Row_hasAt_29 (by decide) ?_
          exact ret 0 () (Nat.le_of_ble_eq_true rfl) (Nat.le_of_ble_eq_true rfl) d_Row_hasAt_30 rfl (by decide) (hP.sub [0, 1, 2, 3] rfl) (hD.sub [0, 1, 2, 3] (by decide) rfl) hS
  refine lv_iconst (v := 0) hx hb d_Row_hasAt_0 (by decide) ?_
  refine lv_istore (lv' := [(5, .int 0), (0, .ref r), (1, .int i), (2, .ref r1), (3, .int j), (4, .int n)]) hx hb d_Row_hasAt_1 hl (by decide) rfl (fun ls hl => ?_)
  exact J_3 _ 0 (Nat.lt_succ_self _) _ _ (hP.sub [0, 1, 2, 3] rfl) (hD.sub [0, 1, 2, 3] (by decide) rfl) hS _ (lv_sub hl [0, 1, 2, 3, 4, 5] rfl)
def rm_Row_addWord : Room := { frames := 4, cells := 0, slots := 0, locals := 85 }
set_option maxHeartbeats 4000000 in
set_option maxRecDepth 100000 in
/-- addWord(text k) -/
theorem c_Row_addWord (l : Launch) (G : GG) (r : Nat) (a : Nat) (N : Nat) (sz : Int32) (f : Nat → Int32) (k : Nat) (hN : N ≤ 2000) (hok : RowOk N sz) (hk : k < nS) : MV l y_Row_addWord b_Row_addWord 3 rm_Row_addWord G [.ref r, .ref (G.2.2.1 k)] [(r, .inr (1, [.ref a, .int sz])), (a, .inl (G.2.1 0, N, .inl f))] (fun (u : Int32 × (Nat → Int32)) => (RowOk N u.1)) (fun (u : Int32 × (Nat → Int32)) => [(r, .inr (1, [.ref a, .int u.1])), (a, .inl (G.2.1 0, N, .inl u.2))]) 0 0 := by
  refine MV.of (cc := b_Row_addWord) (maxL := 3) (C := R_Row) (by decide +kernel) rfl (Nat.le_of_ble_eq_true rfl) ?_
  intro p e s m args below meth c A Q H ls hx hb hml hown hw hE hA hP hD hS hin ret hl
  have hl : lv_has ls 3 [(0, .ref r), (1, .ref (G.2.2.1 k))] := hl
  have J_2 : ∀ (fu : Nat) (x2_2 : Int32) (sz2_2 : Int32) (f2_2 : Nat → Int32) (hj0_2 : RowOk N sz2_2) (hk0_2 : 0 ≤ x2_2.toInt), ((nI (lenS.getD k 0)).toInt - x2_2.toInt).toNat < fu → ∀ (H : Heap) (locs : List Loc), va_P G.1 vwCl [(r, .inr (1, [.ref a, .int sz2_2])), (a, .inl (G.2.1 0, N, .inl f2_2))] H → va_D A [(r, .inr (1, [.ref a, .int sz2_2])), (a, .inl (G.2.1 0, N, .inl f2_2))] → va_S A s.heap H locs → ∀ ls : Array Slot, lv_has ls 3 [(2, .int x2_2), (0, .ref r), (1, .ref (G.2.2.1 k))] → W p l e rm_Row_addWord s m args below meth c H locs 0 0 Q (F0 m 2 ls []) := by
    intro fu
    induction fu with
    | zero =>
      intro x2_2 sz2_2 f2_2 hj0_2 hk0_2 hm
      exact absurd hm (Nat.not_lt_zero _)
    | succ fu ih_2 =>
      intro x2_2 sz2_2 f2_2 hj0_2 hk0_2 hm_2 H locs hP hD hS ls hl
      refine lv_iload_n hx hb d_Row_addWord_2 rfl (lv_at hl 0 rfl) ?_
      refine lv_aload_n hx hb d_Row_addWord_3 rfl (lv_at hl 2 rfl) ?_
      refine gc_i (wr := [(r, .inr (1, [.ref a, .int sz2_2])), (a, .inl (G.2.1 0, N, .inl f2_2))]) (gc_V (wc := []) (As := []) (rest := [.int x2_2]) ⟨hx, hb, hml, hown, hw⟩ (c_Str_length l G k hk H.size) (cwV 0 hw (good_V m_347 m_266 m_267 m_6 m_268) rfl rfl rfl hy_Str_length ⟨Nat.le_of_ble_eq_true rfl, Nat.le_of_ble_eq_true rfl⟩) hE hP hD hS hA (vk_recv (hE.2.1 k hk).1 (i := 0) (by decide) hS) [] rfl (by decide) rfl hl rfl (Nat.le_of_ble_eq_true rfl) d_Row_addWord_4 ⟨Nat.le_of_ble_eq_true rfl, Nat.le_of_ble_eq_true rfl⟩) hP hD hS hA [] [0, 1] rfl rfl (by decide) (by decide) (fun r_1 u_2 H locs hw_3 hP hD hS => ?_)
      try dsimp only at hw_3
      have h_4 := hw_3
      subst h_4
      have hP : va_P G.1 vwCl [(r, .inr (1, [.ref a, .int sz2_2])), (a, .inl (G.2.1 0, N, .inl f2_2))] H := hP
      have hD : va_D A [(r, .inr (1, [.ref a, .int sz2_2])), (a, .inl (G.2.1 0, N, .inl f2_2))] := hD
      refine lv_icmp_ge (tgt := 25) hx hb d_Row_addWord_7 (by decide) (fun c_5 => ?_) (fun c_5 => ?_)
      · exact ret (sz2_2, f2_2) (Nat.le_of_ble_eq_true rfl) (Nat.le_of_ble_eq_true rfl) d_Row_addWord_25 hj0_2 (hP.sub [0, 1] rfl) (hD.sub [0, 1] (by decide) rfl) hS
      · refine lv_aload_n hx hb d_Row_addWord_10 rfl (lv_at hl 1 rfl) ?_
        refine lv_aload_n hx hb d_Row_addWord_11 rfl (lv_at hl 2 rfl) ?_
        refine lv_iload_n hx hb d_Row_addWord_12 rfl (lv_at hl 0 rfl) ?_
        refine gc_i (wr := [(r, .inr (1, [.ref a, .int sz2_2])), (a, .inl (G.2.1 0, N, .inl f2_2))]) (gc_V (wc := []) (As := [.int x2_2]) (rest := [.ref r]) ⟨hx, hb, hml, hown, hw⟩ (c_Str_charAt l G k x2_2 hk (⟨hk0_2, z_nle (by assumption)⟩) H.size) (cwV 1 hw (good_V m_348 m_276 m_277 m_6 m_278) rfl rfl rfl hy_Str_charAt ⟨Nat.le_of_ble_eq_true rfl, Nat.le_of_ble_eq_true rfl⟩) hE hP hD hS hA (vk_recv (hE.2.1 k hk).1 (i := 0) (by decide) hS) [] rfl (by decide) rfl hl rfl (Nat.le_of_ble_eq_true rfl) d_Row_addWord_13 ⟨Nat.le_of_ble_eq_true rfl, Nat.le_of_ble_eq_true rfl⟩) hP hD hS hA [] [0, 1] rfl rfl (by decide) (by decide) (fun r_6 u_7 H locs hw_8 hP hD hS => ?_)
        have hP : va_P G.1 vwCl [(r, .inr (1, [.ref a, .int sz2_2])), (a, .inl (G.2.1 0, N, .inl f2_2))] H := hP
        have hD : va_D A [(r, .inr (1, [.ref a, .int sz2_2])), (a, .inl (G.2.1 0, N, .inl f2_2))] := hD
        refine gc_v (wr := []) (gc_V (wc := [(r, .inr (1, [.ref a, .int sz2_2])), (a, .inl (G.2.1 0, N, .inl f2_2))]) (As := [.int r_6]) (rest := []) ⟨hx, hb, hml, hown, hw⟩ (c_Row_add l G r a N sz2_2 f2_2 r_6 hN hj0_2 H.size) (cwV 1 hw (good_V m_93 m_94 m_95 m_2 m_96) rfl rfl rfl hy_Row_add ⟨Nat.le_of_ble_eq_true rfl, Nat.le_of_ble_eq_true rfl⟩) hE hP hD hS hA (va_recv hE.1 hP (ci := 1) (q0 := 0) rfl rfl) [0, 1] rfl (by decide) rfl hl rfl (Nat.le_of_ble_eq_true rfl) d_Row_addWord_16 ⟨Nat.le_of_ble_eq_true rfl, Nat.le_of_ble_eq_true rfl⟩) hP hD hS hA [0, 1] [] rfl rfl (by decide) (by decide) (fun u_10 H locs hw_11 hP hD hS => ?_)
        obtain ⟨sz2_12, f2_13⟩ := u_10
        try dsimp only at hw_11
        obtain ⟨h_14, h_15⟩ := hw_11
        have hP : va_P G.1 vwCl [(r, .inr (1, [.ref a, .int sz2_12])), (a, .inl (G.2.1 0, N, .inl f2_13))] H := hP
        have hD : va_D A [(r, .inr (1, [.ref a, .int sz2_12])), (a, .inl (G.2.1 0, N, .inl f2_13))] := hD
        obtain ⟨y_16, ey_16⟩ : ∃ y : Int32, y = x2_2 + 1 := ⟨_, rfl⟩
        refine lv_iinc (v := y_16) (lv' := [(2, .int y_16), (0, .ref r), (1, .ref (G.2.2.1 k))]) hx hb d_Row_addWord_19 hl (k := 0) rfl (by rw [ey_16]; rfl) (by decide) rfl (fun ls hl => ?_)
        refine lv_goto (tgt := 2) hx hb d_Row_addWord_22 (by decide) ?_
        exact ih_2 y_16 sz2_12 f2_13 h_14 (by exact up_0 hk0_2 (by assumption) (by assumption)) (ms_up (by assumption) (by assumption) hm_2) _ _ (hP.sub [0, 1] rfl) (hD.sub [0, 1] (by decide) rfl) hS _ (lv_sub hl [0, 1, 2] rfl)
  refine lv_iconst (v := 0) hx hb d_Row_addWord_0 (by decide) ?_
  refine lv_istore_n (lv' := [(2, .int 0), (0, .ref r), (1, .ref (G.2.2.1 k))]) hx hb d_Row_addWord_1 rfl hl (by decide) rfl (fun ls hl => ?_)
  exact J_2 _ 0 sz f hok (by decide) (Nat.lt_succ_self _) _ _ (hP.sub [0, 1] rfl) (hD.sub [0, 1] (by decide) rfl) hS _ (lv_sub hl [0, 1, 2] rfl)
