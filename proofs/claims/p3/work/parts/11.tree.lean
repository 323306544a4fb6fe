def rm_Tree_init : Room := { frames := 2, cells := 6, slots := 5002, locals := 33 }
set_option maxHeartbeats 4000000 in
set_option maxRecDepth 100000 in
/-- Tree() -/
theorem c_Tree_init (l : Launch) (G : GG) (t : Nat) : MV l y_Tree_init b_Tree_init 1 rm_Tree_init G [.ref t] [(t, .inr (2, [.null, .null, .null, .null, .null, .int 0]))] (fun (u : Nat × Nat × Nat × Nat × Nat × Nat) => True) (fun (u : Nat × Nat × Nat × Nat × Nat × Nat) => [(t, .inr (2, [.ref u.1, .ref u.2.1, .ref u.2.2.1, .ref u.2.2.2.1, .ref u.2.2.2.2.1, .int 0])), (u.1, .inl (G.2.1 0, 1000, .inl (fun _ => 0))), (u.2.1, .inl (G.2.1 1, 1000, .inl (fun _ => 0))), (u.2.2.1, .inl (G.2.1 1, 1000, .inl (fun _ => 0))), (u.2.2.2.1, .inl (G.2.1 1, 1000, .inl (fun _ => 0))), (u.2.2.2.2.1, .inr (1, [.ref u.2.2.2.2.2, .int 0])), (u.2.2.2.2.2, .inl (G.2.1 0, 1000, .inl (fun _ => 0)))]) 6 5002 := by
  refine MV.of (cc := b_Tree_init) (maxL := 1) (C := R_Tree) (by decide +kernel) rfl (Nat.le_of_ble_eq_true rfl) ?_
  intro p e s m args below meth c A Q H ls hx hb hml hown hw hE hA hP hD hS hin ret hl
  have hl : lv_has ls 1 [(0, .ref t)] := hl
  refine lv_aload_n hx hb d_Tree_init_0 rfl (lv_at hl 0 rfl) ?_
  refine W.objInit hx hb hown (hw _ m_42) (hw _ m_21) (hw _ m_oi) rfl (by rw [hml]; exact hl.1) rfl d_Tree_init_1 (Nat.le_of_ble_eq_true rfl) (Nat.le_of_ble_eq_true rfl) ?_
  refine W.eq (g2 := F0 m 4 ls []) rfl ?_
  refine lv_aload_n hx hb d_Tree_init_4 rfl (lv_at hl 0 rfl) ?_
  refine lv_sipush (v := 1000) hx hb d_Tree_init_5 (by decide) ?_
  refine gc_newa (atype := .byte) (ty := .byte) (N' := 1000) (a0 := (1000, .inl (fun _ => 0))) hx hb (hw _ m_36) rfl hE hP hD hS hA 0 rfl (fun _ h => h) (fun _ => rfl) (by decide) (by decide) (by decide) (Nat.le_of_ble_eq_true rfl) (Nat.le_of_ble_eq_true rfl) d_Tree_init_8 (fun q_1 H hP hD hS => ?_)
  have hP : va_P G.1 vwCl [(t, .inr (2, [.null, .null, .null, .null, .null, .int 0])), (q_1, .inl (G.2.1 0, 1000, .inl (fun _ => 0)))] H := hP
  have hD : va_D A [(t, .inr (2, [.null, .null, .null, .null, .null, .int 0])), (q_1, .inl (G.2.1 0, 1000, .inl (fun _ => 0)))] := hD
  refine W.widen (k := 1) (n := 1000) (Nat.le_of_ble_eq_true rfl) (Nat.le_of_ble_eq_true rfl) ?_
  refine va_putF (D := G.1) (ci := 2) (v := .ref q_1) (ty := (.array .byte)) (C := R_Tree) (T := F_Tree) (N := 6) hx hb hw i_Tree t_Tree t_Tree_ok n_Tree hown hE.1 hP hD hS 0 rfl rfl 0 (by decide) (hw _ m_45) (fun _ h9 => h9) rfl hin rfl (by decide +kernel) rfl rfl (Nat.le_of_ble_eq_true rfl) d_Tree_init_10 (fun H locs hP hD hS => ?_)
  have hP : va_P G.1 vwCl [(t, .inr (2, [.ref q_1, .null, .null, .null, .null, .int 0])), (q_1, .inl (G.2.1 0, 1000, .inl (fun _ => 0)))] H := hP
  have hD : va_D A [(t, .inr (2, [.ref q_1, .null, .null, .null, .null, .int 0])), (q_1, .inl (G.2.1 0, 1000, .inl (fun _ => 0)))] := hD
  refine lv_aload_n hx hb d_Tree_init_13 rfl (lv_at hl 0 rfl) ?_
  refine lv_sipush (v := 1000) hx hb d_Tree_init_14 (by decide) ?_
  refine gc_newa (atype := .int) (ty := .int) (N' := 1000) (a0 := (1000, .inl (fun _ => 0))) hx hb (hw _ m_64) rfl hE hP hD hS hA 1 rfl (fun _ h => h) (fun _ => rfl) (by decide) (by decide) (by decide) (Nat.le_of_ble_eq_true rfl) (Nat.le_of_ble_eq_true rfl) d_Tree_init_17 (fun q_2 H hP hD hS => ?_)
  have hP : va_P G.1 vwCl [(t, .inr (2, [.ref q_1, .null, .null, .null, .null, .int 0])), (q_1, .inl (G.2.1 0, 1000, .inl (fun _ => 0))), (q_2, .inl (G.2.1 1, 1000, .inl (fun _ => 0)))] H := hP
  have hD : va_D A [(t, .inr (2, [.ref q_1, .null, .null, .null, .null, .int 0])), (q_1, .inl (G.2.1 0, 1000, .inl (fun _ => 0))), (q_2, .inl (G.2.1 1, 1000, .inl (fun _ => 0)))] := hD
  refine W.widen (k := 2) (n := 2000) (Nat.le_of_ble_eq_true rfl) (Nat.le_of_ble_eq_true rfl) ?_
  refine va_putF (D := G.1) (ci := 2) (v := .ref q_2) (ty := (.array .int)) (C := R_Tree) (T := F_Tree) (N := 6) hx hb hw i_Tree t_Tree t_Tree_ok n_Tree hown hE.1 hP hD hS 0 rfl rfl 1 (by decide) (hw _ m_46) (fun _ h9 => h9) rfl hin rfl (by decide +kernel) rfl rfl (Nat.le_of_ble_eq_true rfl) d_Tree_init_19 (fun H locs hP hD hS => ?_)
  have hP : va_P G.1 vwCl [(t, .inr (2, [.ref q_1, .ref q_2, .null, .null, .null, .int 0])), (q_1, .inl (G.2.1 0, 1000, .inl (fun _ => 0))), (q_2, .inl (G.2.1 1, 1000, .inl (fun _ => 0)))] H := hP
  have hD : va_D A [(t, .inr (2, [.ref q_1, .ref q_2, .null, .null, .null, .int 0])), (q_1, .inl (G.2.1 0, 1000, .inl (fun _ => 0))), (q_2, .inl (G.2.1 1, 1000, .inl (fun _ => 0)))] := hD
  refine lv_aload_n hx hb d_Tree_init_22 rfl (lv_at hl 0 rfl) ?_
  refine lv_sipush (v := 1000) hx hb d_Tree_init_23 (by decide) ?_
  refine gc_newa (atype := .int) (ty := .int) (N' := 1000) (a0 := (1000, .inl (fun _ => 0))) hx hb (hw _ m_64) rfl hE hP hD hS hA 1 rfl (fun _ h => h) (fun _ => rfl) (by decide) (by decide) (by decide) (Nat.le_of_ble_eq_true rfl) (Nat.le_of_ble_eq_true rfl) d_Tree_init_26 (fun q_3 H hP hD hS => ?_)
  have hP : va_P G.1 vwCl [(t, .inr (2, [.ref q_1, .ref q_2, .null, .null, .null, .int 0])), (q_1, .inl (G.2.1 0, 1000, .inl (fun _ => 0))), (q_2, .inl (G.2.1 1, 1000, .inl (fun _ => 0))), (q_3, .inl (G.2.1 1, 1000, .inl (fun _ => 0)))] H := hP
  have hD : va_D A [(t, .inr (2, [.ref q_1, .ref q_2, .null, .null, .null, .int 0])), (q_1, .inl (G.2.1 0, 1000, .inl (fun _ => 0))), (q_2, .inl (G.2.1 1, 1000, .inl (fun _ => 0))), (q_3, .inl (G.2.1 1, 1000, .inl (fun _ => 0)))] := hD
  refine W.widen (k := 3) (n := 3000) (Nat.le_of_ble_eq_true rfl) (Nat.le_of_ble_eq_true rfl) ?_
  refine va_putF (D := G.1) (ci := 2) (v := .ref q_3) (ty := (.array .int)) (C := R_Tree) (T := F_Tree) (N := 6) hx hb hw i_Tree t_Tree t_Tree_ok n_Tree hown hE.1 hP hD hS 0 rfl rfl 2 (by decide) (hw _ m_47) (fun _ h9 => h9) rfl hin rfl (by decide +kernel) rfl rfl (Nat.le_of_ble_eq_true rfl) d_Tree_init_28 (fun H locs hP hD hS => ?_)
  have hP : va_P G.1 vwCl [(t, .inr (2, [.ref q_1, .ref q_2, .ref q_3, .null, .null, .int 0])), (q_1, .inl (G.2.1 0, 1000, .inl (fun _ => 0))), (q_2, .inl (G.2.1 1, 1000, .inl (fun _ => 0))), (q_3, .inl (G.2.1 1, 1000, .inl (fun _ => 0)))] H := hP
  have hD : va_D A [(t, .inr (2, [.ref q_1, .ref q_2, .ref q_3, .null, .null, .int 0])), (q_1, .inl (G.2.1 0, 1000, .inl (fun _ => 0))), (q_2, .inl (G.2.1 1, 1000, .inl (fun _ => 0))), (q_3, .inl (G.2.1 1, 1000, .inl (fun _ => 0)))] := hD
  refine lv_aload_n hx hb d_Tree_init_31 rfl (lv_at hl 0 rfl) ?_
  refine lv_sipush (v := 1000) hx hb d_Tree_init_32 (by decide) ?_
  refine gc_newa (atype := .int) (ty := .int) (N' := 1000) (a0 := (1000, .inl (fun _ => 0))) hx hb (hw _ m_64) rfl hE hP hD hS hA 1 rfl (fun _ h => h) (fun _ => rfl) (by decide) (by decide) (by decide) (Nat.le_of_ble_eq_true rfl) (Nat.le_of_ble_eq_true rfl) d_Tree_init_35 (fun q_4 H hP hD hS => ?_)
  have hP : va_P G.1 vwCl [(t, .inr (2, [.ref q_1, .ref q_2, .ref q_3, .null, .null, .int 0])), (q_1, .inl (G.2.1 0, 1000, .inl (fun _ => 0))), (q_2, .inl (G.2.1 1, 1000, .inl (fun _ => 0))), (q_3, .inl (G.2.1 1, 1000, .inl (fun _ => 0))), (q_4, .inl (G.2.1 1, 1000, .inl (fun _ => 0)))] H := hP
  have hD : va_D A [(t, .inr (2, [.ref q_1, .ref q_2, .ref q_3, .null, .null, .int 0])), (q_1, .inl (G.2.1 0, 1000, .inl (fun _ => 0))), (q_2, .inl (G.2.1 1, 1000, .inl (fun _ => 0))), (q_3, .inl (G.2.1 1, 1000, .inl (fun _ => 0))), (q_4, .inl (G.2.1 1, 1000, .inl (fun _ => 0)))] := hD
  refine W.widen (k := 4) (n := 4000) (Nat.le_of_ble_eq_true rfl) (Nat.le_of_ble_eq_true rfl) ?_
  refine va_putF (D := G.1) (ci := 2) (v := .ref q_4) (ty := (.array .int)) (C := R_Tree) (T := F_Tree) (N := 6) hx hb hw i_Tree t_Tree t_Tree_ok n_Tree hown hE.1 hP hD hS 0 rfl rfl 3 (by decide) (hw _ m_48) (fun _ h9 => h9) rfl hin rfl (by decide +kernel) rfl rfl (Nat.le_of_ble_eq_true rfl) d_Tree_init_37 (fun H locs hP hD hS => ?_)
  have hP : va_P G.1 vwCl [(t, .inr (2, [.ref q_1, .ref q_2, .ref q_3, .ref q_4, .null, .int 0])), (q_1, .inl (G.2.1 0, 1000, .inl (fun _ => 0))), (q_2, .inl (G.2.1 1, 1000, .inl (fun _ => 0))), (q_3, .inl (G.2.1 1, 1000, .inl (fun _ => 0))), (q_4, .inl (G.2.1 1, 1000, .inl (fun _ => 0)))] H := hP
  have hD : va_D A [(t, .inr (2, [.ref q_1, .ref q_2, .ref q_3, .ref q_4, .null, .int 0])), (q_1, .inl (G.2.1 0, 1000, .inl (fun _ => 0))), (q_2, .inl (G.2.1 1, 1000, .inl (fun _ => 0))), (q_3, .inl (G.2.1 1, 1000, .inl (fun _ => 0))), (q_4, .inl (G.2.1 1, 1000, .inl (fun _ => 0)))] := hD
  refine lv_aload_n hx hb d_Tree_init_40 rfl (lv_at hl 0 rfl) ?_
  refine va_new (ci := 1) (fs := [.null, .int 0]) (C := R_Row) (T := F_Row) (N := 2) hx hb hw i_Row t_Row t_Row_ok hown (hw _ m_43) (hw _ m_24) (hw _ m_2) hE.1 hP hD hS hA rfl (fun j hj => by rcases (show j = 0 ∨ j = 1 by omega) with rfl | rfl <;> rfl) (Nat.le_of_ble_eq_true rfl) (Nat.le_of_ble_eq_true rfl) d_Tree_init_41 (fun q_5 H hP hD hS => ?_)
  have hP : va_P G.1 vwCl [(t, .inr (2, [.ref q_1, .ref q_2, .ref q_3, .ref q_4, .null, .int 0])), (q_1, .inl (G.2.1 0, 1000, .inl (fun _ => 0))), (q_2, .inl (G.2.1 1, 1000, .inl (fun _ => 0))), (q_3, .inl (G.2.1 1, 1000, .inl (fun _ => 0))), (q_4, .inl (G.2.1 1, 1000, .inl (fun _ => 0))), (q_5, .inr (1, [.null, .int 0]))] H := hP
  have hD : va_D A [(t, .inr (2, [.ref q_1, .ref q_2, .ref q_3, .ref q_4, .null, .int 0])), (q_1, .inl (G.2.1 0, 1000, .inl (fun _ => 0))), (q_2, .inl (G.2.1 1, 1000, .inl (fun _ => 0))), (q_3, .inl (G.2.1 1, 1000, .inl (fun _ => 0))), (q_4, .inl (G.2.1 1, 1000, .inl (fun _ => 0))), (q_5, .inr (1, [.null, .int 0]))] := hD
  refine W.widen (k := 5) (n := 4002) (Nat.le_of_ble_eq_true rfl) (Nat.le_of_ble_eq_true rfl) ?_
  refine lv_dup hx hb d_Tree_init_44 rfl ?_
  refine lv_sipush (v := 1000) hx hb d_Tree_init_45 (by decide) ?_
  refine gc_v (wr := [(t, .inr (2, [.ref q_1, .ref q_2, .ref q_3, .ref q_4, .null, .int 0])), (q_1, .inl (G.2.1 0, 1000, .inl (fun _ => 0))), (q_2, .inl (G.2.1 1, 1000, .inl (fun _ => 0))), (q_3, .inl (G.2.1 1, 1000, .inl (fun _ => 0))), (q_4, .inl (G.2.1 1, 1000, .inl (fun _ => 0)))]) (gc_I (wc := [(q_5, .inr (1, [.null, .int 0]))]) (As := [.int 1000]) (rest := [.ref q_5, .ref t]) ⟨hx, hb, hml, hown, hw⟩ (c_Row_init_1000 l G q_5 H.size) (cwI 1 hw (good_U m_27) rfl rfl rfl (hw _ m_2) (hw _ m_44) (hw _ m_26) rfl hy_Row_init.2 ⟨Nat.le_of_ble_eq_true rfl, Nat.le_of_ble_eq_true rfl⟩) hE hP hD hS hA [5] rfl (by decide) rfl hl rfl (Nat.le_of_ble_eq_true rfl) d_Tree_init_48 ⟨Nat.le_of_ble_eq_true rfl, Nat.le_of_ble_eq_true rfl⟩) hP hD hS hA [5] [0, 1, 2, 3, 4] rfl rfl (by decide) (by decide) (fun u_7 H locs hw_8 hP hD hS => ?_)
  obtain ⟨a_9, rfl⟩ : ∃ z, z = u_7 := ⟨_, rfl⟩
  have hP : va_P G.1 vwCl [(t, .inr (2, [.ref q_1, .ref q_2, .ref q_3, .ref q_4, .null, .int 0])), (q_1, .inl (G.2.1 0, 1000, .inl (fun _ => 0))), (q_2, .inl (G.2.1 1, 1000, .inl (fun _ => 0))), (q_3, .inl (G.2.1 1, 1000, .inl (fun _ => 0))), (q_4, .inl (G.2.1 1, 1000, .inl (fun _ => 0))), (q_5, .inr (1, [.ref a_9, .int 0])), (a_9, .inl (G.2.1 0, 1000, .inl (fun _ => 0)))] H := hP
  have hD : va_D A [(t, .inr (2, [.ref q_1, .ref q_2, .ref q_3, .ref q_4, .null, .int 0])), (q_1, .inl (G.2.1 0, 1000, .inl (fun _ => 0))), (q_2, .inl (G.2.1 1, 1000, .inl (fun _ => 0))), (q_3, .inl (G.2.1 1, 1000, .inl (fun _ => 0))), (q_4, .inl (G.2.1 1, 1000, .inl (fun _ => 0))), (q_5, .inr (1, [.ref a_9, .int 0])), (a_9, .inl (G.2.1 0, 1000, .inl (fun _ => 0)))] := hD
  refine W.widen (k := 6) (n := 5002) (Nat.le_of_ble_eq_true rfl) (Nat.le_of_ble_eq_true rfl) ?_
  refine va_putF (D := G.1) (ci := 2) (v := .ref q_5) (ty := (.object "ValueTexts$Row")) (C := R_Tree) (T := F_Tree) (N := 6) hx hb hw i_Tree t_Tree t_Tree_ok n_Tree hown hE.1 hP hD hS 0 rfl rfl 4 (by decide) (hw _ m_49) (fun _ h9 => h9) rfl hin rfl (by decide +kernel) rfl rfl (Nat.le_of_ble_eq_true rfl) d_Tree_init_51 (fun H locs hP hD hS => ?_)
  have hP : va_P G.1 vwCl [(t, .inr (2, [.ref q_1, .ref q_2, .ref q_3, .ref q_4, .ref q_5, .int 0])), (q_1, .inl (G.2.1 0, 1000, .inl (fun _ => 0))), (q_2, .inl (G.2.1 1, 1000, .inl (fun _ => 0))), (q_3, .inl (G.2.1 1, 1000, .inl (fun _ => 0))), (q_4, .inl (G.2.1 1, 1000, .inl (fun _ => 0))), (q_5, .inr (1, [.ref a_9, .int 0])), (a_9, .inl (G.2.1 0, 1000, .inl (fun _ => 0)))] H := hP
  have hD : va_D A [(t, .inr (2, [.ref q_1, .ref q_2, .ref q_3, .ref q_4, .ref q_5, .int 0])), (q_1, .inl (G.2.1 0, 1000, .inl (fun _ => 0))), (q_2, .inl (G.2.1 1, 1000, .inl (fun _ => 0))), (q_3, .inl (G.2.1 1, 1000, .inl (fun _ => 0))), (q_4, .inl (G.2.1 1, 1000, .inl (fun _ => 0))), (q_5, .inr (1, [.ref a_9, .int 0])), (a_9, .inl (G.2.1 0, 1000, .inl (fun _ => 0)))] := hD
  refine lv_aload_n hx hb d_Tree_init_54 rfl (lv_at hl 0 rfl) ?_
  refine lv_iconst (v := 0) hx hb d_Tree_init_55 (by decide) ?_
  refine va_put (D := G.1) (ci := 2) (v := .int 0) (ty := .int) (C := R_Tree) (T := F_Tree) (N := 6) hx hb hw i_Tree t_Tree t_Tree_ok n_Tree hown hE.1 hP hD hS 0 rfl rfl 5 (by decide) (hw _ m_50) (fun _ h9 => h9) rfl (by decide +kernel) rfl rfl (Nat.le_of_ble_eq_true rfl) d_Tree_init_56 (fun H locs hP hD hS => ?_)
  have hP : va_P G.1 vwCl [(t, .inr (2, [.ref q_1, .ref q_2, .ref q_3, .ref q_4, .ref q_5, .int 0])), (q_1, .inl (G.2.1 0, 1000, .inl (fun _ => 0))), (q_2, .inl (G.2.1 1, 1000, .inl (fun _ => 0))), (q_3, .inl (G.2.1 1, 1000, .inl (fun _ => 0))), (q_4, .inl (G.2.1 1, 1000, .inl (fun _ => 0))), (q_5, .inr (1, [.ref a_9, .int 0])), (a_9, .inl (G.2.1 0, 1000, .inl (fun _ => 0)))] H := hP
  have hD : va_D A [(t, .inr (2, [.ref q_1, .ref q_2, .ref q_3, .ref q_4, .ref q_5, .int 0])), (q_1, .inl (G.2.1 0, 1000, .inl (fun _ => 0))), (q_2, .inl (G.2.1 1, 1000, .inl (fun _ => 0))), (q_3, .inl (G.2.1 1, 1000, .inl (fun _ => 0))), (q_4, .inl (G.2.1 1, 1000, .inl (fun _ => 0))), (q_5, .inr (1, [.ref a_9, .int 0])), (a_9, .inl (G.2.1 0, 1000, .inl (fun _ => 0)))] := hD
  exact ret (q_1, q_2, q_3, q_4, q_5, a_9) (Nat.le_of_ble_eq_true rfl) (Nat.le_of_ble_eq_true rfl) d_Tree_init_59 trivial (hP.sub [0, 1, 2, 3, 4, 5, 6] rfl) (hD.sub [0, 1, 2, 3, 4, 5, 6] (by decide) rfl) hS
def rm_Tree_clear : Room := { frames := 1, cells := 0, slots := 0, locals := 21 }
set_option maxHeartbeats 4000000 in
set_option maxRecDepth 100000 in
/-- clear() -/
theorem c_Tree_clear (l : Launch) (G : GG) (t : Nat) (ka : Nat) (na : Nat) (ga : Nat) (sa : Nat) (xr : Nat) (xa : Nat) (kf : Nat → Int32) (nf : Nat → Int32) (gf : Nat → Int32) (sf : Nat → Int32) (size : Int32) (xsz : Int32) (xf : Nat → Int32) (hs : RowOk 1000 size) (hxs : RowOk 1000 xsz) : MV l y_Tree_clear b_Tree_clear 1 rm_Tree_clear G [.ref t] [(t, .inr (2, [.ref ka, .ref na, .ref ga, .ref sa, .ref xr, .int size])), (ka, .inl (G.2.1 0, 1000, .inl kf)), (na, .inl (G.2.1 1, 1000, .inl nf)), (ga, .inl (G.2.1 1, 1000, .inl gf)), (sa, .inl (G.2.1 1, 1000, .inl sf)), (xr, .inr (1, [.ref xa, .int xsz])), (xa, .inl (G.2.1 0, 1000, .inl xf))] (fun (u : Int32) => (RowOk 1000 u)) (fun (u : Int32) => [(t, .inr (2, [.ref ka, .ref na, .ref ga, .ref sa, .ref xr, .int 0])), (ka, .inl (G.2.1 0, 1000, .inl kf)), (na, .inl (G.2.1 1, 1000, .inl nf)), (ga, .inl (G.2.1 1, 1000, .inl gf)), (sa, .inl (G.2.1 1, 1000, .inl sf)), (xr, .inr (1, [.ref xa, .int u])), (xa, .inl (G.2.1 0, 1000, .inl xf))]) 0 0 := by
  refine MV.of (cc := b_Tree_clear) (maxL := 1) (C := R_Tree) (by decide +kernel) rfl (Nat.le_of_ble_eq_true rfl) ?_
  intro p e s m args below meth c A Q H ls hx hb hml hown hw hE hA hP hD hS hin ret hl
  have hl : lv_has ls 1 [(0, .ref t)] := hl
  refine lv_aload_n hx hb d_Tree_clear_0 rfl (lv_at hl 0 rfl) ?_
  refine lv_iconst (v := 0) hx hb d_Tree_clear_1 (by decide) ?_
  refine va_put (D := G.1) (ci := 2) (v := .int 0) (ty := .int) (C := R_Tree) (T := F_Tree) (N := 6) hx hb hw i_Tree t_Tree t_Tree_ok n_Tree hown hE.1 hP hD hS 0 rfl rfl 5 (by decide) (hw _ m_50) (fun _ h9 => h9) rfl (by decide +kernel) rfl rfl (Nat.le_of_ble_eq_true rfl) d_Tree_clear_2 (fun H locs hP hD hS => ?_)
  have hP : va_P G.1 vwCl [(t, .inr (2, [.ref ka, .ref na, .ref ga, .ref sa, .ref xr, .int 0])), (ka, .inl (G.2.1 0, 1000, .inl kf)), (na, .inl (G.2.1 1, 1000, .inl nf)), (ga, .inl (G.2.1 1, 1000, .inl gf)), (sa, .inl (G.2.1 1, 1000, .inl sf)), (xr, .inr (1, [.ref xa, .int xsz])), (xa, .inl (G.2.1 0, 1000, .inl xf))] H := hP
  have hD : va_D A [(t, .inr (2, [.ref ka, .ref na, .ref ga, .ref sa, .ref xr, .int 0])), (ka, .inl (G.2.1 0, 1000, .inl kf)), (na, .inl (G.2.1 1, 1000, .inl nf)), (ga, .inl (G.2.1 1, 1000, .inl gf)), (sa, .inl (G.2.1 1, 1000, .inl sf)), (xr, .inr (1, [.ref xa, .int xsz])), (xa, .inl (G.2.1 0, 1000, .inl xf))] := hD
  refine lv_aload_n hx hb d_Tree_clear_5 rfl (lv_at hl 0 rfl) ?_
  refine va_get (D := G.1) (ci := 2) (v := .ref xr) (C := R_Tree) (T := F_Tree) (N := 6) hx hb hw i_Tree hown hE.1 hP 0 rfl rfl 4 (by decide) (hw _ m_49) (fun _ h9 => h9) rfl d_Tree_clear_6 ?_
  refine lv_iconst (v := 0) hx hb d_Tree_clear_9 (by decide) ?_
  refine gc_v (wr := [(t, .inr (2, [.ref ka, .ref na, .ref ga, .ref sa, .ref xr, .int 0])), (ka, .inl (G.2.1 0, 1000, .inl kf)), (na, .inl (G.2.1 1, 1000, .inl nf)), (ga, .inl (G.2.1 1, 1000, .inl gf)), (sa, .inl (G.2.1 1, 1000, .inl sf))]) (gc_V (wc := [(xr, .inr (1, [.ref xa, .int xsz])), (xa, .inl (G.2.1 0, 1000, .inl xf))]) (As := [.int 0]) (rest := []) ⟨hx, hb, hml, hown, hw⟩ (c_Row_cut l G xr xa 1000 xsz xf 0 (by decide) hxs H.size) (cwV 1 hw (good_V m_133 m_102 m_103 m_2 m_104) rfl rfl rfl hy_Row_cut ⟨Nat.le_of_ble_eq_true rfl, Nat.le_of_ble_eq_true rfl⟩) hE hP hD hS hA (va_recv hE.1 hP (ci := 1) (q0 := 5) rfl rfl) [5, 6] rfl (by decide) rfl hl rfl (Nat.le_of_ble_eq_true rfl) d_Tree_clear_10 ⟨Nat.le_of_ble_eq_true rfl, Nat.le_of_ble_eq_true rfl⟩) hP hD hS hA [5, 6] [0, 1, 2, 3, 4] rfl rfl (by decide) (by decide) (fun u_2 H locs hw_3 hP hD hS => ?_)
  obtain ⟨sz2_4, rfl⟩ : ∃ z, z = u_2 := ⟨_, rfl⟩
  try dsimp only at hw_3
  obtain ⟨h_5, h_6⟩ := hw_3
  have hP : va_P G.1 vwCl [(t, .inr (2, [.ref ka, .ref na, .ref ga, .ref sa, .ref xr, .int 0])), (ka, .inl (G.2.1 0, 1000, .inl kf)), (na, .inl (G.2.1 1, 1000, .inl nf)), (ga, .inl (G.2.1 1, 1000, .inl gf)), (sa, .inl (G.2.1 1, 1000, .inl sf)), (xr, .inr (1, [.ref xa, .int sz2_4])), (xa, .inl (G.2.1 0, 1000, .inl xf))] H := hP
  have hD : va_D A [(t, .inr (2, [.ref ka, .ref na, .ref ga, .ref sa, .ref xr, .int 0])), (ka, .inl (G.2.1 0, 1000, .inl kf)), (na, .inl (G.2.1 1, 1000, .inl nf)), (ga, .inl (G.2.1 1, 1000, .inl gf)), (sa, .inl (G.2.1 1, 1000, .inl sf)), (xr, .inr (1, [.ref xa, .int sz2_4])), (xa, .inl (G.2.1 0, 1000, .inl xf))] := hD
  exact ret (sz2_4) (Nat.le_of_ble_eq_true rfl) (Nat.le_of_ble_eq_true rfl) d_Tree_clear_13 h_5 (hP.sub [0, 1, 2, 3, 4, 5, 6] rfl) (hD.sub [0, 1, 2, 3, 4, 5, 6] (by decide) rfl) hS
def rm_Tree_holds : Room := { frames := 0, cells := 0, slots := 0, locals := 0 }
set_option maxHeartbeats 4000000 in
set_option maxRecDepth 100000 in
/-- holds(i) -/
theorem c_Tree_holds (l : Launch) (G : GG) (t : Nat) (ka : Nat) (na : Nat) (ga : Nat) (sa : Nat) (xr : Nat) (xa : Nat) (kf : Nat → Int32) (nf : Nat → Int32) (gf : Nat → Int32) (sf : Nat → Int32) (size : Int32) (xsz : Int32) (xf : Nat → Int32) (i : Int32) (hs : RowOk 1000 size) (hxs : RowOk 1000 xsz) : MI l y_Tree_holds b_Tree_holds 2 .boolean rm_Tree_holds G [.ref t, .int i] [(t, .inr (2, [.ref ka, .ref na, .ref ga, .ref sa, .ref xr, .int size])), (ka, .inl (G.2.1 0, 1000, .inl kf)), (na, .inl (G.2.1 1, 1000, .inl nf)), (ga, .inl (G.2.1 1, 1000, .inl gf)), (sa, .inl (G.2.1 1, 1000, .inl sf)), (xr, .inr (1, [.ref xa, .int xsz])), (xa, .inl (G.2.1 0, 1000, .inl xf))] (fun (v : Int32) (u : Unit) => ((v = 1 ∧ 0 ≤ i.toInt ∧ i.toInt < size.toInt) ∨ (v = 0 ∧ ¬ (0 ≤ i.toInt ∧ i.toInt < size.toInt)))) (fun (u : Unit) => [(t, .inr (2, [.ref ka, .ref na, .ref ga, .ref sa, .ref xr, .int size])), (ka, .inl (G.2.1 0, 1000, .inl kf)), (na, .inl (G.2.1 1, 1000, .inl nf)), (ga, .inl (G.2.1 1, 1000, .inl gf)), (sa, .inl (G.2.1 1, 1000, .inl sf)), (xr, .inr (1, [.ref xa, .int xsz])), (xa, .inl (G.2.1 0, 1000, .inl xf))]) 0 0 := by
  refine MI.of (cc := b_Tree_holds) (maxL := 2) (ty := .boolean) (C := R_Tree) (by decide +kernel) rfl (Nat.le_of_ble_eq_true rfl) ?_
  intro p e s m args below meth c A Q H ls hx hb hml hown hw hE hA hP hD hS ret hl
  have hl : lv_has ls 2 [(0, .ref t), (1, .int i)] := hl
  refine lv_iload_n hx hb d_Tree_holds_0 rfl (lv_at hl 1 rfl) ?_
  refine lv_if_lt (tgt := 16) hx hb d_Tree_holds_1 (by decide) (fun c_1 => ?_) (fun c_1 => ?_)
  · refine lv_iconst (v := 0) hx hb d_Tree_holds_16 (by decide) ?_
    exact ret 0 () (Nat.le_of_ble_eq_true rfl) (Nat.le_of_ble_eq_true rfl) d_Tree_holds_17 rfl (by first | exact Or.inl ⟨rfl, tr_h1 c_1 c_2⟩ | exact Or.inr ⟨rfl, tr_h2 c_1⟩ | exact Or.inr ⟨rfl, tr_h3 c_2⟩) (hP.sub [0, 1, 2, 3, 4, 5, 6] rfl) (hD.sub [0, 1, 2, 3, 4, 5, 6] (by decide) rfl) hS
  · refine lv_iload_n hx hb d_Tree_holds_4 rfl (lv_at hl 1 rfl) ?_
    refine lv_aload_n hx hb d_Tree_holds_5 rfl (lv_at hl 0 rfl) ?_
    refine va_get (D := G.1) (ci := 2) (v := .int size) (C := R_Tree) (T := F_Tree) (N := 6) hx hb hw i_Tree hown hE.1 hP 0 rfl rfl 5 (by decide) (hw _ m_50) (fun _ h9 => h9) rfl d_Tree_holds_6 ?_
    refine lv_icmp_ge (tgt := 16) hx hb d_Tree_holds_9 (by decide) (fun c_2 => ?_) (fun c_2 => ?_)
    · refine lv_iconst (v := 0) hx hb d_Tree_holds_16 (by decide) ?_
      exact ret 0 () (Nat.le_of_ble_eq_true rfl) (Nat.le_of_ble_eq_true rfl) d_Tree_holds_17 rfl (by first | exact Or.inl ⟨rfl, tr_h1 c_1 c_2⟩ | exact Or.inr ⟨rfl, tr_h2 c_1⟩ | exact Or.inr ⟨rfl, tr_h3 c_2⟩) (hP.sub [0, 1, 2, 3, 4, 5, 6] rfl) (hD.sub [0, 1, 2, 3, 4, 5, 6] (by decide) rfl) hS
    · refine lv_iconst (v := 1) hx hb d_Tree_holds_12 (by decide) ?_
      refine lv_goto (tgt := 17) hx hb d_Tree_holds_13 (by decide) ?_
      exact ret 1 () (Nat.le_of_ble_eq_true rfl) (Nat.le_of_ble_eq_true rfl) d_Tree_holds_17 rfl (by first | exact Or.inl ⟨rfl, tr_h1 c_1 c_2⟩ | exact Or.inr ⟨rfl, tr_h2 c_1⟩ | exact Or.inr ⟨rfl, tr_h3 c_2⟩) (hP.sub [0, 1, 2, 3, 4, 5, 6] rfl) (hD.sub [0, 1, 2, 3, 4, 5, 6] (by decide) rfl) hS
def rm_Tree_add : Room := { frames := 0, cells := 0, slots := 0, locals := 0 }
set_option maxHeartbeats 4000000 in
set_option maxRecDepth 100000 in
/-- add(kind, number, other) -/
theorem c_Tree_add (l : Launch) (G : GG) (t : Nat) (ka : Nat) (na : Nat) (ga : Nat) (sa : Nat) (xr : Nat) (xa : Nat) (kf : Nat → Int32) (nf : Nat → Int32) (gf : Nat → Int32) (sf : Nat → Int32) (size : Int32) (xsz : Int32) (xf : Nat → Int32) (k : Int32) (n : Int32) (o : Int32) (hs : RowOk 1000 size) (hxs : RowOk 1000 xsz) : MI l y_Tree_add b_Tree_add 5 .int rm_Tree_add G [.ref t, .int k, .int n, .int o] [(t, .inr (2, [.ref ka, .ref na, .ref ga, .ref sa, .ref xr, .int size])), (ka, .inl (G.2.1 0, 1000, .inl kf)), (na, .inl (G.2.1 1, 1000, .inl nf)), (ga, .inl (G.2.1 1, 1000, .inl gf)), (sa, .inl (G.2.1 1, 1000, .inl sf)), (xr, .inr (1, [.ref xa, .int xsz])), (xa, .inl (G.2.1 0, 1000, .inl xf))] (fun (v : Int32) (u : (Nat → Int32) × (Nat → Int32) × (Nat → Int32) × (Nat → Int32) × Int32) => (RowOk 1000 u.2.2.2.2)) (fun (u : (Nat → Int32) × (Nat → Int32) × (Nat → Int32) × (Nat → Int32) × Int32) => [(t, .inr (2, [.ref ka, .ref na, .ref ga, .ref sa, .ref xr, .int u.2.2.2.2])), (ka, .inl (G.2.1 0, 1000, .inl u.1)), (na, .inl (G.2.1 1, 1000, .inl u.2.1)), (ga, .inl (G.2.1 1, 1000, .inl u.2.2.1)), (sa, .inl (G.2.1 1, 1000, .inl u.2.2.2.1)), (xr, .inr (1, [.ref xa, .int xsz])), (xa, .inl (G.2.1 0, 1000, .inl xf))]) 0 0 := by
  refine MI.of (cc := b_Tree_add) (maxL := 5) (ty := .int) (C := R_Tree) (by decide +kernel) rfl (Nat.le_of_ble_eq_true rfl) ?_
  intro p e s m args below meth c A Q H ls hx hb hml hown hw hE hA hP hD hS ret hl
  have hl : lv_has ls 5 [(0, .ref t), (1, .int k), (2, .int n), (3, .int o)] := hl
  refine lv_aload_n hx hb d_Tree_add_0 rfl (lv_at hl 0 rfl) ?_
  refine va_get (D := G.1) (ci := 2) (v := .int size) (C := R_Tree) (T := F_Tree) (N := 6) hx hb hw i_Tree hown hE.1 hP 0 rfl rfl 5 (by decide) (hw _ m_50) (fun _ h9 => h9) rfl d_Tree_add_1 ?_
  refine lv_istore (lv' := [(4, .int size), (0, .ref t), (1, .int k), (2, .int n), (3, .int o)]) hx hb d_Tree_add_4 hl (by decide) rfl (fun ls hl => ?_)
  refine lv_iload hx hb d_Tree_add_6 (lv_at hl 0 rfl) ?_
  refine lv_sipush (v := 1000) hx hb d_Tree_add_8 (by decide) ?_
  refine lv_icmp_ge (tgt := 57) hx hb d_Tree_add_11 (by decide) (fun c_1 => ?_) (fun c_1 => ?_)
  · refine lv_iload hx hb d_Tree_add_57 (lv_at hl 0 rfl) ?_
    exact ret size (kf, nf, gf, sf, size) (Nat.le_of_ble_eq_true rfl) (Nat.le_of_ble_eq_true rfl) d_Tree_add_59 rfl (by first | exact hs | exact (row_add (N := 1000) (by decide) hs c_1 (by assumption)).1) (hP.sub [0, 1, 2, 3, 4, 5, 6] rfl) (hD.sub [0, 1, 2, 3, 4, 5, 6] (by decide) rfl) hS
  · refine lv_aload_n hx hb d_Tree_add_14 rfl (lv_at hl 1 rfl) ?_
    refine va_get (D := G.1) (ci := 2) (v := .ref ka) (C := R_Tree) (T := F_Tree) (N := 6) hx hb hw i_Tree hown hE.1 hP 0 rfl rfl 0 (by decide) (hw _ m_45) (fun _ h9 => h9) rfl d_Tree_add_15 ?_
    refine lv_iload hx hb d_Tree_add_18 (lv_at hl 0 rfl) ?_
    refine lv_iload_n hx hb d_Tree_add_20 rfl (lv_at hl 2 rfl) ?_
    refine lv_i2b hx hb d_Tree_add_21 rfl ?_
    refine lv_topi (fun y_2 ey_2 => ?_)
    refine va_bast hx hb hE.1 hP hD hS 1 0 rfl rfl (i := size) (row_in (N := 1000) (by decide) hs c_1) d_Tree_add_22 (fun H locs hP hD hS => ?_)
    obtain ⟨f_3, ef_3⟩ : ∃ y : Nat → Int32, y = upd kf size.toNatClampNeg (vp_nar .byte y_2) := ⟨_, rfl⟩
    rw [← ef_3] at hP hD
    have hP : va_P G.1 vwCl [(t, .inr (2, [.ref ka, .ref na, .ref ga, .ref sa, .ref xr, .int size])), (ka, .inl (G.2.1 0, 1000, .inl f_3)), (na, .inl (G.2.1 1, 1000, .inl nf)), (ga, .inl (G.2.1 1, 1000, .inl gf)), (sa, .inl (G.2.1 1, 1000, .inl sf)), (xr, .inr (1, [.ref xa, .int xsz])), (xa, .inl (G.2.1 0, 1000, .inl xf))] H := hP
    have hD : va_D A [(t, .inr (2, [.ref ka, .ref na, .ref ga, .ref sa, .ref xr, .int size])), (ka, .inl (G.2.1 0, 1000, .inl f_3)), (na, .inl (G.2.1 1, 1000, .inl nf)), (ga, .inl (G.2.1 1, 1000, .inl gf)), (sa, .inl (G.2.1 1, 1000, .inl sf)), (xr, .inr (1, [.ref xa, .int xsz])), (xa, .inl (G.2.1 0, 1000, .inl xf))] := hD
    refine lv_aload_n hx hb d_Tree_add_23 rfl (lv_at hl 1 rfl) ?_
    refine va_get (D := G.1) (ci := 2) (v := .ref na) (C := R_Tree) (T := F_Tree) (N := 6) hx hb hw i_Tree hown hE.1 hP 0 rfl rfl 1 (by decide) (hw _ m_46) (fun _ h9 => h9) rfl d_Tree_add_24 ?_
    refine lv_iload hx hb d_Tree_add_27 (lv_at hl 0 rfl) ?_
    refine lv_iload_n hx hb d_Tree_add_29 rfl (lv_at hl 3 rfl) ?_
    refine va_iast hx hb hE.1 hP hD hS 2 1 rfl rfl (i := size) (row_in (N := 1000) (by decide) hs c_1) d_Tree_add_30 (fun H locs hP hD hS => ?_)
    obtain ⟨f_4, ef_4⟩ : ∃ y : Nat → Int32, y = upd nf size.toNatClampNeg (n) := ⟨_, rfl⟩
    rw [← ef_4] at hP hD
    have hP : va_P G.1 vwCl [(t, .inr (2, [.ref ka, .ref na, .ref ga, .ref sa, .ref xr, .int size])), (ka, .inl (G.2.1 0, 1000, .inl f_3)), (na, .inl (G.2.1 1, 1000, .inl f_4)), (ga, .inl (G.2.1 1, 1000, .inl gf)), (sa, .inl (G.2.1 1, 1000, .inl sf)), (xr, .inr (1, [.ref xa, .int xsz])), (xa, .inl (G.2.1 0, 1000, .inl xf))] H := hP
    have hD : va_D A [(t, .inr (2, [.ref ka, .ref na, .ref ga, .ref sa, .ref xr, .int size])), (ka, .inl (G.2.1 0, 1000, .inl f_3)), (na, .inl (G.2.1 1, 1000, .inl f_4)), (ga, .inl (G.2.1 1, 1000, .inl gf)), (sa, .inl (G.2.1 1, 1000, .inl sf)), (xr, .inr (1, [.ref xa, .int xsz])), (xa, .inl (G.2.1 0, 1000, .inl xf))] := hD
    refine lv_aload_n hx hb d_Tree_add_31 rfl (lv_at hl 1 rfl) ?_
    refine va_get (D := G.1) (ci := 2) (v := .ref ga) (C := R_Tree) (T := F_Tree) (N := 6) hx hb hw i_Tree hown hE.1 hP 0 rfl rfl 2 (by decide) (hw _ m_47) (fun _ h9 => h9) rfl d_Tree_add_32 ?_
    refine lv_iload hx hb d_Tree_add_35 (lv_at hl 0 rfl) ?_
    refine lv_iload_n hx hb d_Tree_add_37 rfl (lv_at hl 4 rfl) ?_
    refine va_iast hx hb hE.1 hP hD hS 3 1 rfl rfl (i := size) (row_in (N := 1000) (by decide) hs c_1) d_Tree_add_38 (fun H locs hP hD hS => ?_)
    obtain ⟨f_5, ef_5⟩ : ∃ y : Nat → Int32, y = upd gf size.toNatClampNeg (o) := ⟨_, rfl⟩
    rw [← ef_5] at hP hD
    have hP : va_P G.1 vwCl [(t, .inr (2, [.ref ka, .ref na, .ref ga, .ref sa, .ref xr, .int size])), (ka, .inl (G.2.1 0, 1000, .inl f_3)), (na, .inl (G.2.1 1, 1000, .inl f_4)), (ga, .inl (G.2.1 1, 1000, .inl f_5)), (sa, .inl (G.2.1 1, 1000, .inl sf)), (xr, .inr (1, [.ref xa, .int xsz])), (xa, .inl (G.2.1 0, 1000, .inl xf))] H := hP
    have hD : va_D A [(t, .inr (2, [.ref ka, .ref na, .ref ga, .ref sa, .ref xr, .int size])), (ka, .inl (G.2.1 0, 1000, .inl f_3)), (na, .inl (G.2.1 1, 1000, .inl f_4)), (ga, .inl (G.2.1 1, 1000, .inl f_5)), (sa, .inl (G.2.1 1, 1000, .inl sf)), (xr, .inr (1, [.ref xa, .int xsz])), (xa, .inl (G.2.1 0, 1000, .inl xf))] := hD
    refine lv_aload_n hx hb d_Tree_add_39 rfl (lv_at hl 1 rfl) ?_
    refine va_get (D := G.1) (ci := 2) (v := .ref sa) (C := R_Tree) (T := F_Tree) (N := 6) hx hb hw i_Tree hown hE.1 hP 0 rfl rfl 3 (by decide) (hw _ m_48) (fun _ h9 => h9) rfl d_Tree_add_40 ?_
    refine lv_iload hx hb d_Tree_add_43 (lv_at hl 0 rfl) ?_
    refine lv_iconst (v := 1) hx hb d_Tree_add_45 (by decide) ?_
    refine va_iast hx hb hE.1 hP hD hS 4 1 rfl rfl (i := size) (row_in (N := 1000) (by decide) hs c_1) d_Tree_add_46 (fun H locs hP hD hS => ?_)
    obtain ⟨f_6, ef_6⟩ : ∃ y : Nat → Int32, y = upd sf size.toNatClampNeg (1) := ⟨_, rfl⟩
    rw [← ef_6] at hP hD
    have hP : va_P G.1 vwCl [(t, .inr (2, [.ref ka, .ref na, .ref ga, .ref sa, .ref xr, .int size])), (ka, .inl (G.2.1 0, 1000, .inl f_3)), (na, .inl (G.2.1 1, 1000, .inl f_4)), (ga, .inl (G.2.1 1, 1000, .inl f_5)), (sa, .inl (G.2.1 1, 1000, .inl f_6)), (xr, .inr (1, [.ref xa, .int xsz])), (xa, .inl (G.2.1 0, 1000, .inl xf))] H := hP
    have hD : va_D A [(t, .inr (2, [.ref ka, .ref na, .ref ga, .ref sa, .ref xr, .int size])), (ka, .inl (G.2.1 0, 1000, .inl f_3)), (na, .inl (G.2.1 1, 1000, .inl f_4)), (ga, .inl (G.2.1 1, 1000, .inl f_5)), (sa, .inl (G.2.1 1, 1000, .inl f_6)), (xr, .inr (1, [.ref xa, .int xsz])), (xa, .inl (G.2.1 0, 1000, .inl xf))] := hD
    refine lv_aload_n hx hb d_Tree_add_47 rfl (lv_at hl 1 rfl) ?_
    refine lv_dup hx hb d_Tree_add_48 rfl ?_
    refine va_get (D := G.1) (ci := 2) (v := .int size) (C := R_Tree) (T := F_Tree) (N := 6) hx hb hw i_Tree hown hE.1 hP 0 rfl rfl 5 (by decide) (hw _ m_50) (fun _ h9 => h9) rfl d_Tree_add_49 ?_
    refine lv_iconst (v := 1) hx hb d_Tree_add_52 (by decide) ?_
    refine lv_iadd hx hb d_Tree_add_53 ?_
    refine lv_topi (fun y_7 ey_7 => ?_)
    refine va_put (D := G.1) (ci := 2) (v := .int y_7) (ty := .int) (C := R_Tree) (T := F_Tree) (N := 6) hx hb hw i_Tree t_Tree t_Tree_ok n_Tree hown hE.1 hP hD hS 0 rfl rfl 5 (by decide) (hw _ m_50) (fun _ h9 => h9) rfl (by decide +kernel) rfl rfl (Nat.le_of_ble_eq_true rfl) d_Tree_add_54 (fun H locs hP hD hS => ?_)
    have hP : va_P G.1 vwCl [(t, .inr (2, [.ref ka, .ref na, .ref ga, .ref sa, .ref xr, .int y_7])), (ka, .inl (G.2.1 0, 1000, .inl f_3)), (na, .inl (G.2.1 1, 1000, .inl f_4)), (ga, .inl (G.2.1 1, 1000, .inl f_5)), (sa, .inl (G.2.1 1, 1000, .inl f_6)), (xr, .inr (1, [.ref xa, .int xsz])), (xa, .inl (G.2.1 0, 1000, .inl xf))] H := hP
    have hD : va_D A [(t, .inr (2, [.ref ka, .ref na, .ref ga, .ref sa, .ref xr, .int y_7])), (ka, .inl (G.2.1 0, 1000, .inl f_3)), (na, .inl (G.2.1 1, 1000, .inl f_4)), (ga, .inl (G.2.1 1, 1000, .inl f_5)), (sa, .inl (G.2.1 1, 1000, .inl f_6)), (xr, .inr (1, [.ref xa, .int xsz])), (xa, .inl (G.2.1 0, 1000, .inl xf))] := hD
    refine lv_iload hx hb d_Tree_add_57 (lv_at hl 0 rfl) ?_
    exact ret size (f_3, f_4, f_5, f_6, y_7) (Nat.le_of_ble_eq_true rfl) (Nat.le_of_ble_eq_true rfl) d_Tree_add_59 rfl (by first | exact hs | exact (row_add (N := 1000) (by decide) hs c_1 (by assumption)).1) (hP.sub [0, 1, 2, 3, 4, 5, 6] rfl) (hD.sub [0, 1, 2, 3, 4, 5, 6] (by decide) rfl) hS
def rm_Tree_countPart : Room := { frames := 1, cells := 0, slots := 0, locals := 21 }
set_option maxHeartbeats 4000000 in
set_option maxRecDepth 100000 in
/-- countPart(i) -/
theorem c_Tree_countPart (l : Launch) (G : GG) (t : Nat) (ka : Nat) (na : Nat) (ga : Nat) (sa : Nat) (xr : Nat) (xa : Nat) (kf : Nat → Int32) (nf : Nat → Int32) (gf : Nat → Int32) (sf : Nat → Int32) (size : Int32) (xsz : Int32) (xf : Nat → Int32) (i : Int32) (hs : RowOk 1000 size) (hxs : RowOk 1000 xsz) : MV l y_Tree_countPart b_Tree_countPart 2 rm_Tree_countPart G [.ref t, .int i] [(t, .inr (2, [.ref ka, .ref na, .ref ga, .ref sa, .ref xr, .int size])), (ka, .inl (G.2.1 0, 1000, .inl kf)), (na, .inl (G.2.1 1, 1000, .inl nf)), (ga, .inl (G.2.1 1, 1000, .inl gf)), (sa, .inl (G.2.1 1, 1000, .inl sf)), (xr, .inr (1, [.ref xa, .int xsz])), (xa, .inl (G.2.1 0, 1000, .inl xf))] (fun (u : (Nat → Int32) × (Nat → Int32)) => True) (fun (u : (Nat → Int32) × (Nat → Int32)) => [(t, .inr (2, [.ref ka, .ref na, .ref ga, .ref sa, .ref xr, .int size])), (ka, .inl (G.2.1 0, 1000, .inl kf)), (na, .inl (G.2.1 1, 1000, .inl u.1)), (ga, .inl (G.2.1 1, 1000, .inl gf)), (sa, .inl (G.2.1 1, 1000, .inl u.2)), (xr, .inr (1, [.ref xa, .int xsz])), (xa, .inl (G.2.1 0, 1000, .inl xf))]) 0 0 := by
  refine MV.of (cc := b_Tree_countPart) (maxL := 2) (C := R_Tree) (by decide +kernel) rfl (Nat.le_of_ble_eq_true rfl) ?_
  intro p e s m args below meth c A Q H ls hx hb hml hown hw hE hA hP hD hS hin ret hl
  have hl : lv_has ls 2 [(0, .ref t), (1, .int i)] := hl
  refine lv_aload_n hx hb d_Tree_countPart_0 rfl (lv_at hl 0 rfl) ?_
  refine lv_iload_n hx hb d_Tree_countPart_1 rfl (lv_at hl 1 rfl) ?_
  refine gc_i (wr := []) (gc_V (wc := [(t, .inr (2, [.ref ka, .ref na, .ref ga, .ref sa, .ref xr, .int size])), (ka, .inl (G.2.1 0, 1000, .inl kf)), (na, .inl (G.2.1 1, 1000, .inl nf)), (ga, .inl (G.2.1 1, 1000, .inl gf)), (sa, .inl (G.2.1 1, 1000, .inl sf)), (xr, .inr (1, [.ref xa, .int xsz])), (xa, .inl (G.2.1 0, 1000, .inl xf))]) (As := [.int i]) (rest := []) ⟨hx, hb, hml, hown, hw⟩ (c_Tree_holds l G t ka na ga sa xr xa kf nf gf sf size xsz xf i hs hxs H.size) (cwV 1 hw (good_V m_199 m_201 ms_8 m_3 m_202) rfl rfl rfl hy_Tree_holds ⟨Nat.le_of_ble_eq_true rfl, Nat.le_of_ble_eq_true rfl⟩) hE hP hD hS hA (va_recv hE.1 hP (ci := 2) (q0 := 0) rfl rfl) [0, 1, 2, 3, 4, 5, 6] rfl (by decide) rfl hl rfl (Nat.le_of_ble_eq_true rfl) d_Tree_countPart_2 ⟨Nat.le_of_ble_eq_true rfl, Nat.le_of_ble_eq_true rfl⟩) hP hD hS hA [0, 1, 2, 3, 4, 5, 6] [] rfl rfl (by decide) (by decide) (fun r_1 u_2 H locs hw_3 hP hD hS => ?_)
  try dsimp only at hw_3
  have h_4 := hw_3
  have hP : va_P G.1 vwCl [(t, .inr (2, [.ref ka, .ref na, .ref ga, .ref sa, .ref xr, .int size])), (ka, .inl (G.2.1 0, 1000, .inl kf)), (na, .inl (G.2.1 1, 1000, .inl nf)), (ga, .inl (G.2.1 1, 1000, .inl gf)), (sa, .inl (G.2.1 1, 1000, .inl sf)), (xr, .inr (1, [.ref xa, .int xsz])), (xa, .inl (G.2.1 0, 1000, .inl xf))] H := hP
  have hD : va_D A [(t, .inr (2, [.ref ka, .ref na, .ref ga, .ref sa, .ref xr, .int size])), (ka, .inl (G.2.1 0, 1000, .inl kf)), (na, .inl (G.2.1 1, 1000, .inl nf)), (ga, .inl (G.2.1 1, 1000, .inl gf)), (sa, .inl (G.2.1 1, 1000, .inl sf)), (xr, .inr (1, [.ref xa, .int xsz])), (xa, .inl (G.2.1 0, 1000, .inl xf))] := hD
  refine lv_if_eq (tgt := 30) hx hb d_Tree_countPart_5 (by decide) (fun c_5 => ?_) (fun c_5 => ?_)
  · exact ret (nf, sf) (Nat.le_of_ble_eq_true rfl) (Nat.le_of_ble_eq_true rfl) d_Tree_countPart_30 trivial (hP.sub [0, 1, 2, 3, 4, 5, 6] rfl) (hD.sub [0, 1, 2, 3, 4, 5, 6] (by decide) rfl) hS
  · refine lv_aload_n hx hb d_Tree_countPart_8 rfl (lv_at hl 0 rfl) ?_
    refine va_get (D := G.1) (ci := 2) (v := .ref na) (C := R_Tree) (T := F_Tree) (N := 6) hx hb hw i_Tree hown hE.1 hP 0 rfl rfl 1 (by decide) (hw _ m_46) (fun _ h9 => h9) rfl d_Tree_countPart_9 ?_
    refine lv_iload_n hx hb d_Tree_countPart_12 rfl (lv_at hl 1 rfl) ?_
    refine lv_dup2_11 hx hb d_Tree_countPart_13 rfl rfl ?_
    refine va_iald hx hb hE.1 hP 2 1 rfl rfl (i := i) (tr_in hs h_4 c_5) d_Tree_countPart_14 ?_
    refine lv_topi (fun y_6 ey_6 => ?_)
    refine lv_iconst (v := 1) hx hb d_Tree_countPart_15 (by decide) ?_
    refine lv_iadd hx hb d_Tree_countPart_16 ?_
    refine lv_topi (fun y_7 ey_7 => ?_)
    refine va_iast hx hb hE.1 hP hD hS 2 1 rfl rfl (i := i) (tr_in hs h_4 c_5) d_Tree_countPart_17 (fun H locs hP hD hS => ?_)
    obtain ⟨f_8, ef_8⟩ : ∃ y : Nat → Int32, y = upd nf i.toNatClampNeg (y_7) := ⟨_, rfl⟩
    rw [← ef_8] at hP hD
    have hP : va_P G.1 vwCl [(t, .inr (2, [.ref ka, .ref na, .ref ga, .ref sa, .ref xr, .int size])), (ka, .inl (G.2.1 0, 1000, .inl kf)), (na, .inl (G.2.1 1, 1000, .inl f_8)), (ga, .inl (G.2.1 1, 1000, .inl gf)), (sa, .inl (G.2.1 1, 1000, .inl sf)), (xr, .inr (1, [.ref xa, .int xsz])), (xa, .inl (G.2.1 0, 1000, .inl xf))] H := hP
    have hD : va_D A [(t, .inr (2, [.ref ka, .ref na, .ref ga, .ref sa, .ref xr, .int size])), (ka, .inl (G.2.1 0, 1000, .inl kf)), (na, .inl (G.2.1 1, 1000, .inl f_8)), (ga, .inl (G.2.1 1, 1000, .inl gf)), (sa, .inl (G.2.1 1, 1000, .inl sf)), (xr, .inr (1, [.ref xa, .int xsz])), (xa, .inl (G.2.1 0, 1000, .inl xf))] := hD
    refine lv_aload_n hx hb d_Tree_countPart_18 rfl (lv_at hl 0 rfl) ?_
    refine va_get (D := G.1) (ci := 2) (v := .ref sa) (C := R_Tree) (T := F_Tree) (N := 6) hx hb hw i_Tree hown hE.1 hP 0 rfl rfl 3 (by decide) (hw _ m_48) (fun _ h9 => h9) rfl d_Tree_countPart_19 ?_
    refine lv_iload_n hx hb d_Tree_countPart_22 rfl (lv_at hl 1 rfl) ?_
    refine lv_aload_n hx hb d_Tree_countPart_23 rfl (lv_at hl 0 rfl) ?_
    refine va_get (D := G.1) (ci := 2) (v := .int size) (C := R_Tree) (T := F_Tree) (N := 6) hx hb hw i_Tree hown hE.1 hP 0 rfl rfl 5 (by decide) (hw _ m_50) (fun _ h9 => h9) rfl d_Tree_countPart_24 ?_
    refine lv_iload_n hx hb d_Tree_countPart_27 rfl (lv_at hl 1 rfl) ?_
    refine lv_isub hx hb d_Tree_countPart_28 ?_
    refine lv_topi (fun y_9 ey_9 => ?_)
    refine va_iast hx hb hE.1 hP hD hS 4 1 rfl rfl (i := i) (tr_in hs h_4 c_5) d_Tree_countPart_29 (fun H locs hP hD hS => ?_)
    obtain ⟨f_10, ef_10⟩ : ∃ y : Nat → Int32, y = upd sf i.toNatClampNeg (y_9) := ⟨_, rfl⟩
    rw [← ef_10] at hP hD
    have hP : va_P G.1 vwCl [(t, .inr (2, [.ref ka, .ref na, .ref ga, .ref sa, .ref xr, .int size])), (ka, .inl (G.2.1 0, 1000, .inl kf)), (na, .inl (G.2.1 1, 1000, .inl f_8)), (ga, .inl (G.2.1 1, 1000, .inl gf)), (sa, .inl (G.2.1 1, 1000, .inl f_10)), (xr, .inr (1, [.ref xa, .int xsz])), (xa, .inl (G.2.1 0, 1000, .inl xf))] H := hP
    have hD : va_D A [(t, .inr (2, [.ref ka, .ref na, .ref ga, .ref sa, .ref xr, .int size])), (ka, .inl (G.2.1 0, 1000, .inl kf)), (na, .inl (G.2.1 1, 1000, .inl f_8)), (ga, .inl (G.2.1 1, 1000, .inl gf)), (sa, .inl (G.2.1 1, 1000, .inl f_10)), (xr, .inr (1, [.ref xa, .int xsz])), (xa, .inl (G.2.1 0, 1000, .inl xf))] := hD
    exact ret (f_8, f_10) (Nat.le_of_ble_eq_true rfl) (Nat.le_of_ble_eq_true rfl) d_Tree_countPart_30 trivial (hP.sub [0, 1, 2, 3, 4, 5, 6] rfl) (hD.sub [0, 1, 2, 3, 4, 5, 6] (by decide) rfl) hS
def rm_Tree_text : Room := { frames := 0, cells := 0, slots := 0, locals := 0 }
set_option maxHeartbeats 4000000 in
set_option maxRecDepth 100000 in
/-- text() -/
theorem c_Tree_text (l : Launch) (G : GG) (t : Nat) (ka : Nat) (na : Nat) (ga : Nat) (sa : Nat) (xr : Nat) (xa : Nat) (kf : Nat → Int32) (nf : Nat → Int32) (gf : Nat → Int32) (sf : Nat → Int32) (size : Int32) (xsz : Int32) (xf : Nat → Int32) (hs : RowOk 1000 size) (hxs : RowOk 1000 xsz) : MR l y_Tree_text b_Tree_text 1 (.object "ValueTexts$Row") rm_Tree_text G [.ref t] [(t, .inr (2, [.ref ka, .ref na, .ref ga, .ref sa, .ref xr, .int size])), (ka, .inl (G.2.1 0, 1000, .inl kf)), (na, .inl (G.2.1 1, 1000, .inl nf)), (ga, .inl (G.2.1 1, 1000, .inl gf)), (sa, .inl (G.2.1 1, 1000, .inl sf)), (xr, .inr (1, [.ref xa, .int xsz])), (xa, .inl (G.2.1 0, 1000, .inl xf))] (fun (v : Nat) (u : Unit) => (xr = v)) (fun (u : Unit) => [(t, .inr (2, [.ref ka, .ref na, .ref ga, .ref sa, .ref xr, .int size])), (ka, .inl (G.2.1 0, 1000, .inl kf)), (na, .inl (G.2.1 1, 1000, .inl nf)), (ga, .inl (G.2.1 1, 1000, .inl gf)), (sa, .inl (G.2.1 1, 1000, .inl sf)), (xr, .inr (1, [.ref xa, .int xsz])), (xa, .inl (G.2.1 0, 1000, .inl xf))]) 0 0 := by
  refine MR.of (cc := b_Tree_text) (maxL := 1) (ty := .object "ValueTexts$Row") (C := R_Tree) (by decide +kernel) rfl (Nat.le_of_ble_eq_true rfl) (Or.inl ⟨_, rfl⟩) ?_
  intro p e s m args below meth c A Q H ls hx hb hml hown hw hE hA hP hD hS ret hl
  have hl : lv_has ls 1 [(0, .ref t)] := hl
  refine lv_aload_n hx hb d_Tree_text_0 rfl (lv_at hl 0 rfl) ?_
  refine va_get (D := G.1) (ci := 2) (v := .ref xr) (C := R_Tree) (T := F_Tree) (N := 6) hx hb hw i_Tree hown hE.1 hP 0 rfl rfl 4 (by decide) (hw _ m_49) (fun _ h9 => h9) rfl d_Tree_text_1 ?_
  exact ret xr () (Nat.le_of_ble_eq_true rfl) (Nat.le_of_ble_eq_true rfl) d_Tree_text_4 rfl (hP.sub [0, 1, 2, 3, 4, 5, 6] rfl) (hD.sub [0, 1, 2, 3, 4, 5, 6] (by decide) rfl) hS
def rm_Tree_kind : Room := { frames := 1, cells := 0, slots := 0, locals := 21 }
set_option maxHeartbeats 4000000 in
set_option maxRecDepth 100000 in
/-- kind(i) -/
theorem c_Tree_kind (l : Launch) (G : GG) (t : Nat) (ka : Nat) (na : Nat) (ga : Nat) (sa : Nat) (xr : Nat) (xa : Nat) (kf : Nat → Int32) (nf : Nat → Int32) (gf : Nat → Int32) (sf : Nat → Int32) (size : Int32) (xsz : Int32) (xf : Nat → Int32) (i : Int32) (hs : RowOk 1000 size) (hxs : RowOk 1000 xsz) : MI l y_Tree_kind b_Tree_kind 2 .int rm_Tree_kind G [.ref t, .int i] [(t, .inr (2, [.ref ka, .ref na, .ref ga, .ref sa, .ref xr, .int size])), (ka, .inl (G.2.1 0, 1000, .inl kf)), (na, .inl (G.2.1 1, 1000, .inl nf)), (ga, .inl (G.2.1 1, 1000, .inl gf)), (sa, .inl (G.2.1 1, 1000, .inl sf)), (xr, .inr (1, [.ref xa, .int xsz])), (xa, .inl (G.2.1 0, 1000, .inl xf))] (fun (v : Int32) (u : Unit) => True) (fun (u : Unit) => [(t, .inr (2, [.ref ka, .ref na, .ref ga, .ref sa, .ref xr, .int size])), (ka, .inl (G.2.1 0, 1000, .inl kf)), (na, .inl (G.2.1 1, 1000, .inl nf)), (ga, .inl (G.2.1 1, 1000, .inl gf)), (sa, .inl (G.2.1 1, 1000, .inl sf)), (xr, .inr (1, [.ref xa, .int xsz])), (xa, .inl (G.2.1 0, 1000, .inl xf))]) 0 0 := by
  refine MI.of (cc := b_Tree_kind) (maxL := 2) (ty := .int) (C := R_Tree) (by decide +kernel) rfl (Nat.le_of_ble_eq_true rfl) ?_
  intro p e s m args below meth c A Q H ls hx hb hml hown hw hE hA hP hD hS ret hl
  have hl : lv_has ls 2 [(0, .ref t), (1, .int i)] := hl
  refine lv_aload_n hx hb d_Tree_kind_0 rfl (lv_at hl 0 rfl) ?_
  refine lv_iload_n hx hb d_Tree_kind_1 rfl (lv_at hl 1 rfl) ?_
  refine gc_i (wr := []) (gc_V (wc := [(t, .inr (2, [.ref ka, .ref na, .ref ga, .ref sa, .ref xr, .int size])), (ka, .inl (G.2.1 0, 1000, .inl kf)), (na, .inl (G.2.1 1, 1000, .inl nf)), (ga, .inl (G.2.1 1, 1000, .inl gf)), (sa, .inl (G.2.1 1, 1000, .inl sf)), (xr, .inr (1, [.ref xa, .int xsz])), (xa, .inl (G.2.1 0, 1000, .inl xf))]) (As := [.int i]) (rest := []) ⟨hx, hb, hml, hown, hw⟩ (c_Tree_holds l G t ka na ga sa xr xa kf nf gf sf size xsz xf i hs hxs H.size) (cwV 1 hw (good_V m_199 m_201 ms_8 m_3 m_202) rfl rfl rfl hy_Tree_holds ⟨Nat.le_of_ble_eq_true rfl, Nat.le_of_ble_eq_true rfl⟩) hE hP hD hS hA (va_recv hE.1 hP (ci := 2) (q0 := 0) rfl rfl) [0, 1, 2, 3, 4, 5, 6] rfl (by decide) rfl hl rfl (Nat.le_of_ble_eq_true rfl) d_Tree_kind_2 ⟨Nat.le_of_ble_eq_true rfl, Nat.le_of_ble_eq_true rfl⟩) hP hD hS hA [0, 1, 2, 3, 4, 5, 6] [] rfl rfl (by decide) (by decide) (fun r_1 u_2 H locs hw_3 hP hD hS => ?_)
  try dsimp only at hw_3
  have h_4 := hw_3
  have hP : va_P G.1 vwCl [(t, .inr (2, [.ref ka, .ref na, .ref ga, .ref sa, .ref xr, .int size])), (ka, .inl (G.2.1 0, 1000, .inl kf)), (na, .inl (G.2.1 1, 1000, .inl nf)), (ga, .inl (G.2.1 1, 1000, .inl gf)), (sa, .inl (G.2.1 1, 1000, .inl sf)), (xr, .inr (1, [.ref xa, .int xsz])), (xa, .inl (G.2.1 0, 1000, .inl xf))] H := hP
  have hD : va_D A [(t, .inr (2, [.ref ka, .ref na, .ref ga, .ref sa, .ref xr, .int size])), (ka, .inl (G.2.1 0, 1000, .inl kf)), (na, .inl (G.2.1 1, 1000, .inl nf)), (ga, .inl (G.2.1 1, 1000, .inl gf)), (sa, .inl (G.2.1 1, 1000, .inl sf)), (xr, .inr (1, [.ref xa, .int xsz])), (xa, .inl (G.2.1 0, 1000, .inl xf))] := hD
  refine lv_if_eq (tgt := 17) hx hb d_Tree_kind_5 (by decide) (fun c_5 => ?_) (fun c_5 => ?_)
  · refine lv_bipush (v := (-2)) hx hb d_Tree_kind_17 (by decide) ?_
    exact ret (-2) () (Nat.le_of_ble_eq_true rfl) (Nat.le_of_ble_eq_true rfl) d_Tree_kind_19 rfl trivial (hP.sub [0, 1, 2, 3, 4, 5, 6] rfl) (hD.sub [0, 1, 2, 3, 4, 5, 6] (by decide) rfl) hS
  · refine lv_aload_n hx hb d_Tree_kind_8 rfl (lv_at hl 0 rfl) ?_
    refine va_get (D := G.1) (ci := 2) (v := .ref ka) (C := R_Tree) (T := F_Tree) (N := 6) hx hb hw i_Tree hown hE.1 hP 0 rfl rfl 0 (by decide) (hw _ m_45) (fun _ h9 => h9) rfl d_Tree_kind_9 ?_
    refine lv_iload_n hx hb d_Tree_kind_12 rfl (lv_at hl 1 rfl) ?_
    refine va_bald hx hb hE.1 hP 1 0 rfl rfl (i := i) (tr_in hs h_4 c_5) d_Tree_kind_13 ?_
    refine lv_topi (fun y_6 ey_6 => ?_)
    refine lv_goto (tgt := 19) hx hb d_Tree_kind_14 (by decide) ?_
    exact ret y_6 () (Nat.le_of_ble_eq_true rfl) (Nat.le_of_ble_eq_true rfl) d_Tree_kind_19 rfl trivial (hP.sub [0, 1, 2, 3, 4, 5, 6] rfl) (hD.sub [0, 1, 2, 3, 4, 5, 6] (by decide) rfl) hS
def rm_Tree_number : Room := { frames := 1, cells := 0, slots := 0, locals := 21 }
set_option maxHeartbeats 4000000 in
set_option maxRecDepth 100000 in
/-- number(i) -/
theorem c_Tree_number (l : Launch) (G : GG) (t : Nat) (ka : Nat) (na : Nat) (ga : Nat) (sa : Nat) (xr : Nat) (xa : Nat) (kf : Nat → Int32) (nf : Nat → Int32) (gf : Nat → Int32) (sf : Nat → Int32) (size : Int32) (xsz : Int32) (xf : Nat → Int32) (i : Int32) (hs : RowOk 1000 size) (hxs : RowOk 1000 xsz) : MI l y_Tree_number b_Tree_number 2 .int rm_Tree_number G [.ref t, .int i] [(t, .inr (2, [.ref ka, .ref na, .ref ga, .ref sa, .ref xr, .int size])), (ka, .inl (G.2.1 0, 1000, .inl kf)), (na, .inl (G.2.1 1, 1000, .inl nf)), (ga, .inl (G.2.1 1, 1000, .inl gf)), (sa, .inl (G.2.1 1, 1000, .inl sf)), (xr, .inr (1, [.ref xa, .int xsz])), (xa, .inl (G.2.1 0, 1000, .inl xf))] (fun (v : Int32) (u : Unit) => (tr_num size nf i = v)) (fun (u : Unit) => [(t, .inr (2, [.ref ka, .ref na, .ref ga, .ref sa, .ref xr, .int size])), (ka, .inl (G.2.1 0, 1000, .inl kf)), (na, .inl (G.2.1 1, 1000, .inl nf)), (ga, .inl (G.2.1 1, 1000, .inl gf)), (sa, .inl (G.2.1 1, 1000, .inl sf)), (xr, .inr (1, [.ref xa, .int xsz])), (xa, .inl (G.2.1 0, 1000, .inl xf))]) 0 0 := by
  refine MI.of (cc := b_Tree_number) (maxL := 2) (ty := .int) (C := R_Tree) (by decide +kernel) rfl (Nat.le_of_ble_eq_true rfl) ?_
  intro p e s m args below meth c A Q H ls hx hb hml hown hw hE hA hP hD hS ret hl
  have hl : lv_has ls 2 [(0, .ref t), (1, .int i)] := hl
  refine lv_aload_n hx hb d_Tree_number_0 rfl (lv_at hl 0 rfl) ?_
  refine lv_iload_n hx hb d_Tree_number_1 rfl (lv_at hl 1 rfl) ?_
  refine gc_i (wr := []) (gc_V (wc := [(t, .inr (2, [.ref ka, .ref na, .ref ga, .ref sa, .ref xr, .int size])), (ka, .inl (G.2.1 0, 1000, .inl kf)), (na, .inl (G.2.1 1, 1000, .inl nf)), (ga, .inl (G.2.1 1, 1000, .inl gf)), (sa, .inl (G.2.1 1, 1000, .inl sf)), (xr, .inr (1, [.ref xa, .int xsz])), (xa, .inl (G.2.1 0, 1000, .inl xf))]) (As := [.int i]) (rest := []) ⟨hx, hb, hml, hown, hw⟩ (c_Tree_holds l G t ka na ga sa xr xa kf nf gf sf size xsz xf i hs hxs H.size) (cwV 1 hw (good_V m_199 m_201 ms_8 m_3 m_202) rfl rfl rfl hy_Tree_holds ⟨Nat.le_of_ble_eq_true rfl, Nat.le_of_ble_eq_true rfl⟩) hE hP hD hS hA (va_recv hE.1 hP (ci := 2) (q0 := 0) rfl rfl) [0, 1, 2, 3, 4, 5, 6] rfl (by decide) rfl hl rfl (Nat.le_of_ble_eq_true rfl) d_Tree_number_2 ⟨Nat.le_of_ble_eq_true rfl, Nat.le_of_ble_eq_true rfl⟩) hP hD hS hA [0, 1, 2, 3, 4, 5, 6] [] rfl rfl (by decide) (by decide) (fun r_1 u_2 H locs hw_3 hP hD hS => ?_)
  try dsimp only at hw_3
  have h_4 := hw_3
  have hP : va_P G.1 vwCl [(t, .inr (2, [.ref ka, .ref na, .ref ga, .ref sa, .ref xr, .int size])), (ka, .inl (G.2.1 0, 1000, .inl kf)), (na, .inl (G.2.1 1, 1000, .inl nf)), (ga, .inl (G.2.1 1, 1000, .inl gf)), (sa, .inl (G.2.1 1, 1000, .inl sf)), (xr, .inr (1, [.ref xa, .int xsz])), (xa, .inl (G.2.1 0, 1000, .inl xf))] H := hP
  have hD : va_D A [(t, .inr (2, [.ref ka, .ref na, .ref ga, .ref sa, .ref xr, .int size])), (ka, .inl (G.2.1 0, 1000, .inl kf)), (na, .inl (G.2.1 1, 1000, .inl nf)), (ga, .inl (G.2.1 1, 1000, .inl gf)), (sa, .inl (G.2.1 1, 1000, .inl sf)), (xr, .inr (1, [.ref xa, .int xsz])), (xa, .inl (G.2.1 0, 1000, .inl xf))] := hD
  refine lv_if_eq (tgt := 17) hx hb d_Tree_number_5 (by decide) (fun c_5 => ?_) (fun c_5 => ?_)
  · refine lv_iconst (v := 0) hx hb d_Tree_number_17 (by decide) ?_
    exact ret 0 () (Nat.le_of_ble_eq_true rfl) (Nat.le_of_ble_eq_true rfl) d_Tree_number_18 rfl (by first | exact tr_num1 h_4 c_5 (by assumption) | exact tr_num0 h_4 c_5) (hP.sub [0, 1, 2, 3, 4, 5, 6] rfl) (hD.sub [0, 1, 2, 3, 4, 5, 6] (by decide) rfl) hS
  · refine lv_aload_n hx hb d_Tree_number_8 rfl (lv_at hl 0 rfl) ?_
    refine va_get (D := G.1) (ci := 2) (v := .ref na) (C := R_Tree) (T := F_Tree) (N := 6) hx hb hw i_Tree hown hE.1 hP 0 rfl rfl 1 (by decide) (hw _ m_46) (fun _ h9 => h9) rfl d_Tree_number_9 ?_
    refine lv_iload_n hx hb d_Tree_number_12 rfl (lv_at hl 1 rfl) ?_
    refine va_iald hx hb hE.1 hP 2 1 rfl rfl (i := i) (tr_in hs h_4 c_5) d_Tree_number_13 ?_
    refine lv_topi (fun y_6 ey_6 => ?_)
    refine lv_goto (tgt := 18) hx hb d_Tree_number_14 (by decide) ?_
    exact ret y_6 () (Nat.le_of_ble_eq_true rfl) (Nat.le_of_ble_eq_true rfl) d_Tree_number_18 rfl (by first | exact tr_num1 h_4 c_5 (by assumption) | exact tr_num0 h_4 c_5) (hP.sub [0, 1, 2, 3, 4, 5, 6] rfl) (hD.sub [0, 1, 2, 3, 4, 5, 6] (by decide) rfl) hS
def rm_Tree_other : Room := { frames := 1, cells := 0, slots := 0, locals := 21 }
set_option maxHeartbeats 4000000 in
set_option maxRecDepth 100000 in
/-- other(i) -/
theorem c_Tree_other (l : Launch) (G : GG) (t : Nat) (ka : Nat) (na : Nat) (ga : Nat) (sa : Nat) (xr : Nat) (xa : Nat) (kf : Nat → Int32) (nf : Nat → Int32) (gf : Nat → Int32) (sf : Nat → Int32) (size : Int32) (xsz : Int32) (xf : Nat → Int32) (i : Int32) (hs : RowOk 1000 size) (hxs : RowOk 1000 xsz) : MI l y_Tree_other b_Tree_other 2 .int rm_Tree_other G [.ref t, .int i] [(t, .inr (2, [.ref ka, .ref na, .ref ga, .ref sa, .ref xr, .int size])), (ka, .inl (G.2.1 0, 1000, .inl kf)), (na, .inl (G.2.1 1, 1000, .inl nf)), (ga, .inl (G.2.1 1, 1000, .inl gf)), (sa, .inl (G.2.1 1, 1000, .inl sf)), (xr, .inr (1, [.ref xa, .int xsz])), (xa, .inl (G.2.1 0, 1000, .inl xf))] (fun (v : Int32) (u : Unit) => True) (fun (u : Unit) => [(t, .inr (2, [.ref ka, .ref na, .ref ga, .ref sa, .ref xr, .int size])), (ka, .inl (G.2.1 0, 1000, .inl kf)), (na, .inl (G.2.1 1, 1000, .inl nf)), (ga, .inl (G.2.1 1, 1000, .inl gf)), (sa, .inl (G.2.1 1, 1000, .inl sf)), (xr, .inr (1, [.ref xa, .int xsz])), (xa, .inl (G.2.1 0, 1000, .inl xf))]) 0 0 := by
  refine MI.of (cc := b_Tree_other) (maxL := 2) (ty := .int) (C := R_Tree) (by decide +kernel) rfl (Nat.le_of_ble_eq_true rfl) ?_
  intro p e s m args below meth c A Q H ls hx hb hml hown hw hE hA hP hD hS ret hl
  have hl : lv_has ls 2 [(0, .ref t), (1, .int i)] := hl
  refine lv_aload_n hx hb d_Tree_other_0 rfl (lv_at hl 0 rfl) ?_
  refine lv_iload_n hx hb d_Tree_other_1 rfl (lv_at hl 1 rfl) ?_
  refine gc_i (wr := []) (gc_V (wc := [(t, .inr (2, [.ref ka, .ref na, .ref ga, .ref sa, .ref xr, .int size])), (ka, .inl (G.2.1 0, 1000, .inl kf)), (na, .inl (G.2.1 1, 1000, .inl nf)), (ga, .inl (G.2.1 1, 1000, .inl gf)), (sa, .inl (G.2.1 1, 1000, .inl sf)), (xr, .inr (1, [.ref xa, .int xsz])), (xa, .inl (G.2.1 0, 1000, .inl xf))]) (As := [.int i]) (rest := []) ⟨hx, hb, hml, hown, hw⟩ (c_Tree_holds l G t ka na ga sa xr xa kf nf gf sf size xsz xf i hs hxs H.size) (cwV 1 hw (good_V m_199 m_201 ms_8 m_3 m_202) rfl rfl rfl hy_Tree_holds ⟨Nat.le_of_ble_eq_true rfl, Nat.le_of_ble_eq_true rfl⟩) hE hP hD hS hA (va_recv hE.1 hP (ci := 2) (q0 := 0) rfl rfl) [0, 1, 2, 3, 4, 5, 6] rfl (by decide) rfl hl rfl (Nat.le_of_ble_eq_true rfl) d_Tree_other_2 ⟨Nat.le_of_ble_eq_true rfl, Nat.le_of_ble_eq_true rfl⟩) hP hD hS hA [0, 1, 2, 3, 4, 5, 6] [] rfl rfl (by decide) (by decide) (fun r_1 u_2 H locs hw_3 hP hD hS => ?_)
  try dsimp only at hw_3
  have h_4 := hw_3
  have hP : va_P G.1 vwCl [(t, .inr (2, [.ref ka, .ref na, .ref ga, .ref sa, .ref xr, .int size])), (ka, .inl (G.2.1 0, 1000, .inl kf)), (na, .inl (G.2.1 1, 1000, .inl nf)), (ga, .inl (G.2.1 1, 1000, .inl gf)), (sa, .inl (G.2.1 1, 1000, .inl sf)), (xr, .inr (1, [.ref xa, .int xsz])), (xa, .inl (G.2.1 0, 1000, .inl xf))] H := hP
  have hD : va_D A [(t, .inr (2, [.ref ka, .ref na, .ref ga, .ref sa, .ref xr, .int size])), (ka, .inl (G.2.1 0, 1000, .inl kf)), (na, .inl (G.2.1 1, 1000, .inl nf)), (ga, .inl (G.2.1 1, 1000, .inl gf)), (sa, .inl (G.2.1 1, 1000, .inl sf)), (xr, .inr (1, [.ref xa, .int xsz])), (xa, .inl (G.2.1 0, 1000, .inl xf))] := hD
  refine lv_if_eq (tgt := 17) hx hb d_Tree_other_5 (by decide) (fun c_5 => ?_) (fun c_5 => ?_)
  · refine lv_iconst (v := 0) hx hb d_Tree_other_17 (by decide) ?_
    exact ret 0 () (Nat.le_of_ble_eq_true rfl) (Nat.le_of_ble_eq_true rfl) d_Tree_other_18 rfl trivial (hP.sub [0, 1, 2, 3, 4, 5, 6] rfl) (hD.sub [0, 1, 2, 3, 4, 5, 6] (by decide) rfl) hS
  · refine lv_aload_n hx hb d_Tree_other_8 rfl (lv_at hl 0 rfl) ?_
    refine va_get (D := G.1) (ci := 2) (v := .ref ga) (C := R_Tree) (T := F_Tree) (N := 6) hx hb hw i_Tree hown hE.1 hP 0 rfl rfl 2 (by decide) (hw _ m_47) (fun _ h9 => h9) rfl d_Tree_other_9 ?_
    refine lv_iload_n hx hb d_Tree_other_12 rfl (lv_at hl 1 rfl) ?_
    refine va_iald hx hb hE.1 hP 3 1 rfl rfl (i := i) (tr_in hs h_4 c_5) d_Tree_other_13 ?_
    refine lv_topi (fun y_6 ey_6 => ?_)
    refine lv_goto (tgt := 18) hx hb d_Tree_other_14 (by decide) ?_
    exact ret y_6 () (Nat.le_of_ble_eq_true rfl) (Nat.le_of_ble_eq_true rfl) d_Tree_other_18 rfl trivial (hP.sub [0, 1, 2, 3, 4, 5, 6] rfl) (hD.sub [0, 1, 2, 3, 4, 5, 6] (by decide) rfl) hS
def rm_Tree_after : Room := { frames := 1, cells := 0, slots := 0, locals := 21 }
set_option maxHeartbeats 4000000 in
set_option maxRecDepth 100000 in
/-- after(i) -/
theorem c_Tree_after (l : Launch) (G : GG) (t : Nat) (ka : Nat) (na : Nat) (ga : Nat) (sa : Nat) (xr : Nat) (xa : Nat) (kf : Nat → Int32) (nf : Nat → Int32) (gf : Nat → Int32) (sf : Nat → Int32) (size : Int32) (xsz : Int32) (xf : Nat → Int32) (i : Int32) (hs : RowOk 1000 size) (hxs : RowOk 1000 xsz) : MI l y_Tree_after b_Tree_after 2 .int rm_Tree_after G [.ref t, .int i] [(t, .inr (2, [.ref ka, .ref na, .ref ga, .ref sa, .ref xr, .int size])), (ka, .inl (G.2.1 0, 1000, .inl kf)), (na, .inl (G.2.1 1, 1000, .inl nf)), (ga, .inl (G.2.1 1, 1000, .inl gf)), (sa, .inl (G.2.1 1, 1000, .inl sf)), (xr, .inr (1, [.ref xa, .int xsz])), (xa, .inl (G.2.1 0, 1000, .inl xf))] (fun (v : Int32) (u : Unit) => True) (fun (u : Unit) => [(t, .inr (2, [.ref ka, .ref na, .ref ga, .ref sa, .ref xr, .int size])), (ka, .inl (G.2.1 0, 1000, .inl kf)), (na, .inl (G.2.1 1, 1000, .inl nf)), (ga, .inl (G.2.1 1, 1000, .inl gf)), (sa, .inl (G.2.1 1, 1000, .inl sf)), (xr, .inr (1, [.ref xa, .int xsz])), (xa, .inl (G.2.1 0, 1000, .inl xf))]) 0 0 := by
  refine MI.of (cc := b_Tree_after) (maxL := 2) (ty := .int) (C := R_Tree) (by decide +kernel) rfl (Nat.le_of_ble_eq_true rfl) ?_
  intro p e s m args below meth c A Q H ls hx hb hml hown hw hE hA hP hD hS ret hl
  have hl : lv_has ls 2 [(0, .ref t), (1, .int i)] := hl
  refine lv_aload_n hx hb d_Tree_after_0 rfl (lv_at hl 0 rfl) ?_
  refine lv_iload_n hx hb d_Tree_after_1 rfl (lv_at hl 1 rfl) ?_
  refine gc_i (wr := []) (gc_V (wc := [(t, .inr (2, [.ref ka, .ref na, .ref ga, .ref sa, .ref xr, .int size])), (ka, .inl (G.2.1 0, 1000, .inl kf)), (na, .inl (G.2.1 1, 1000, .inl nf)), (ga, .inl (G.2.1 1, 1000, .inl gf)), (sa, .inl (G.2.1 1, 1000, .inl sf)), (xr, .inr (1, [.ref xa, .int xsz])), (xa, .inl (G.2.1 0, 1000, .inl xf))]) (As := [.int i]) (rest := []) ⟨hx, hb, hml, hown, hw⟩ (c_Tree_holds l G t ka na ga sa xr xa kf nf gf sf size xsz xf i hs hxs H.size) (cwV 1 hw (good_V m_199 m_201 ms_8 m_3 m_202) rfl rfl rfl hy_Tree_holds ⟨Nat.le_of_ble_eq_true rfl, Nat.le_of_ble_eq_true rfl⟩) hE hP hD hS hA (va_recv hE.1 hP (ci := 2) (q0 := 0) rfl rfl) [0, 1, 2, 3, 4, 5, 6] rfl (by decide) rfl hl rfl (Nat.le_of_ble_eq_true rfl) d_Tree_after_2 ⟨Nat.le_of_ble_eq_true rfl, Nat.le_of_ble_eq_true rfl⟩) hP hD hS hA [0, 1, 2, 3, 4, 5, 6] [] rfl rfl (by decide) (by decide) (fun r_1 u_2 H locs hw_3 hP hD hS => ?_)
  try dsimp only at hw_3
  have h_4 := hw_3
  have hP : va_P G.1 vwCl [(t, .inr (2, [.ref ka, .ref na, .ref ga, .ref sa, .ref xr, .int size])), (ka, .inl (G.2.1 0, 1000, .inl kf)), (na, .inl (G.2.1 1, 1000, .inl nf)), (ga, .inl (G.2.1 1, 1000, .inl gf)), (sa, .inl (G.2.1 1, 1000, .inl sf)), (xr, .inr (1, [.ref xa, .int xsz])), (xa, .inl (G.2.1 0, 1000, .inl xf))] H := hP
  have hD : va_D A [(t, .inr (2, [.ref ka, .ref na, .ref ga, .ref sa, .ref xr, .int size])), (ka, .inl (G.2.1 0, 1000, .inl kf)), (na, .inl (G.2.1 1, 1000, .inl nf)), (ga, .inl (G.2.1 1, 1000, .inl gf)), (sa, .inl (G.2.1 1, 1000, .inl sf)), (xr, .inr (1, [.ref xa, .int xsz])), (xa, .inl (G.2.1 0, 1000, .inl xf))] := hD
  refine lv_if_eq (tgt := 19) hx hb d_Tree_after_5 (by decide) (fun c_5 => ?_) (fun c_5 => ?_)
  · refine lv_aload_n hx hb d_Tree_after_19 rfl (lv_at hl 0 rfl) ?_
    refine va_get (D := G.1) (ci := 2) (v := .int size) (C := R_Tree) (T := F_Tree) (N := 6) hx hb hw i_Tree hown hE.1 hP 0 rfl rfl 5 (by decide) (hw _ m_50) (fun _ h9 => h9) rfl d_Tree_after_20 ?_
    exact ret size () (Nat.le_of_ble_eq_true rfl) (Nat.le_of_ble_eq_true rfl) d_Tree_after_23 rfl trivial (hP.sub [0, 1, 2, 3, 4, 5, 6] rfl) (hD.sub [0, 1, 2, 3, 4, 5, 6] (by decide) rfl) hS
  · refine lv_iload_n hx hb d_Tree_after_8 rfl (lv_at hl 1 rfl) ?_
    refine lv_aload_n hx hb d_Tree_after_9 rfl (lv_at hl 0 rfl) ?_
    refine va_get (D := G.1) (ci := 2) (v := .ref sa) (C := R_Tree) (T := F_Tree) (N := 6) hx hb hw i_Tree hown hE.1 hP 0 rfl rfl 3 (by decide) (hw _ m_48) (fun _ h9 => h9) rfl d_Tree_after_10 ?_
    refine lv_iload_n hx hb d_Tree_after_13 rfl (lv_at hl 1 rfl) ?_
    refine va_iald hx hb hE.1 hP 4 1 rfl rfl (i := i) (tr_in hs h_4 c_5) d_Tree_after_14 ?_
    refine lv_topi (fun y_6 ey_6 => ?_)
    refine lv_iadd hx hb d_Tree_after_15 ?_
    refine lv_topi (fun y_7 ey_7 => ?_)
    refine lv_goto (tgt := 23) hx hb d_Tree_after_16 (by decide) ?_
    exact ret y_7 () (Nat.le_of_ble_eq_true rfl) (Nat.le_of_ble_eq_true rfl) d_Tree_after_23 rfl trivial (hP.sub [0, 1, 2, 3, 4, 5, 6] rfl) (hD.sub [0, 1, 2, 3, 4, 5, 6] (by decide) rfl) hS
def rm_Tree_itemNode : Room := { frames := 2, cells := 0, slots := 0, locals := 42 }
set_option maxHeartbeats 4000000 in
set_option maxRecDepth 100000 in
theorem c_Tree_itemNode (l : Launch) (G : GG) (t : Nat) (ka : Nat) (na : Nat) (ga : Nat) (sa : Nat) (xr : Nat) (xa : Nat) (kf : Nat → Int32) (nf : Nat → Int32) (gf : Nat → Int32) (sf : Nat → Int32) (size : Int32) (xsz : Int32) (xf : Nat → Int32) (i : Int32) (k : Int32) (hs : RowOk 1000 size) (hxs : RowOk 1000 xsz) : MI l y_Tree_itemNode b_Tree_itemNode 5 .int rm_Tree_itemNode G [.ref t, .int i, .int k] [(t, .inr (2, [.ref ka, .ref na, .ref ga, .ref sa, .ref xr, .int size])), (ka, .inl (G.2.1 0, 1000, .inl kf)), (na, .inl (G.2.1 1, 1000, .inl nf)), (ga, .inl (G.2.1 1, 1000, .inl gf)), (sa, .inl (G.2.1 1, 1000, .inl sf)), (xr, .inr (1, [.ref xa, .int xsz])), (xa, .inl (G.2.1 0, 1000, .inl xf))] (fun (v : Int32) (u : Unit) => True) (fun (u : Unit) => [(t, .inr (2, [.ref ka, .ref na, .ref ga, .ref sa, .ref xr, .int size])), (ka, .inl (G.2.1 0, 1000, .inl kf)), (na, .inl (G.2.1 1, 1000, .inl nf)), (ga, .inl (G.2.1 1, 1000, .inl gf)), (sa, .inl (G.2.1 1, 1000, .inl sf)), (xr, .inr (1, [.ref xa, .int xsz])), (xa, .inl (G.2.1 0, 1000, .inl xf))]) 0 0 := by
  refine MI.of (cc := b_Tree_itemNode) (maxL := 5) (ty := .int) (C := R_Tree) (by decide +kernel) rfl (Nat.le_of_ble_eq_true rfl) ?_
  intro p e s m args below meth c A Q H ls hx hb hml hown hw hE hA hP hD hS ret hl
  have hl : lv_has ls 5 [(0, .ref t), (1, .int i), (2, .int k)] := hl
  have J_7 : ∀ (fu : Nat) (x4_7 : Int32) (x3_7 : Int32), (k.toInt - x4_7.toInt).toNat < fu → ∀ (H : Heap) (locs : List Loc), va_P G.1 vwCl [(t, .inr (2, [.ref ka, .ref na, .ref ga, .ref sa, .ref xr, .int size])), (ka, .inl (G.2.1 0, 1000, .inl kf)), (na, .inl (G.2.1 1, 1000, .inl nf)), (ga, .inl (G.2.1 1, 1000, .inl gf)), (sa, .inl (G.2.1 1, 1000, .inl sf)), (xr, .inr (1, [.ref xa, .int xsz])), (xa, .inl (G.2.1 0, 1000, .inl xf))] H → va_D A [(t, .inr (2, [.ref ka, .ref na, .ref ga, .ref sa, .ref xr, .int size])), (ka, .inl (G.2.1 0, 1000, .inl kf)), (na, .inl (G.2.1 1, 1000, .inl nf)), (ga, .inl (G.2.1 1, 1000, .inl gf)), (sa, .inl (G.2.1 1, 1000, .inl sf)), (xr, .inr (1, [.ref xa, .int xsz])), (xa, .inl (G.2.1 0, 1000, .inl xf))] → va_S A s.heap H locs → ∀ ls : Array Slot, lv_has ls 5 [(4, .int x4_7), (3, .int x3_7), (0, .ref t), (1, .int i), (2, .int k)] → W p l e rm_Tree_itemNode s m args below meth c H locs 0 0 Q (F0 m 7 ls []) := by
    intro fu
    induction fu with
    | zero =>
      intro x4_7 x3_7 hm
      exact absurd hm (Nat.not_lt_zero _)
    | succ fu ih_7 =>
      intro x4_7 x3_7 hm_7 H locs hP hD hS ls hl
      refine lv_iload hx hb d_Tree_itemNode_7 (lv_at hl 0 rfl) ?_
      refine lv_iload_n hx hb d_Tree_itemNode_9 rfl (lv_at hl 4 rfl) ?_
      refine lv_icmp_ge (tgt := 25) hx hb d_Tree_itemNode_10 (by decide) (fun c_1 => ?_) (fun c_1 => ?_)
      · refine lv_iload_n hx hb d_Tree_itemNode_25 rfl (lv_at hl 1 rfl) ?_
        exact ret x3_7 () (Nat.le_of_ble_eq_true rfl) (Nat.le_of_ble_eq_true rfl) d_Tree_itemNode_26 rfl trivial (hP.sub [0, 1, 2, 3, 4, 5, 6] rfl) (hD.sub [0, 1, 2, 3, 4, 5, 6] (by decide) rfl) hS
      · refine lv_aload_n hx hb d_Tree_itemNode_13 rfl (lv_at hl 2 rfl) ?_
        refine lv_iload_n hx hb d_Tree_itemNode_14 rfl (lv_at hl 1 rfl) ?_
        refine gc_i (wr := []) (gc_V (wc := [(t, .inr (2, [.ref ka, .ref na, .ref ga, .ref sa, .ref xr, .int size])), (ka, .inl (G.2.1 0, 1000, .inl kf)), (na, .inl (G.2.1 1, 1000, .inl nf)), (ga, .inl (G.2.1 1, 1000, .inl gf)), (sa, .inl (G.2.1 1, 1000, .inl sf)), (xr, .inr (1, [.ref xa, .int xsz])), (xa, .inl (G.2.1 0, 1000, .inl xf))]) (As := [.int x3_7]) (rest := []) ⟨hx, hb, hml, hown, hw⟩ (c_Tree_after l G t ka na ga sa xr xa kf nf gf sf size xsz xf x3_7 hs hxs H.size) (cwV 1 hw (good_V m_215 m_216 m_217 m_3 m_218) rfl rfl rfl hy_Tree_after ⟨Nat.le_of_ble_eq_true rfl, Nat.le_of_ble_eq_true rfl⟩) hE hP hD hS hA (va_recv hE.1 hP (ci := 2) (q0 := 0) rfl rfl) [0, 1, 2, 3, 4, 5, 6] rfl (by decide) rfl hl rfl (Nat.le_of_ble_eq_true rfl) d_Tree_itemNode_15 ⟨Nat.le_of_ble_eq_true rfl, Nat.le_of_ble_eq_true rfl⟩) hP hD hS hA [0, 1, 2, 3, 4, 5, 6] [] rfl rfl (by decide) (by decide) (fun r_2 u_3 H locs hw_4 hP hD hS => ?_)
        have hP : va_P G.1 vwCl [(t, .inr (2, [.ref ka, .ref na, .ref ga, .ref sa, .ref xr, .int size])), (ka, .inl (G.2.1 0, 1000, .inl kf)), (na, .inl (G.2.1 1, 1000, .inl nf)), (ga, .inl (G.2.1 1, 1000, .inl gf)), (sa, .inl (G.2.1 1, 1000, .inl sf)), (xr, .inr (1, [.ref xa, .int xsz])), (xa, .inl (G.2.1 0, 1000, .inl xf))] H := hP
        have hD : va_D A [(t, .inr (2, [.ref ka, .ref na, .ref ga, .ref sa, .ref xr, .int size])), (ka, .inl (G.2.1 0, 1000, .inl kf)), (na, .inl (G.2.1 1, 1000, .inl nf)), (ga, .inl (G.2.1 1, 1000, .inl gf)), (sa, .inl (G.2.1 1, 1000, .inl sf)), (xr, .inr (1, [.ref xa, .int xsz])), (xa, .inl (G.2.1 0, 1000, .inl xf))] := hD
        refine lv_istore_n (lv' := [(3, .int r_2), (4, .int x4_7), (0, .ref t), (1, .int i), (2, .int k)]) hx hb d_Tree_itemNode_18 rfl hl (by decide) rfl (fun ls hl => ?_)
        obtain ⟨y_5, ey_5⟩ : ∃ y : Int32, y = x4_7 + 1 := ⟨_, rfl⟩
        refine lv_iinc (v := y_5) (lv' := [(4, .int y_5), (3, .int r_2), (0, .ref t), (1, .int i), (2, .int k)]) hx hb d_Tree_itemNode_19 hl (k := 1) rfl (by rw [ey_5]; rfl) (by decide) rfl (fun ls hl => ?_)
        refine lv_goto (tgt := 7) hx hb d_Tree_itemNode_22 (by decide) ?_
        exact ih_7 y_5 r_2 (ms_up (by assumption) (by assumption) hm_7) _ _ (hP.sub [0, 1, 2, 3, 4, 5, 6] rfl) (hD.sub [0, 1, 2, 3, 4, 5, 6] (by decide) rfl) hS _ (lv_sub hl [0, 1, 2, 3, 4] rfl)
  refine lv_iload_n hx hb d_Tree_itemNode_0 rfl (lv_at hl 1 rfl) ?_
  refine lv_iconst (v := 1) hx hb d_Tree_itemNode_1 (by decide) ?_
  refine lv_iadd hx hb d_Tree_itemNode_2 ?_
  refine lv_topi (fun y_6 ey_6 => ?_)
  refine lv_istore_n (lv' := [(3, .int y_6), (0, .ref t), (1, .int i), (2, .int k)]) hx hb d_Tree_itemNode_3 rfl hl (by decide) rfl (fun ls hl => ?_)
  refine lv_iconst (v := 0) hx hb d_Tree_itemNode_4 (by decide) ?_
  refine lv_istore (lv' := [(4, .int 0), (3, .int y_6), (0, .ref t), (1, .int i), (2, .int k)]) hx hb d_Tree_itemNode_5 hl (by decide) rfl (fun ls hl => ?_)
  exact J_7 _ 0 y_6 (Nat.lt_succ_self _) _ _ (hP.sub [0, 1, 2, 3, 4, 5, 6] rfl) (hD.sub [0, 1, 2, 3, 4, 5, 6] (by decide) rfl) hS _ (lv_sub hl [0, 1, 2, 3, 4] rfl)
def rm_Tree_nameNode : Room := { frames := 2, cells := 0, slots := 0, locals := 42 }
set_option maxHeartbeats 4000000 in
set_option maxRecDepth 100000 in
theorem c_Tree_nameNode (l : Launch) (G : GG) (t : Nat) (ka : Nat) (na : Nat) (ga : Nat) (sa : Nat) (xr : Nat) (xa : Nat) (kf : Nat → Int32) (nf : Nat → Int32) (gf : Nat → Int32) (sf : Nat → Int32) (size : Int32) (xsz : Int32) (xf : Nat → Int32) (i : Int32) (k : Int32) (hs : RowOk 1000 size) (hxs : RowOk 1000 xsz) : MI l y_Tree_nameNode b_Tree_nameNode 5 .int rm_Tree_nameNode G [.ref t, .int i, .int k] [(t, .inr (2, [.ref ka, .ref na, .ref ga, .ref sa, .ref xr, .int size])), (ka, .inl (G.2.1 0, 1000, .inl kf)), (na, .inl (G.2.1 1, 1000, .inl nf)), (ga, .inl (G.2.1 1, 1000, .inl gf)), (sa, .inl (G.2.1 1, 1000, .inl sf)), (xr, .inr (1, [.ref xa, .int xsz])), (xa, .inl (G.2.1 0, 1000, .inl xf))] (fun (v : Int32) (u : Unit) => True) (fun (u : Unit) => [(t, .inr (2, [.ref ka, .ref na, .ref ga, .ref sa, .ref xr, .int size])), (ka, .inl (G.2.1 0, 1000, .inl kf)), (na, .inl (G.2.1 1, 1000, .inl nf)), (ga, .inl (G.2.1 1, 1000, .inl gf)), (sa, .inl (G.2.1 1, 1000, .inl sf)), (xr, .inr (1, [.ref xa, .int xsz])), (xa, .inl (G.2.1 0, 1000, .inl xf))]) 0 0 := by
  refine MI.of (cc := b_Tree_nameNode) (maxL := 5) (ty := .int) (C := R_Tree) (by decide +kernel) rfl (Nat.le_of_ble_eq_true rfl) ?_
  intro p e s m args below meth c A Q H ls hx hb hml hown hw hE hA hP hD hS ret hl
  have hl : lv_has ls 5 [(0, .ref t), (1, .int i), (2, .int k)] := hl
  have J_7 : ∀ (fu : Nat) (x4_7 : Int32) (x3_7 : Int32), (k.toInt - x4_7.toInt).toNat < fu → ∀ (H : Heap) (locs : List Loc), va_P G.1 vwCl [(t, .inr (2, [.ref ka, .ref na, .ref ga, .ref sa, .ref xr, .int size])), (ka, .inl (G.2.1 0, 1000, .inl kf)), (na, .inl (G.2.1 1, 1000, .inl nf)), (ga, .inl (G.2.1 1, 1000, .inl gf)), (sa, .inl (G.2.1 1, 1000, .inl sf)), (xr, .inr (1, [.ref xa, .int xsz])), (xa, .inl (G.2.1 0, 1000, .inl xf))] H → va_D A [(t, .inr (2, [.ref ka, .ref na, .ref ga, .ref sa, .ref xr, .int size])), (ka, .inl (G.2.1 0, 1000, .inl kf)), (na, .inl (G.2.1 1, 1000, .inl nf)), (ga, .inl (G.2.1 1, 1000, .inl gf)), (sa, .inl (G.2.1 1, 1000, .inl sf)), (xr, .inr (1, [.ref xa, .int xsz])), (xa, .inl (G.2.1 0, 1000, .inl xf))] → va_S A s.heap H locs → ∀ ls : Array Slot, lv_has ls 5 [(4, .int x4_7), (3, .int x3_7), (0, .ref t), (1, .int i), (2, .int k)] → W p l e rm_Tree_nameNode s m args below meth c H locs 0 0 Q (F0 m 7 ls []) := by
    intro fu
    induction fu with
    | zero =>
      intro x4_7 x3_7 hm
      exact absurd hm (Nat.not_lt_zero _)
    | succ fu ih_7 =>
      intro x4_7 x3_7 hm_7 H locs hP hD hS ls hl
      refine lv_iload hx hb d_Tree_nameNode_7 (lv_at hl 0 rfl) ?_
      refine lv_iload_n hx hb d_Tree_nameNode_9 rfl (lv_at hl 4 rfl) ?_
      refine lv_icmp_ge (tgt := 27) hx hb d_Tree_nameNode_10 (by decide) (fun c_1 => ?_) (fun c_1 => ?_)
      · refine lv_iload_n hx hb d_Tree_nameNode_27 rfl (lv_at hl 1 rfl) ?_
        exact ret x3_7 () (Nat.le_of_ble_eq_true rfl) (Nat.le_of_ble_eq_true rfl) d_Tree_nameNode_28 rfl trivial (hP.sub [0, 1, 2, 3, 4, 5, 6] rfl) (hD.sub [0, 1, 2, 3, 4, 5, 6] (by decide) rfl) hS
      · refine lv_aload_n hx hb d_Tree_nameNode_13 rfl (lv_at hl 2 rfl) ?_
        refine lv_iload_n hx hb d_Tree_nameNode_14 rfl (lv_at hl 1 rfl) ?_
        refine lv_iconst (v := 1) hx hb d_Tree_nameNode_15 (by decide) ?_
        refine lv_iadd hx hb d_Tree_nameNode_16 ?_
        refine lv_topi (fun y_2 ey_2 => ?_)
        refine gc_i (wr := []) (gc_V (wc := [(t, .inr (2, [.ref ka, .ref na, .ref ga, .ref sa, .ref xr, .int size])), (ka, .inl (G.2.1 0, 1000, .inl kf)), (na, .inl (G.2.1 1, 1000, .inl nf)), (ga, .inl (G.2.1 1, 1000, .inl gf)), (sa, .inl (G.2.1 1, 1000, .inl sf)), (xr, .inr (1, [.ref xa, .int xsz])), (xa, .inl (G.2.1 0, 1000, .inl xf))]) (As := [.int y_2]) (rest := []) ⟨hx, hb, hml, hown, hw⟩ (c_Tree_after l G t ka na ga sa xr xa kf nf gf sf size xsz xf y_2 hs hxs H.size) (cwV 1 hw (good_V m_215 m_216 m_217 m_3 m_218) rfl rfl rfl hy_Tree_after ⟨Nat.le_of_ble_eq_true rfl, Nat.le_of_ble_eq_true rfl⟩) hE hP hD hS hA (va_recv hE.1 hP (ci := 2) (q0 := 0) rfl rfl) [0, 1, 2, 3, 4, 5, 6] rfl (by decide) rfl hl rfl (Nat.le_of_ble_eq_true rfl) d_Tree_nameNode_17 ⟨Nat.le_of_ble_eq_true rfl, Nat.le_of_ble_eq_true rfl⟩) hP hD hS hA [0, 1, 2, 3, 4, 5, 6] [] rfl rfl (by decide) (by decide) (fun r_3 u_4 H locs hw_5 hP hD hS => ?_)
        have hP : va_P G.1 vwCl [(t, .inr (2, [.ref ka, .ref na, .ref ga, .ref sa, .ref xr, .int size])), (ka, .inl (G.2.1 0, 1000, .inl kf)), (na, .inl (G.2.1 1, 1000, .inl nf)), (ga, .inl (G.2.1 1, 1000, .inl gf)), (sa, .inl (G.2.1 1, 1000, .inl sf)), (xr, .inr (1, [.ref xa, .int xsz])), (xa, .inl (G.2.1 0, 1000, .inl xf))] H := hP
        have hD : va_D A [(t, .inr (2, [.ref ka, .ref na, .ref ga, .ref sa, .ref xr, .int size])), (ka, .inl (G.2.1 0, 1000, .inl kf)), (na, .inl (G.2.1 1, 1000, .inl nf)), (ga, .inl (G.2.1 1, 1000, .inl gf)), (sa, .inl (G.2.1 1, 1000, .inl sf)), (xr, .inr (1, [.ref xa, .int xsz])), (xa, .inl (G.2.1 0, 1000, .inl xf))] := hD
        refine lv_istore_n (lv' := [(3, .int r_3), (4, .int x4_7), (0, .ref t), (1, .int i), (2, .int k)]) hx hb d_Tree_nameNode_20 rfl hl (by decide) rfl (fun ls hl => ?_)
        obtain ⟨y_6, ey_6⟩ : ∃ y : Int32, y = x4_7 + 1 := ⟨_, rfl⟩
        refine lv_iinc (v := y_6) (lv' := [(4, .int y_6), (3, .int r_3), (0, .ref t), (1, .int i), (2, .int k)]) hx hb d_Tree_nameNode_21 hl (k := 1) rfl (by rw [ey_6]; rfl) (by decide) rfl (fun ls hl => ?_)
        refine lv_goto (tgt := 7) hx hb d_Tree_nameNode_24 (by decide) ?_
        exact ih_7 y_6 r_3 (ms_up (by assumption) (by assumption) hm_7) _ _ (hP.sub [0, 1, 2, 3, 4, 5, 6] rfl) (hD.sub [0, 1, 2, 3, 4, 5, 6] (by decide) rfl) hS _ (lv_sub hl [0, 1, 2, 3, 4] rfl)
  refine lv_iload_n hx hb d_Tree_nameNode_0 rfl (lv_at hl 1 rfl) ?_
  refine lv_iconst (v := 1) hx hb d_Tree_nameNode_1 (by decide) ?_
  refine lv_iadd hx hb d_Tree_nameNode_2 ?_
  refine lv_topi (fun y_7 ey_7 => ?_)
  refine lv_istore_n (lv' := [(3, .int y_7), (0, .ref t), (1, .int i), (2, .int k)]) hx hb d_Tree_nameNode_3 rfl hl (by decide) rfl (fun ls hl => ?_)
  refine lv_iconst (v := 0) hx hb d_Tree_nameNode_4 (by decide) ?_
  refine lv_istore (lv' := [(4, .int 0), (3, .int y_7), (0, .ref t), (1, .int i), (2, .int k)]) hx hb d_Tree_nameNode_5 hl (by decide) rfl (fun ls hl => ?_)
  exact J_7 _ 0 y_7 (Nat.lt_succ_self _) _ _ (hP.sub [0, 1, 2, 3, 4, 5, 6] rfl) (hD.sub [0, 1, 2, 3, 4, 5, 6] (by decide) rfl) hS _ (lv_sub hl [0, 1, 2, 3, 4] rfl)
def rm_Tree_part : Room := { frames := 3, cells := 0, slots := 0, locals := 66 }
set_option maxHeartbeats 4000000 in
set_option maxRecDepth 100000 in
theorem c_Tree_part (l : Launch) (G : GG) (t : Nat) (ka : Nat) (na : Nat) (ga : Nat) (sa : Nat) (xr : Nat) (xa : Nat) (kf : Nat → Int32) (nf : Nat → Int32) (gf : Nat → Int32) (sf : Nat → Int32) (size : Int32) (xsz : Int32) (xf : Nat → Int32) (i : Int32) (k : Int32) (hs : RowOk 1000 size) (hxs : RowOk 1000 xsz) : MI l y_Tree_part b_Tree_part 3 .int rm_Tree_part G [.ref t, .int i, .int k] [(t, .inr (2, [.ref ka, .ref na, .ref ga, .ref sa, .ref xr, .int size])), (ka, .inl (G.2.1 0, 1000, .inl kf)), (na, .inl (G.2.1 1, 1000, .inl nf)), (ga, .inl (G.2.1 1, 1000, .inl gf)), (sa, .inl (G.2.1 1, 1000, .inl sf)), (xr, .inr (1, [.ref xa, .int xsz])), (xa, .inl (G.2.1 0, 1000, .inl xf))] (fun (v : Int32) (u : Unit) => True) (fun (u : Unit) => [(t, .inr (2, [.ref ka, .ref na, .ref ga, .ref sa, .ref xr, .int size])), (ka, .inl (G.2.1 0, 1000, .inl kf)), (na, .inl (G.2.1 1, 1000, .inl nf)), (ga, .inl (G.2.1 1, 1000, .inl gf)), (sa, .inl (G.2.1 1, 1000, .inl sf)), (xr, .inr (1, [.ref xa, .int xsz])), (xa, .inl (G.2.1 0, 1000, .inl xf))]) 0 0 := by
  refine MI.of (cc := b_Tree_part) (maxL := 3) (ty := .int) (C := R_Tree) (by decide +kernel) rfl (Nat.le_of_ble_eq_true rfl) ?_
  intro p e s m args below meth c A Q H ls hx hb hml hown hw hE hA hP hD hS ret hl
  have hl : lv_has ls 3 [(0, .ref t), (1, .int i), (2, .int k)] := hl
  refine lv_iload_n hx hb d_Tree_part_0 rfl (lv_at hl 2 rfl) ?_
  refine lv_if_lt (tgt := 13) hx hb d_Tree_part_1 (by decide) (fun c_1 => ?_) (fun c_1 => ?_)
  · refine lv_bipush (v := (-2)) hx hb d_Tree_part_13 (by decide) ?_
    exact ret (-2) () (Nat.le_of_ble_eq_true rfl) (Nat.le_of_ble_eq_true rfl) d_Tree_part_15 rfl trivial (hP.sub [0, 1, 2, 3, 4, 5, 6] rfl) (hD.sub [0, 1, 2, 3, 4, 5, 6] (by decide) rfl) hS
  · refine lv_iload_n hx hb d_Tree_part_4 rfl (lv_at hl 2 rfl) ?_
    refine lv_aload_n hx hb d_Tree_part_5 rfl (lv_at hl 0 rfl) ?_
    refine lv_iload_n hx hb d_Tree_part_6 rfl (lv_at hl 1 rfl) ?_
    refine gc_i (wr := []) (gc_V (wc := [(t, .inr (2, [.ref ka, .ref na, .ref ga, .ref sa, .ref xr, .int size])), (ka, .inl (G.2.1 0, 1000, .inl kf)), (na, .inl (G.2.1 1, 1000, .inl nf)), (ga, .inl (G.2.1 1, 1000, .inl gf)), (sa, .inl (G.2.1 1, 1000, .inl sf)), (xr, .inr (1, [.ref xa, .int xsz])), (xa, .inl (G.2.1 0, 1000, .inl xf))]) (As := [.int i]) (rest := [.int k]) ⟨hx, hb, hml, hown, hw⟩ (c_Tree_number l G t ka na ga sa xr xa kf nf gf sf size xsz xf i hs hxs H.size) (cwV 1 hw (good_V m_203 m_204 m_205 m_3 m_206) rfl rfl rfl hy_Tree_number ⟨Nat.le_of_ble_eq_true rfl, Nat.le_of_ble_eq_true rfl⟩) hE hP hD hS hA (va_recv hE.1 hP (ci := 2) (q0 := 0) rfl rfl) [0, 1, 2, 3, 4, 5, 6] rfl (by decide) rfl hl rfl (Nat.le_of_ble_eq_true rfl) d_Tree_part_7 ⟨Nat.le_of_ble_eq_true rfl, Nat.le_of_ble_eq_true rfl⟩) hP hD hS hA [0, 1, 2, 3, 4, 5, 6] [] rfl rfl (by decide) (by decide) (fun r_2 u_3 H locs hw_4 hP hD hS => ?_)
    try dsimp only at hw_4
    have h_5 := hw_4
    subst h_5
    have hP : va_P G.1 vwCl [(t, .inr (2, [.ref ka, .ref na, .ref ga, .ref sa, .ref xr, .int size])), (ka, .inl (G.2.1 0, 1000, .inl kf)), (na, .inl (G.2.1 1, 1000, .inl nf)), (ga, .inl (G.2.1 1, 1000, .inl gf)), (sa, .inl (G.2.1 1, 1000, .inl sf)), (xr, .inr (1, [.ref xa, .int xsz])), (xa, .inl (G.2.1 0, 1000, .inl xf))] H := hP
    have hD : va_D A [(t, .inr (2, [.ref ka, .ref na, .ref ga, .ref sa, .ref xr, .int size])), (ka, .inl (G.2.1 0, 1000, .inl kf)), (na, .inl (G.2.1 1, 1000, .inl nf)), (ga, .inl (G.2.1 1, 1000, .inl gf)), (sa, .inl (G.2.1 1, 1000, .inl sf)), (xr, .inr (1, [.ref xa, .int xsz])), (xa, .inl (G.2.1 0, 1000, .inl xf))] := hD
    refine lv_icmp_lt (tgt := 16) hx hb d_Tree_part_10 (by decide) (fun c_6 => ?_) (fun c_6 => ?_)
    · refine lv_aload_n hx hb d_Tree_part_16 rfl (lv_at hl 0 rfl) ?_
      refine lv_iload_n hx hb d_Tree_part_17 rfl (lv_at hl 1 rfl) ?_
      refine gc_i (wr := []) (gc_V (wc := [(t, .inr (2, [.ref ka, .ref na, .ref ga, .ref sa, .ref xr, .int size])), (ka, .inl (G.2.1 0, 1000, .inl kf)), (na, .inl (G.2.1 1, 1000, .inl nf)), (ga, .inl (G.2.1 1, 1000, .inl gf)), (sa, .inl (G.2.1 1, 1000, .inl sf)), (xr, .inr (1, [.ref xa, .int xsz])), (xa, .inl (G.2.1 0, 1000, .inl xf))]) (As := [.int i]) (rest := []) ⟨hx, hb, hml, hown, hw⟩ (c_Tree_kind l G t ka na ga sa xr xa kf nf gf sf size xsz xf i hs hxs H.size) (cwV 1 hw (good_V m_195 m_196 m_197 m_3 m_198) rfl rfl rfl hy_Tree_kind ⟨Nat.le_of_ble_eq_true rfl, Nat.le_of_ble_eq_true rfl⟩) hE hP hD hS hA (va_recv hE.1 hP (ci := 2) (q0 := 0) rfl rfl) [0, 1, 2, 3, 4, 5, 6] rfl (by decide) rfl hl rfl (Nat.le_of_ble_eq_true rfl) d_Tree_part_18 ⟨Nat.le_of_ble_eq_true rfl, Nat.le_of_ble_eq_true rfl⟩) hP hD hS hA [0, 1, 2, 3, 4, 5, 6] [] rfl rfl (by decide) (by decide) (fun r_7 u_8 H locs hw_9 hP hD hS => ?_)
      have hP : va_P G.1 vwCl [(t, .inr (2, [.ref ka, .ref na, .ref ga, .ref sa, .ref xr, .int size])), (ka, .inl (G.2.1 0, 1000, .inl kf)), (na, .inl (G.2.1 1, 1000, .inl nf)), (ga, .inl (G.2.1 1, 1000, .inl gf)), (sa, .inl (G.2.1 1, 1000, .inl sf)), (xr, .inr (1, [.ref xa, .int xsz])), (xa, .inl (G.2.1 0, 1000, .inl xf))] H := hP
      have hD : va_D A [(t, .inr (2, [.ref ka, .ref na, .ref ga, .ref sa, .ref xr, .int size])), (ka, .inl (G.2.1 0, 1000, .inl kf)), (na, .inl (G.2.1 1, 1000, .inl nf)), (ga, .inl (G.2.1 1, 1000, .inl gf)), (sa, .inl (G.2.1 1, 1000, .inl sf)), (xr, .inr (1, [.ref xa, .int xsz])), (xa, .inl (G.2.1 0, 1000, .inl xf))] := hD
      refine lv_bipush (v := 7) hx hb d_Tree_part_21 (by decide) ?_
      refine lv_icmp_ne (tgt := 35) hx hb d_Tree_part_23 (by decide) (fun c_10 => ?_) (fun c_10 => ?_)
      · refine lv_aload_n hx hb d_Tree_part_35 rfl (lv_at hl 0 rfl) ?_
        refine lv_iload_n hx hb d_Tree_part_36 rfl (lv_at hl 1 rfl) ?_
        refine gc_i (wr := []) (gc_V (wc := [(t, .inr (2, [.ref ka, .ref na, .ref ga, .ref sa, .ref xr, .int size])), (ka, .inl (G.2.1 0, 1000, .inl kf)), (na, .inl (G.2.1 1, 1000, .inl nf)), (ga, .inl (G.2.1 1, 1000, .inl gf)), (sa, .inl (G.2.1 1, 1000, .inl sf)), (xr, .inr (1, [.ref xa, .int xsz])), (xa, .inl (G.2.1 0, 1000, .inl xf))]) (As := [.int i]) (rest := []) ⟨hx, hb, hml, hown, hw⟩ (c_Tree_kind l G t ka na ga sa xr xa kf nf gf sf size xsz xf i hs hxs H.size) (cwV 1 hw (good_V m_195 m_196 m_197 m_3 m_198) rfl rfl rfl hy_Tree_kind ⟨Nat.le_of_ble_eq_true rfl, Nat.le_of_ble_eq_true rfl⟩) hE hP hD hS hA (va_recv hE.1 hP (ci := 2) (q0 := 0) rfl rfl) [0, 1, 2, 3, 4, 5, 6] rfl (by decide) rfl hl rfl (Nat.le_of_ble_eq_true rfl) d_Tree_part_37 ⟨Nat.le_of_ble_eq_true rfl, Nat.le_of_ble_eq_true rfl⟩) hP hD hS hA [0, 1, 2, 3, 4, 5, 6] [] rfl rfl (by decide) (by decide) (fun r_11 u_12 H locs hw_13 hP hD hS => ?_)
        have hP : va_P G.1 vwCl [(t, .inr (2, [.ref ka, .ref na, .ref ga, .ref sa, .ref xr, .int size])), (ka, .inl (G.2.1 0, 1000, .inl kf)), (na, .inl (G.2.1 1, 1000, .inl nf)), (ga, .inl (G.2.1 1, 1000, .inl gf)), (sa, .inl (G.2.1 1, 1000, .inl sf)), (xr, .inr (1, [.ref xa, .int xsz])), (xa, .inl (G.2.1 0, 1000, .inl xf))] H := hP
        have hD : va_D A [(t, .inr (2, [.ref ka, .ref na, .ref ga, .ref sa, .ref xr, .int size])), (ka, .inl (G.2.1 0, 1000, .inl kf)), (na, .inl (G.2.1 1, 1000, .inl nf)), (ga, .inl (G.2.1 1, 1000, .inl gf)), (sa, .inl (G.2.1 1, 1000, .inl sf)), (xr, .inr (1, [.ref xa, .int xsz])), (xa, .inl (G.2.1 0, 1000, .inl xf))] := hD
        refine lv_bipush (v := 6) hx hb d_Tree_part_40 (by decide) ?_
        refine lv_icmp_ne (tgt := 54) hx hb d_Tree_part_42 (by decide) (fun c_14 => ?_) (fun c_14 => ?_)
        · refine lv_bipush (v := (-2)) hx hb d_Tree_part_54 (by decide) ?_
          exact ret (-2) () (Nat.le_of_ble_eq_true rfl) (Nat.le_of_ble_eq_true rfl) d_Tree_part_56 rfl trivial (hP.sub [0, 1, 2, 3, 4, 5, 6] rfl) (hD.sub [0, 1, 2, 3, 4, 5, 6] (by decide) rfl) hS
        · refine lv_aload_n hx hb d_Tree_part_45 rfl (lv_at hl 0 rfl) ?_
          refine lv_iload_n hx hb d_Tree_part_46 rfl (lv_at hl 1 rfl) ?_
          refine lv_iload_n hx hb d_Tree_part_47 rfl (lv_at hl 2 rfl) ?_
          refine gc_i (wr := []) (gc_V (wc := [(t, .inr (2, [.ref ka, .ref na, .ref ga, .ref sa, .ref xr, .int size])), (ka, .inl (G.2.1 0, 1000, .inl kf)), (na, .inl (G.2.1 1, 1000, .inl nf)), (ga, .inl (G.2.1 1, 1000, .inl gf)), (sa, .inl (G.2.1 1, 1000, .inl sf)), (xr, .inr (1, [.ref xa, .int xsz])), (xa, .inl (G.2.1 0, 1000, .inl xf))]) (As := [.int i, .int k]) (rest := []) ⟨hx, hb, hml, hown, hw⟩ (c_Tree_itemNode l G t ka na ga sa xr xa kf nf gf sf size xsz xf i k hs hxs H.size) (cwV 2 hw (good_V m_413 m_415 ms_29 m_3 m_416) rfl rfl rfl hy_Tree_itemNode ⟨Nat.le_of_ble_eq_true rfl, Nat.le_of_ble_eq_true rfl⟩) hE hP hD hS hA (va_recv hE.1 hP (ci := 2) (q0 := 0) rfl rfl) [0, 1, 2, 3, 4, 5, 6] rfl (by decide) rfl hl rfl (Nat.le_of_ble_eq_true rfl) d_Tree_part_48 ⟨Nat.le_of_ble_eq_true rfl, Nat.le_of_ble_eq_true rfl⟩) hP hD hS hA [0, 1, 2, 3, 4, 5, 6] [] rfl rfl (by decide) (by decide) (fun r_15 u_16 H locs hw_17 hP hD hS => ?_)
          have hP : va_P G.1 vwCl [(t, .inr (2, [.ref ka, .ref na, .ref ga, .ref sa, .ref xr, .int size])), (ka, .inl (G.2.1 0, 1000, .inl kf)), (na, .inl (G.2.1 1, 1000, .inl nf)), (ga, .inl (G.2.1 1, 1000, .inl gf)), (sa, .inl (G.2.1 1, 1000, .inl sf)), (xr, .inr (1, [.ref xa, .int xsz])), (xa, .inl (G.2.1 0, 1000, .inl xf))] H := hP
          have hD : va_D A [(t, .inr (2, [.ref ka, .ref na, .ref ga, .ref sa, .ref xr, .int size])), (ka, .inl (G.2.1 0, 1000, .inl kf)), (na, .inl (G.2.1 1, 1000, .inl nf)), (ga, .inl (G.2.1 1, 1000, .inl gf)), (sa, .inl (G.2.1 1, 1000, .inl sf)), (xr, .inr (1, [.ref xa, .int xsz])), (xa, .inl (G.2.1 0, 1000, .inl xf))] := hD
          refine lv_goto (tgt := 56) hx hb d_Tree_part_51 (by decide) ?_
          exact ret r_15 () (Nat.le_of_ble_eq_true rfl) (Nat.le_of_ble_eq_true rfl) d_Tree_part_56 rfl trivial (hP.sub [0, 1, 2, 3, 4, 5, 6] rfl) (hD.sub [0, 1, 2, 3, 4, 5, 6] (by decide) rfl) hS
      · refine lv_aload_n hx hb d_Tree_part_26 rfl (lv_at hl 0 rfl) ?_
        refine lv_iload_n hx hb d_Tree_part_27 rfl (lv_at hl 1 rfl) ?_
        refine lv_iload_n hx hb d_Tree_part_28 rfl (lv_at hl 2 rfl) ?_
        refine gc_i (wr := []) (gc_V (wc := [(t, .inr (2, [.ref ka, .ref na, .ref ga, .ref sa, .ref xr, .int size])), (ka, .inl (G.2.1 0, 1000, .inl kf)), (na, .inl (G.2.1 1, 1000, .inl nf)), (ga, .inl (G.2.1 1, 1000, .inl gf)), (sa, .inl (G.2.1 1, 1000, .inl sf)), (xr, .inr (1, [.ref xa, .int xsz])), (xa, .inl (G.2.1 0, 1000, .inl xf))]) (As := [.int i, .int k]) (rest := []) ⟨hx, hb, hml, hown, hw⟩ (c_Tree_nameNode l G t ka na ga sa xr xa kf nf gf sf size xsz xf i k hs hxs H.size) (cwV 2 hw (good_V m_409 m_411 ms_28 m_3 m_412) rfl rfl rfl hy_Tree_nameNode ⟨Nat.le_of_ble_eq_true rfl, Nat.le_of_ble_eq_true rfl⟩) hE hP hD hS hA (va_recv hE.1 hP (ci := 2) (q0 := 0) rfl rfl) [0, 1, 2, 3, 4, 5, 6] rfl (by decide) rfl hl rfl (Nat.le_of_ble_eq_true rfl) d_Tree_part_29 ⟨Nat.le_of_ble_eq_true rfl, Nat.le_of_ble_eq_true rfl⟩) hP hD hS hA [0, 1, 2, 3, 4, 5, 6] [] rfl rfl (by decide) (by decide) (fun r_18 u_19 H locs hw_20 hP hD hS => ?_)
        have hP : va_P G.1 vwCl [(t, .inr (2, [.ref ka, .ref na, .ref ga, .ref sa, .ref xr, .int size])), (ka, .inl (G.2.1 0, 1000, .inl kf)), (na, .inl (G.2.1 1, 1000, .inl nf)), (ga, .inl (G.2.1 1, 1000, .inl gf)), (sa, .inl (G.2.1 1, 1000, .inl sf)), (xr, .inr (1, [.ref xa, .int xsz])), (xa, .inl (G.2.1 0, 1000, .inl xf))] H := hP
        have hD : va_D A [(t, .inr (2, [.ref ka, .ref na, .ref ga, .ref sa, .ref xr, .int size])), (ka, .inl (G.2.1 0, 1000, .inl kf)), (na, .inl (G.2.1 1, 1000, .inl nf)), (ga, .inl (G.2.1 1, 1000, .inl gf)), (sa, .inl (G.2.1 1, 1000, .inl sf)), (xr, .inr (1, [.ref xa, .int xsz])), (xa, .inl (G.2.1 0, 1000, .inl xf))] := hD
        refine lv_iconst (v := 1) hx hb d_Tree_part_32 (by decide) ?_
        refine lv_iadd hx hb d_Tree_part_33 ?_
        refine lv_topi (fun y_21 ey_21 => ?_)
        exact ret y_21 () (Nat.le_of_ble_eq_true rfl) (Nat.le_of_ble_eq_true rfl) d_Tree_part_34 rfl trivial (hP.sub [0, 1, 2, 3, 4, 5, 6] rfl) (hD.sub [0, 1, 2, 3, 4, 5, 6] (by decide) rfl) hS
    · refine lv_bipush (v := (-2)) hx hb d_Tree_part_13 (by decide) ?_
      exact ret (-2) () (Nat.le_of_ble_eq_true rfl) (Nat.le_of_ble_eq_true rfl) d_Tree_part_15 rfl trivial (hP.sub [0, 1, 2, 3, 4, 5, 6] rfl) (hD.sub [0, 1, 2, 3, 4, 5, 6] (by decide) rfl) hS
def rm_Tree_valueNamed : Room := { frames := 2, cells := 0, slots := 0, locals := 46 }
set_option maxHeartbeats 4000000 in
set_option maxRecDepth 100000 in
theorem c_Tree_valueNamed (l : Launch) (G : GG) (t : Nat) (ka : Nat) (na : Nat) (ga : Nat) (sa : Nat) (xr : Nat) (xa : Nat) (kf : Nat → Int32) (nf : Nat → Int32) (gf : Nat → Int32) (sf : Nat → Int32) (size : Int32) (xsz : Int32) (xf : Nat → Int32) (r1 : Nat) (a1 : Nat) (N1 : Nat) (sz1 : Int32) (f1 : Nat → Int32) (i : Int32) (j : Int32) (n : Int32) (hs : RowOk 1000 size) (hxs : RowOk 1000 xsz) (hN1 : N1 ≤ 2000) (hok1 : RowOk N1 sz1) : MI l y_Tree_valueNamed b_Tree_valueNamed 8 .int rm_Tree_valueNamed G [.ref t, .int i, .ref r1, .int j, .int n] [(t, .inr (2, [.ref ka, .ref na, .ref ga, .ref sa, .ref xr, .int size])), (ka, .inl (G.2.1 0, 1000, .inl kf)), (na, .inl (G.2.1 1, 1000, .inl nf)), (ga, .inl (G.2.1 1, 1000, .inl gf)), (sa, .inl (G.2.1 1, 1000, .inl sf)), (xr, .inr (1, [.ref xa, .int xsz])), (xa, .inl (G.2.1 0, 1000, .inl xf)), (r1, .inr (1, [.ref a1, .int sz1])), (a1, .inl (G.2.1 0, N1, .inl f1))] (fun (v : Int32) (u : Unit) => True) (fun (u : Unit) => [(t, .inr (2, [.ref ka, .ref na, .ref ga, .ref sa, .ref xr, .int size])), (ka, .inl (G.2.1 0, 1000, .inl kf)), (na, .inl (G.2.1 1, 1000, .inl nf)), (ga, .inl (G.2.1 1, 1000, .inl gf)), (sa, .inl (G.2.1 1, 1000, .inl sf)), (xr, .inr (1, [.ref xa, .int xsz])), (xa, .inl (G.2.1 0, 1000, .inl xf)), (r1, .inr (1, [.ref a1, .int sz1])), (a1, .inl (G.2.1 0, N1, .inl f1))]) 0 0 := by
  refine MI.of (cc := b_Tree_valueNamed) (maxL := 8) (ty := .int) (C := R_Tree) (by decide +kernel) rfl (Nat.le_of_ble_eq_true rfl) ?_
  intro p e s m args below meth c A Q H ls hx hb hml hown hw hE hA hP hD hS ret hl
  have hl : lv_has ls 8 [(0, .ref t), (1, .int i), (2, .ref r1), (3, .int j), (4, .int n)] := hl
  have J_29 : ∀ (fu : Nat) (x7_29 : Int32) (x6_29 : Int32) (x5_29 : Int32), (x5_29.toInt - x7_29.toInt).toNat < fu → ∀ (H : Heap) (locs : List Loc), va_P G.1 vwCl [(r1, .inr (1, [.ref a1, .int sz1])), (a1, .inl (G.2.1 0, N1, .inl f1)), (t, .inr (2, [.ref ka, .ref na, .ref ga, .ref sa, .ref xr, .int size])), (ka, .inl (G.2.1 0, 1000, .inl kf)), (na, .inl (G.2.1 1, 1000, .inl nf)), (ga, .inl (G.2.1 1, 1000, .inl gf)), (sa, .inl (G.2.1 1, 1000, .inl sf)), (xr, .inr (1, [.ref xa, .int xsz])), (xa, .inl (G.2.1 0, 1000, .inl xf))] H → va_D A [(r1, .inr (1, [.ref a1, .int sz1])), (a1, .inl (G.2.1 0, N1, .inl f1)), (t, .inr (2, [.ref ka, .ref na, .ref ga, .ref sa, .ref xr, .int size])), (ka, .inl (G.2.1 0, 1000, .inl kf)), (na, .inl (G.2.1 1, 1000, .inl nf)), (ga, .inl (G.2.1 1, 1000, .inl gf)), (sa, .inl (G.2.1 1, 1000, .inl sf)), (xr, .inr (1, [.ref xa, .int xsz])), (xa, .inl (G.2.1 0, 1000, .inl xf))] → va_S A s.heap H locs → ∀ ls : Array Slot, lv_has ls 8 [(7, .int x7_29), (6, .int x6_29), (5, .int x5_29), (0, .ref t), (1, .int i), (2, .ref r1), (3, .int j), (4, .int n)] → W p l e rm_Tree_valueNamed s m args below meth c H locs 0 0 Q (F0 m 29 ls []) := by
    intro fu
    induction fu with
    | zero =>
      intro x7_29 x6_29 x5_29 hm
      exact absurd hm (Nat.not_lt_zero _)
    | succ fu ih_29 =>
      intro x7_29 x6_29 x5_29 hm_29 H locs hP hD hS ls hl
      have J_72 : ∀ (hk0_72 : ¬ x5_29 ≤ x7_29) (H : Heap) (locs : List Loc), va_P G.1 vwCl [(r1, .inr (1, [.ref a1, .int sz1])), (a1, .inl (G.2.1 0, N1, .inl f1)), (t, .inr (2, [.ref ka, .ref na, .ref ga, .ref sa, .ref xr, .int size])), (ka, .inl (G.2.1 0, 1000, .inl kf)), (na, .inl (G.2.1 1, 1000, .inl nf)), (ga, .inl (G.2.1 1, 1000, .inl gf)), (sa, .inl (G.2.1 1, 1000, .inl sf)), (xr, .inr (1, [.ref xa, .int xsz])), (xa, .inl (G.2.1 0, 1000, .inl xf))] H → va_D A [(r1, .inr (1, [.ref a1, .int sz1])), (a1, .inl (G.2.1 0, N1, .inl f1)), (t, .inr (2, [.ref ka, .ref na, .ref ga, .ref sa, .ref xr, .int size])), (ka, .inl (G.2.1 0, 1000, .inl kf)), (na, .inl (G.2.1 1, 1000, .inl nf)), (ga, .inl (G.2.1 1, 1000, .inl gf)), (sa, .inl (G.2.1 1, 1000, .inl sf)), (xr, .inr (1, [.ref xa, .int xsz])), (xa, .inl (G.2.1 0, 1000, .inl xf))] → va_S A s.heap H locs → ∀ ls : Array Slot, lv_has ls 8 [(7, .int x7_29), (6, .int x6_29), (5, .int x5_29), (0, .ref t), (1, .int i), (2, .ref r1), (3, .int j), (4, .int n)] → W p l e rm_Tree_valueNamed s m args below meth c H locs 0 0 Q (F0 m 72 ls []) := by
        intro hk0_72 H locs hP hD hS ls hl
        refine lv_aload_n hx hb d_Tree_valueNamed_72 rfl (lv_at hl 3 rfl) ?_
        refine lv_iload hx hb d_Tree_valueNamed_73 (lv_at hl 1 rfl) ?_
        refine lv_iconst (v := 1) hx hb d_Tree_valueNamed_75 (by decide) ?_
        refine lv_iadd hx hb d_Tree_valueNamed_76 ?_
        refine lv_topi (fun y_1 ey_1 => ?_)
        refine gc_i (wr := [(r1, .inr (1, [.ref a1, .int sz1])), (a1, .inl (G.2.1 0, N1, .inl f1))]) (gc_V (wc := [(t, .inr (2, [.ref ka, .ref na, .ref ga, .ref sa, .ref xr, .int size])), (ka, .inl (G.2.1 0, 1000, .inl kf)), (na, .inl (G.2.1 1, 1000, .inl nf)), (ga, .inl (G.2.1 1, 1000, .inl gf)), (sa, .inl (G.2.1 1, 1000, .inl sf)), (xr, .inr (1, [.ref xa, .int xsz])), (xa, .inl (G.2.1 0, 1000, .inl xf))]) (As := [.int y_1]) (rest := []) ⟨hx, hb, hml, hown, hw⟩ (c_Tree_after l G t ka na ga sa xr xa kf nf gf sf size xsz xf y_1 hs hxs H.size) (cwV 1 hw (good_V m_215 m_216 m_217 m_3 m_218) rfl rfl rfl hy_Tree_after ⟨Nat.le_of_ble_eq_true rfl, Nat.le_of_ble_eq_true rfl⟩) hE hP hD hS hA (va_recv hE.1 hP (ci := 2) (q0 := 2) rfl rfl) [2, 3, 4, 5, 6, 7, 8] rfl (by decide) rfl hl rfl (Nat.le_of_ble_eq_true rfl) d_Tree_valueNamed_77 ⟨Nat.le_of_ble_eq_true rfl, Nat.le_of_ble_eq_true rfl⟩) hP hD hS hA [2, 3, 4, 5, 6, 7, 8] [0, 1] rfl rfl (by decide) (by decide) (fun r_2 u_3 H locs hw_4 hP hD hS => ?_)
        have hP : va_P G.1 vwCl [(r1, .inr (1, [.ref a1, .int sz1])), (a1, .inl (G.2.1 0, N1, .inl f1)), (t, .inr (2, [.ref ka, .ref na, .ref ga, .ref sa, .ref xr, .int size])), (ka, .inl (G.2.1 0, 1000, .inl kf)), (na, .inl (G.2.1 1, 1000, .inl nf)), (ga, .inl (G.2.1 1, 1000, .inl gf)), (sa, .inl (G.2.1 1, 1000, .inl sf)), (xr, .inr (1, [.ref xa, .int xsz])), (xa, .inl (G.2.1 0, 1000, .inl xf))] H := hP
        have hD : va_D A [(r1, .inr (1, [.ref a1, .int sz1])), (a1, .inl (G.2.1 0, N1, .inl f1)), (t, .inr (2, [.ref ka, .ref na, .ref ga, .ref sa, .ref xr, .int size])), (ka, .inl (G.2.1 0, 1000, .inl kf)), (na, .inl (G.2.1 1, 1000, .inl nf)), (ga, .inl (G.2.1 1, 1000, .inl gf)), (sa, .inl (G.2.1 1, 1000, .inl sf)), (xr, .inr (1, [.ref xa, .int xsz])), (xa, .inl (G.2.1 0, 1000, .inl xf))] := hD
        refine lv_istore (lv' := [(6, .int r_2), (7, .int x7_29), (5, .int x5_29), (0, .ref t), (1, .int i), (2, .ref r1), (3, .int j), (4, .int n)]) hx hb d_Tree_valueNamed_80 hl (by decide) rfl (fun ls hl => ?_)
        obtain ⟨y_5, ey_5⟩ : ∃ y : Int32, y = x7_29 + 1 := ⟨_, rfl⟩
        refine lv_iinc (v := y_5) (lv' := [(7, .int y_5), (6, .int r_2), (5, .int x5_29), (0, .ref t), (1, .int i), (2, .ref r1), (3, .int j), (4, .int n)]) hx hb d_Tree_valueNamed_82 hl (k := 1) rfl (by rw [ey_5]; rfl) (by decide) rfl (fun ls hl => ?_)
        refine lv_goto (tgt := 29) hx hb d_Tree_valueNamed_85 (by decide) ?_
        exact ih_29 y_5 r_2 x5_29 (ms_up (by assumption) (by assumption) hm_29) _ _ (hP.sub [0, 1, 2, 3, 4, 5, 6, 7, 8] rfl) (hD.sub [0, 1, 2, 3, 4, 5, 6, 7, 8] (by decide) rfl) hS _ (lv_sub hl [0, 1, 2, 3, 4, 5, 6, 7] rfl)
      refine lv_iload hx hb d_Tree_valueNamed_29 (lv_at hl 0 rfl) ?_
      refine lv_iload hx hb d_Tree_valueNamed_31 (lv_at hl 2 rfl) ?_
      refine lv_icmp_ge (tgt := 88) hx hb d_Tree_valueNamed_33 (by decide) (fun c_6 => ?_) (fun c_6 => ?_)
      · refine lv_bipush (v := (-2)) hx hb d_Tree_valueNamed_88 (by decide) ?_
        exact ret (-2) () (Nat.le_of_ble_eq_true rfl) (Nat.le_of_ble_eq_true rfl) d_Tree_valueNamed_90 rfl trivial (hP.sub [2, 3, 4, 5, 6, 7, 8, 0, 1] rfl) (hD.sub [2, 3, 4, 5, 6, 7, 8, 0, 1] (by decide) rfl) hS
      · refine lv_aload_n hx hb d_Tree_valueNamed_36 rfl (lv_at hl 3 rfl) ?_
        refine lv_iload hx hb d_Tree_valueNamed_37 (lv_at hl 1 rfl) ?_
        refine gc_i (wr := [(r1, .inr (1, [.ref a1, .int sz1])), (a1, .inl (G.2.1 0, N1, .inl f1))]) (gc_V (wc := [(t, .inr (2, [.ref ka, .ref na, .ref ga, .ref sa, .ref xr, .int size])), (ka, .inl (G.2.1 0, 1000, .inl kf)), (na, .inl (G.2.1 1, 1000, .inl nf)), (ga, .inl (G.2.1 1, 1000, .inl gf)), (sa, .inl (G.2.1 1, 1000, .inl sf)), (xr, .inr (1, [.ref xa, .int xsz])), (xa, .inl (G.2.1 0, 1000, .inl xf))]) (As := [.int x6_29]) (rest := []) ⟨hx, hb, hml, hown, hw⟩ (c_Tree_number l G t ka na ga sa xr xa kf nf gf sf size xsz xf x6_29 hs hxs H.size) (cwV 1 hw (good_V m_203 m_204 m_205 m_3 m_206) rfl rfl rfl hy_Tree_number ⟨Nat.le_of_ble_eq_true rfl, Nat.le_of_ble_eq_true rfl⟩) hE hP hD hS hA (va_recv hE.1 hP (ci := 2) (q0 := 2) rfl rfl) [2, 3, 4, 5, 6, 7, 8] rfl (by decide) rfl hl rfl (Nat.le_of_ble_eq_true rfl) d_Tree_valueNamed_39 ⟨Nat.le_of_ble_eq_true rfl, Nat.le_of_ble_eq_true rfl⟩) hP hD hS hA [2, 3, 4, 5, 6, 7, 8] [0, 1] rfl rfl (by decide) (by decide) (fun r_7 u_8 H locs hw_9 hP hD hS => ?_)
        try dsimp only at hw_9
        have h_10 := hw_9
        subst h_10
        have hP : va_P G.1 vwCl [(r1, .inr (1, [.ref a1, .int sz1])), (a1, .inl (G.2.1 0, N1, .inl f1)), (t, .inr (2, [.ref ka, .ref na, .ref ga, .ref sa, .ref xr, .int size])), (ka, .inl (G.2.1 0, 1000, .inl kf)), (na, .inl (G.2.1 1, 1000, .inl nf)), (ga, .inl (G.2.1 1, 1000, .inl gf)), (sa, .inl (G.2.1 1, 1000, .inl sf)), (xr, .inr (1, [.ref xa, .int xsz])), (xa, .inl (G.2.1 0, 1000, .inl xf))] H := hP
        have hD : va_D A [(r1, .inr (1, [.ref a1, .int sz1])), (a1, .inl (G.2.1 0, N1, .inl f1)), (t, .inr (2, [.ref ka, .ref na, .ref ga, .ref sa, .ref xr, .int size])), (ka, .inl (G.2.1 0, 1000, .inl kf)), (na, .inl (G.2.1 1, 1000, .inl nf)), (ga, .inl (G.2.1 1, 1000, .inl gf)), (sa, .inl (G.2.1 1, 1000, .inl sf)), (xr, .inr (1, [.ref xa, .int xsz])), (xa, .inl (G.2.1 0, 1000, .inl xf))] := hD
        refine lv_iload hx hb d_Tree_valueNamed_42 (lv_at hl 7 rfl) ?_
        refine lv_icmp_ne (tgt := 72) hx hb d_Tree_valueNamed_44 (by decide) (fun c_11 => ?_) (fun c_11 => ?_)
        · exact J_72 (by first | assumption | trivial | (try dsimp only; omega)) _ _ (hP.sub [0, 1, 2, 3, 4, 5, 6, 7, 8] rfl) (hD.sub [0, 1, 2, 3, 4, 5, 6, 7, 8] (by decide) rfl) hS _ (lv_sub hl [0, 1, 2, 3, 4, 5, 6, 7] rfl)
        · refine lv_aload_n hx hb d_Tree_valueNamed_47 rfl (lv_at hl 3 rfl) ?_
          refine va_get (D := G.1) (ci := 2) (v := .ref xr) (C := R_Tree) (T := F_Tree) (N := 6) hx hb hw i_Tree hown hE.1 hP 2 rfl rfl 4 (by decide) (hw _ m_49) (fun _ h9 => h9) rfl d_Tree_valueNamed_48 ?_
          refine lv_aload_n hx hb d_Tree_valueNamed_51 rfl (lv_at hl 3 rfl) ?_
          refine lv_iload hx hb d_Tree_valueNamed_52 (lv_at hl 1 rfl) ?_
          refine gc_i (wr := [(r1, .inr (1, [.ref a1, .int sz1])), (a1, .inl (G.2.1 0, N1, .inl f1))]) (gc_V (wc := [(t, .inr (2, [.ref ka, .ref na, .ref ga, .ref sa, .ref xr, .int size])), (ka, .inl (G.2.1 0, 1000, .inl kf)), (na, .inl (G.2.1 1, 1000, .inl nf)), (ga, .inl (G.2.1 1, 1000, .inl gf)), (sa, .inl (G.2.1 1, 1000, .inl sf)), (xr, .inr (1, [.ref xa, .int xsz])), (xa, .inl (G.2.1 0, 1000, .inl xf))]) (As := [.int x6_29]) (rest := [.ref xr]) ⟨hx, hb, hml, hown, hw⟩ (c_Tree_other l G t ka na ga sa xr xa kf nf gf sf size xsz xf x6_29 hs hxs H.size) (cwV 1 hw (good_V m_207 m_208 m_209 m_3 m_210) rfl rfl rfl hy_Tree_other ⟨Nat.le_of_ble_eq_true rfl, Nat.le_of_ble_eq_true rfl⟩) hE hP hD hS hA (va_recv hE.1 hP (ci := 2) (q0 := 2) rfl rfl) [2, 3, 4, 5, 6, 7, 8] rfl (by decide) rfl hl rfl (Nat.le_of_ble_eq_true rfl) d_Tree_valueNamed_54 ⟨Nat.le_of_ble_eq_true rfl, Nat.le_of_ble_eq_true rfl⟩) hP hD hS hA [2, 3, 4, 5, 6, 7, 8] [0, 1] rfl rfl (by decide) (by decide) (fun r_12 u_13 H locs hw_14 hP hD hS => ?_)
          have hP : va_P G.1 vwCl [(r1, .inr (1, [.ref a1, .int sz1])), (a1, .inl (G.2.1 0, N1, .inl f1)), (t, .inr (2, [.ref ka, .ref na, .ref ga, .ref sa, .ref xr, .int size])), (ka, .inl (G.2.1 0, 1000, .inl kf)), (na, .inl (G.2.1 1, 1000, .inl nf)), (ga, .inl (G.2.1 1, 1000, .inl gf)), (sa, .inl (G.2.1 1, 1000, .inl sf)), (xr, .inr (1, [.ref xa, .int xsz])), (xa, .inl (G.2.1 0, 1000, .inl xf))] H := hP
          have hD : va_D A [(r1, .inr (1, [.ref a1, .int sz1])), (a1, .inl (G.2.1 0, N1, .inl f1)), (t, .inr (2, [.ref ka, .ref na, .ref ga, .ref sa, .ref xr, .int size])), (ka, .inl (G.2.1 0, 1000, .inl kf)), (na, .inl (G.2.1 1, 1000, .inl nf)), (ga, .inl (G.2.1 1, 1000, .inl gf)), (sa, .inl (G.2.1 1, 1000, .inl sf)), (xr, .inr (1, [.ref xa, .int xsz])), (xa, .inl (G.2.1 0, 1000, .inl xf))] := hD
          refine lv_aload_n hx hb d_Tree_valueNamed_57 rfl (lv_at hl 5 rfl) ?_
          refine lv_iload_n hx hb d_Tree_valueNamed_58 rfl (lv_at hl 6 rfl) ?_
          refine lv_iload hx hb d_Tree_valueNamed_59 (lv_at hl 7 rfl) ?_
          refine gc_i (wr := [(t, .inr (2, [.ref ka, .ref na, .ref ga, .ref sa, .ref xr, .int size])), (ka, .inl (G.2.1 0, 1000, .inl kf)), (na, .inl (G.2.1 1, 1000, .inl nf)), (ga, .inl (G.2.1 1, 1000, .inl gf)), (sa, .inl (G.2.1 1, 1000, .inl sf))]) (gc_V (wc := [(xr, .inr (1, [.ref xa, .int xsz])), (xa, .inl (G.2.1 0, 1000, .inl xf)), (r1, .inr (1, [.ref a1, .int sz1])), (a1, .inl (G.2.1 0, N1, .inl f1))]) (As := [.int r_12, .ref r1, .int j, .int n]) (rest := []) ⟨hx, hb, hml, hown, hw⟩ (c_Row_hasAt l G xr xa 1000 xsz xf r1 a1 N1 sz1 f1 r_12 j n (by decide) hxs hN1 hok1 H.size) (cwV 4 hw (good_V m_211 m_212 m_213 m_2 m_214) rfl rfl rfl hy_Row_hasAt ⟨Nat.le_of_ble_eq_true rfl, Nat.le_of_ble_eq_true rfl⟩) hE hP hD hS hA (va_recv hE.1 hP (ci := 1) (q0 := 7) rfl rfl) [7, 8, 0, 1] rfl (by decide) rfl hl rfl (Nat.le_of_ble_eq_true rfl) d_Tree_valueNamed_61 ⟨Nat.le_of_ble_eq_true rfl, Nat.le_of_ble_eq_true rfl⟩) hP hD hS hA [7, 8, 0, 1] [2, 3, 4, 5, 6] rfl rfl (by decide) (by decide) (fun r_15 u_16 H locs hw_17 hP hD hS => ?_)
          try dsimp only at hw_17
          have h_18 := hw_17
          have hP : va_P G.1 vwCl [(t, .inr (2, [.ref ka, .ref na, .ref ga, .ref sa, .ref xr, .int size])), (ka, .inl (G.2.1 0, 1000, .inl kf)), (na, .inl (G.2.1 1, 1000, .inl nf)), (ga, .inl (G.2.1 1, 1000, .inl gf)), (sa, .inl (G.2.1 1, 1000, .inl sf)), (xr, .inr (1, [.ref xa, .int xsz])), (xa, .inl (G.2.1 0, 1000, .inl xf)), (r1, .inr (1, [.ref a1, .int sz1])), (a1, .inl (G.2.1 0, N1, .inl f1))] H := hP
          have hD : va_D A [(t, .inr (2, [.ref ka, .ref na, .ref ga, .ref sa, .ref xr, .int size])), (ka, .inl (G.2.1 0, 1000, .inl kf)), (na, .inl (G.2.1 1, 1000, .inl nf)), (ga, .inl (G.2.1 1, 1000, .inl gf)), (sa, .inl (G.2.1 1, 1000, .inl sf)), (xr, .inr (1, [.ref xa, .int xsz])), (xa, .inl (G.2.1 0, 1000, .inl xf)), (r1, .inr (1, [.ref a1, .int sz1])), (a1, .inl (G.2.1 0, N1, .inl f1))] := hD
          refine lv_if_eq (tgt := 72) hx hb d_Tree_valueNamed_64 (by decide) (fun c_19 => ?_) (fun c_19 => ?_)
          · exact J_72 (by first | assumption | trivial | (try dsimp only; omega)) _ _ (hP.sub [7, 8, 0, 1, 2, 3, 4, 5, 6] rfl) (hD.sub [7, 8, 0, 1, 2, 3, 4, 5, 6] (by decide) rfl) hS _ (lv_sub hl [0, 1, 2, 3, 4, 5, 6, 7] rfl)
          · refine lv_iload hx hb d_Tree_valueNamed_67 (lv_at hl 1 rfl) ?_
            refine lv_iconst (v := 1) hx hb d_Tree_valueNamed_69 (by decide) ?_
            refine lv_iadd hx hb d_Tree_valueNamed_70 ?_
            refine lv_topi (fun y_20 ey_20 => ?_)
            exact ret y_20 () (Nat.le_of_ble_eq_true rfl) (Nat.le_of_ble_eq_true rfl) d_Tree_valueNamed_71 rfl trivial (hP.sub [0, 1, 2, 3, 4, 5, 6, 7, 8] rfl) (hD.sub [0, 1, 2, 3, 4, 5, 6, 7, 8] (by decide) rfl) hS
  have J_19 : ∀ (k0_19 : Int32) (H : Heap) (locs : List Loc), va_P G.1 vwCl [(r1, .inr (1, [.ref a1, .int sz1])), (a1, .inl (G.2.1 0, N1, .inl f1)), (t, .inr (2, [.ref ka, .ref na, .ref ga, .ref sa, .ref xr, .int size])), (ka, .inl (G.2.1 0, 1000, .inl kf)), (na, .inl (G.2.1 1, 1000, .inl nf)), (ga, .inl (G.2.1 1, 1000, .inl gf)), (sa, .inl (G.2.1 1, 1000, .inl sf)), (xr, .inr (1, [.ref xa, .int xsz])), (xa, .inl (G.2.1 0, 1000, .inl xf))] H → va_D A [(r1, .inr (1, [.ref a1, .int sz1])), (a1, .inl (G.2.1 0, N1, .inl f1)), (t, .inr (2, [.ref ka, .ref na, .ref ga, .ref sa, .ref xr, .int size])), (ka, .inl (G.2.1 0, 1000, .inl kf)), (na, .inl (G.2.1 1, 1000, .inl nf)), (ga, .inl (G.2.1 1, 1000, .inl gf)), (sa, .inl (G.2.1 1, 1000, .inl sf)), (xr, .inr (1, [.ref xa, .int xsz])), (xa, .inl (G.2.1 0, 1000, .inl xf))] → va_S A s.heap H locs → ∀ ls : Array Slot, lv_has ls 8 [(0, .ref t), (1, .int i), (2, .ref r1), (3, .int j), (4, .int n)] → W p l e rm_Tree_valueNamed s m args below meth c H locs 0 0 Q (F0 m 19 ls [.int k0_19]) := by
    intro k0_19 H locs hP hD hS ls hl
    refine lv_istore (lv' := [(5, .int k0_19), (0, .ref t), (1, .int i), (2, .ref r1), (3, .int j), (4, .int n)]) hx hb d_Tree_valueNamed_19 hl (by decide) rfl (fun ls hl => ?_)
    refine lv_iload_n hx hb d_Tree_valueNamed_21 rfl (lv_at hl 2 rfl) ?_
    refine lv_iconst (v := 1) hx hb d_Tree_valueNamed_22 (by decide) ?_
    refine lv_iadd hx hb d_Tree_valueNamed_23 ?_
    refine lv_topi (fun y_21 ey_21 => ?_)
    refine lv_istore (lv' := [(6, .int y_21), (5, .int k0_19), (0, .ref t), (1, .int i), (2, .ref r1), (3, .int j), (4, .int n)]) hx hb d_Tree_valueNamed_24 hl (by decide) rfl (fun ls hl => ?_)
    refine lv_iconst (v := 0) hx hb d_Tree_valueNamed_26 (by decide) ?_
    refine lv_istore (lv' := [(7, .int 0), (6, .int y_21), (5, .int k0_19), (0, .ref t), (1, .int i), (2, .ref r1), (3, .int j), (4, .int n)]) hx hb d_Tree_valueNamed_27 hl (by decide) rfl (fun ls hl => ?_)
    exact J_29 _ 0 y_21 k0_19 (Nat.lt_succ_self _) _ _ (hP.sub [0, 1, 2, 3, 4, 5, 6, 7, 8] rfl) (hD.sub [0, 1, 2, 3, 4, 5, 6, 7, 8] (by decide) rfl) hS _ (lv_sub hl [0, 1, 2, 3, 4, 5, 6, 7] rfl)
  refine lv_aload_n hx hb d_Tree_valueNamed_0 rfl (lv_at hl 0 rfl) ?_
  refine lv_iload_n hx hb d_Tree_valueNamed_1 rfl (lv_at hl 1 rfl) ?_
  refine gc_i (wr := [(r1, .inr (1, [.ref a1, .int sz1])), (a1, .inl (G.2.1 0, N1, .inl f1))]) (gc_V (wc := [(t, .inr (2, [.ref ka, .ref na, .ref ga, .ref sa, .ref xr, .int size])), (ka, .inl (G.2.1 0, 1000, .inl kf)), (na, .inl (G.2.1 1, 1000, .inl nf)), (ga, .inl (G.2.1 1, 1000, .inl gf)), (sa, .inl (G.2.1 1, 1000, .inl sf)), (xr, .inr (1, [.ref xa, .int xsz])), (xa, .inl (G.2.1 0, 1000, .inl xf))]) (As := [.int i]) (rest := []) ⟨hx, hb, hml, hown, hw⟩ (c_Tree_kind l G t ka na ga sa xr xa kf nf gf sf size xsz xf i hs hxs H.size) (cwV 1 hw (good_V m_195 m_196 m_197 m_3 m_198) rfl rfl rfl hy_Tree_kind ⟨Nat.le_of_ble_eq_true rfl, Nat.le_of_ble_eq_true rfl⟩) hE hP hD hS hA (va_recv hE.1 hP (ci := 2) (q0 := 0) rfl rfl) [0, 1, 2, 3, 4, 5, 6] rfl (by decide) rfl hl rfl (Nat.le_of_ble_eq_true rfl) d_Tree_valueNamed_2 ⟨Nat.le_of_ble_eq_true rfl, Nat.le_of_ble_eq_true rfl⟩) hP hD hS hA [0, 1, 2, 3, 4, 5, 6] [7, 8] rfl rfl (by decide) (by decide) (fun r_22 u_23 H locs hw_24 hP hD hS => ?_)
  have hP : va_P G.1 vwCl [(r1, .inr (1, [.ref a1, .int sz1])), (a1, .inl (G.2.1 0, N1, .inl f1)), (t, .inr (2, [.ref ka, .ref na, .ref ga, .ref sa, .ref xr, .int size])), (ka, .inl (G.2.1 0, 1000, .inl kf)), (na, .inl (G.2.1 1, 1000, .inl nf)), (ga, .inl (G.2.1 1, 1000, .inl gf)), (sa, .inl (G.2.1 1, 1000, .inl sf)), (xr, .inr (1, [.ref xa, .int xsz])), (xa, .inl (G.2.1 0, 1000, .inl xf))] H := hP
  have hD : va_D A [(r1, .inr (1, [.ref a1, .int sz1])), (a1, .inl (G.2.1 0, N1, .inl f1)), (t, .inr (2, [.ref ka, .ref na, .ref ga, .ref sa, .ref xr, .int size])), (ka, .inl (G.2.1 0, 1000, .inl kf)), (na, .inl (G.2.1 1, 1000, .inl nf)), (ga, .inl (G.2.1 1, 1000, .inl gf)), (sa, .inl (G.2.1 1, 1000, .inl sf)), (xr, .inr (1, [.ref xa, .int xsz])), (xa, .inl (G.2.1 0, 1000, .inl xf))] := hD
  refine lv_bipush (v := 7) hx hb d_Tree_valueNamed_5 (by decide) ?_
  refine lv_icmp_ne (tgt := 18) hx hb d_Tree_valueNamed_7 (by decide) (fun c_25 => ?_) (fun c_25 => ?_)
  · refine lv_iconst (v := 0) hx hb d_Tree_valueNamed_18 (by decide) ?_
    exact J_19 0 _ _ (hP.sub [0, 1, 2, 3, 4, 5, 6, 7, 8] rfl) (hD.sub [0, 1, 2, 3, 4, 5, 6, 7, 8] (by decide) rfl) hS _ (lv_sub hl [0, 1, 2, 3, 4] rfl)
  · refine lv_aload_n hx hb d_Tree_valueNamed_10 rfl (lv_at hl 0 rfl) ?_
    refine lv_iload_n hx hb d_Tree_valueNamed_11 rfl (lv_at hl 1 rfl) ?_
    refine gc_i (wr := [(r1, .inr (1, [.ref a1, .int sz1])), (a1, .inl (G.2.1 0, N1, .inl f1))]) (gc_V (wc := [(t, .inr (2, [.ref ka, .ref na, .ref ga, .ref sa, .ref xr, .int size])), (ka, .inl (G.2.1 0, 1000, .inl kf)), (na, .inl (G.2.1 1, 1000, .inl nf)), (ga, .inl (G.2.1 1, 1000, .inl gf)), (sa, .inl (G.2.1 1, 1000, .inl sf)), (xr, .inr (1, [.ref xa, .int xsz])), (xa, .inl (G.2.1 0, 1000, .inl xf))]) (As := [.int i]) (rest := []) ⟨hx, hb, hml, hown, hw⟩ (c_Tree_number l G t ka na ga sa xr xa kf nf gf sf size xsz xf i hs hxs H.size) (cwV 1 hw (good_V m_203 m_204 m_205 m_3 m_206) rfl rfl rfl hy_Tree_number ⟨Nat.le_of_ble_eq_true rfl, Nat.le_of_ble_eq_true rfl⟩) hE hP hD hS hA (va_recv hE.1 hP (ci := 2) (q0 := 2) rfl rfl) [2, 3, 4, 5, 6, 7, 8] rfl (by decide) rfl hl rfl (Nat.le_of_ble_eq_true rfl) d_Tree_valueNamed_12 ⟨Nat.le_of_ble_eq_true rfl, Nat.le_of_ble_eq_true rfl⟩) hP hD hS hA [2, 3, 4, 5, 6, 7, 8] [0, 1] rfl rfl (by decide) (by decide) (fun r_26 u_27 H locs hw_28 hP hD hS => ?_)
    try dsimp only at hw_28
    have h_29 := hw_28
    subst h_29
    have hP : va_P G.1 vwCl [(r1, .inr (1, [.ref a1, .int sz1])), (a1, .inl (G.2.1 0, N1, .inl f1)), (t, .inr (2, [.ref ka, .ref na, .ref ga, .ref sa, .ref xr, .int size])), (ka, .inl (G.2.1 0, 1000, .inl kf)), (na, .inl (G.2.1 1, 1000, .inl nf)), (ga, .inl (G.2.1 1, 1000, .inl gf)), (sa, .inl (G.2.1 1, 1000, .inl sf)), (xr, .inr (1, [.ref xa, .int xsz])), (xa, .inl (G.2.1 0, 1000, .inl xf))] H := hP
    have hD : va_D A [(r1, .inr (1, [.ref a1, .int sz1])), (a1, .inl (G.2.1 0, N1, .inl f1)), (t, .inr (2, [.ref ka, .ref na, .ref ga, .ref sa, .ref xr, .int size])), (ka, .inl (G.2.1 0, 1000, .inl kf)), (na, .inl (G.2.1 1, 1000, .inl nf)), (ga, .inl (G.2.1 1, 1000, .inl gf)), (sa, .inl (G.2.1 1, 1000, .inl sf)), (xr, .inr (1, [.ref xa, .int xsz])), (xa, .inl (G.2.1 0, 1000, .inl xf))] := hD
    refine lv_goto (tgt := 19) hx hb d_Tree_valueNamed_15 (by decide) ?_
    exact J_19 (tr_num size nf i) _ _ (hP.sub [0, 1, 2, 3, 4, 5, 6, 7, 8] rfl) (hD.sub [0, 1, 2, 3, 4, 5, 6, 7, 8] (by decide) rfl) hS _ (lv_sub hl [0, 1, 2, 3, 4] rfl)
def rm_Tree_nodeWithText : Room := { frames := 3, cells := 0, slots := 0, locals := 66 }
set_option maxHeartbeats 4000000 in
set_option maxRecDepth 100000 in
theorem c_Tree_nodeWithText (l : Launch) (G : GG) (t : Nat) (ka : Nat) (na : Nat) (ga : Nat) (sa : Nat) (xr : Nat) (xa : Nat) (kf : Nat → Int32) (nf : Nat → Int32) (gf : Nat → Int32) (sf : Nat → Int32) (size : Int32) (xsz : Int32) (xf : Nat → Int32) (i : Int32) (k : Int32) (hs : RowOk 1000 size) (hxs : RowOk 1000 xsz) : MI l y_Tree_nodeWithText b_Tree_nodeWithText 4 .int rm_Tree_nodeWithText G [.ref t, .int i, .int k] [(t, .inr (2, [.ref ka, .ref na, .ref ga, .ref sa, .ref xr, .int size])), (ka, .inl (G.2.1 0, 1000, .inl kf)), (na, .inl (G.2.1 1, 1000, .inl nf)), (ga, .inl (G.2.1 1, 1000, .inl gf)), (sa, .inl (G.2.1 1, 1000, .inl sf)), (xr, .inr (1, [.ref xa, .int xsz])), (xa, .inl (G.2.1 0, 1000, .inl xf))] (fun (v : Int32) (u : Unit) => True) (fun (u : Unit) => [(t, .inr (2, [.ref ka, .ref na, .ref ga, .ref sa, .ref xr, .int size])), (ka, .inl (G.2.1 0, 1000, .inl kf)), (na, .inl (G.2.1 1, 1000, .inl nf)), (ga, .inl (G.2.1 1, 1000, .inl gf)), (sa, .inl (G.2.1 1, 1000, .inl sf)), (xr, .inr (1, [.ref xa, .int xsz])), (xa, .inl (G.2.1 0, 1000, .inl xf))]) 0 0 := by
  refine MI.of (cc := b_Tree_nodeWithText) (maxL := 4) (ty := .int) (C := R_Tree) (by decide +kernel) rfl (Nat.le_of_ble_eq_true rfl) ?_
  intro p e s m args below meth c A Q H ls hx hb hml hown hw hE hA hP hD hS ret hl
  have hl : lv_has ls 4 [(0, .ref t), (1, .int i), (2, .int k)] := hl
  refine lv_aload_n hx hb d_Tree_nodeWithText_0 rfl (lv_at hl 0 rfl) ?_
  refine lv_iload_n hx hb d_Tree_nodeWithText_1 rfl (lv_at hl 1 rfl) ?_
  refine gc_i (wr := []) (gc_V (wc := [(t, .inr (2, [.ref ka, .ref na, .ref ga, .ref sa, .ref xr, .int size])), (ka, .inl (G.2.1 0, 1000, .inl kf)), (na, .inl (G.2.1 1, 1000, .inl nf)), (ga, .inl (G.2.1 1, 1000, .inl gf)), (sa, .inl (G.2.1 1, 1000, .inl sf)), (xr, .inr (1, [.ref xa, .int xsz])), (xa, .inl (G.2.1 0, 1000, .inl xf))]) (As := [.int i]) (rest := []) ⟨hx, hb, hml, hown, hw⟩ (c_Tree_kind l G t ka na ga sa xr xa kf nf gf sf size xsz xf i hs hxs H.size) (cwV 1 hw (good_V m_195 m_196 m_197 m_3 m_198) rfl rfl rfl hy_Tree_kind ⟨Nat.le_of_ble_eq_true rfl, Nat.le_of_ble_eq_true rfl⟩) hE hP hD hS hA (va_recv hE.1 hP (ci := 2) (q0 := 0) rfl rfl) [0, 1, 2, 3, 4, 5, 6] rfl (by decide) rfl hl rfl (Nat.le_of_ble_eq_true rfl) d_Tree_nodeWithText_2 ⟨Nat.le_of_ble_eq_true rfl, Nat.le_of_ble_eq_true rfl⟩) hP hD hS hA [0, 1, 2, 3, 4, 5, 6] [] rfl rfl (by decide) (by decide) (fun r_1 u_2 H locs hw_3 hP hD hS => ?_)
  have hP : va_P G.1 vwCl [(t, .inr (2, [.ref ka, .ref na, .ref ga, .ref sa, .ref xr, .int size])), (ka, .inl (G.2.1 0, 1000, .inl kf)), (na, .inl (G.2.1 1, 1000, .inl nf)), (ga, .inl (G.2.1 1, 1000, .inl gf)), (sa, .inl (G.2.1 1, 1000, .inl sf)), (xr, .inr (1, [.ref xa, .int xsz])), (xa, .inl (G.2.1 0, 1000, .inl xf))] H := hP
  have hD : va_D A [(t, .inr (2, [.ref ka, .ref na, .ref ga, .ref sa, .ref xr, .int size])), (ka, .inl (G.2.1 0, 1000, .inl kf)), (na, .inl (G.2.1 1, 1000, .inl nf)), (ga, .inl (G.2.1 1, 1000, .inl gf)), (sa, .inl (G.2.1 1, 1000, .inl sf)), (xr, .inr (1, [.ref xa, .int xsz])), (xa, .inl (G.2.1 0, 1000, .inl xf))] := hD
  refine lv_istore_n (lv' := [(3, .int r_1), (0, .ref t), (1, .int i), (2, .int k)]) hx hb d_Tree_nodeWithText_5 rfl hl (by decide) rfl (fun ls hl => ?_)
  refine lv_iload_n hx hb d_Tree_nodeWithText_6 rfl (lv_at hl 0 rfl) ?_
  refine lv_iconst (v := 4) hx hb d_Tree_nodeWithText_7 (by decide) ?_
  refine lv_icmp_eq (tgt := 16) hx hb d_Tree_nodeWithText_8 (by decide) (fun c_4 => ?_) (fun c_4 => ?_)
  · refine lv_iload_n hx hb d_Tree_nodeWithText_16 rfl (lv_at hl 2 rfl) ?_
    exact ret i () (Nat.le_of_ble_eq_true rfl) (Nat.le_of_ble_eq_true rfl) d_Tree_nodeWithText_17 rfl trivial (hP.sub [0, 1, 2, 3, 4, 5, 6] rfl) (hD.sub [0, 1, 2, 3, 4, 5, 6] (by decide) rfl) hS
  · refine lv_iload_n hx hb d_Tree_nodeWithText_11 rfl (lv_at hl 0 rfl) ?_
    refine lv_iconst (v := 5) hx hb d_Tree_nodeWithText_12 (by decide) ?_
    refine lv_icmp_ne (tgt := 18) hx hb d_Tree_nodeWithText_13 (by decide) (fun c_5 => ?_) (fun c_5 => ?_)
    · refine lv_iload_n hx hb d_Tree_nodeWithText_18 rfl (lv_at hl 0 rfl) ?_
      refine lv_bipush (v := 7) hx hb d_Tree_nodeWithText_19 (by decide) ?_
      refine lv_icmp_ne (tgt := 46) hx hb d_Tree_nodeWithText_21 (by decide) (fun c_6 => ?_) (fun c_6 => ?_)
      · refine lv_bipush (v := (-2)) hx hb d_Tree_nodeWithText_46 (by decide) ?_
        exact ret (-2) () (Nat.le_of_ble_eq_true rfl) (Nat.le_of_ble_eq_true rfl) d_Tree_nodeWithText_48 rfl trivial (hP.sub [0, 1, 2, 3, 4, 5, 6] rfl) (hD.sub [0, 1, 2, 3, 4, 5, 6] (by decide) rfl) hS
      · refine lv_iload_n hx hb d_Tree_nodeWithText_24 rfl (lv_at hl 3 rfl) ?_
        refine lv_if_lt (tgt := 46) hx hb d_Tree_nodeWithText_25 (by decide) (fun c_7 => ?_) (fun c_7 => ?_)
        · refine lv_bipush (v := (-2)) hx hb d_Tree_nodeWithText_46 (by decide) ?_
          exact ret (-2) () (Nat.le_of_ble_eq_true rfl) (Nat.le_of_ble_eq_true rfl) d_Tree_nodeWithText_48 rfl trivial (hP.sub [0, 1, 2, 3, 4, 5, 6] rfl) (hD.sub [0, 1, 2, 3, 4, 5, 6] (by decide) rfl) hS
        · refine lv_iload_n hx hb d_Tree_nodeWithText_28 rfl (lv_at hl 3 rfl) ?_
          refine lv_aload_n hx hb d_Tree_nodeWithText_29 rfl (lv_at hl 1 rfl) ?_
          refine lv_iload_n hx hb d_Tree_nodeWithText_30 rfl (lv_at hl 2 rfl) ?_
          refine gc_i (wr := []) (gc_V (wc := [(t, .inr (2, [.ref ka, .ref na, .ref ga, .ref sa, .ref xr, .int size])), (ka, .inl (G.2.1 0, 1000, .inl kf)), (na, .inl (G.2.1 1, 1000, .inl nf)), (ga, .inl (G.2.1 1, 1000, .inl gf)), (sa, .inl (G.2.1 1, 1000, .inl sf)), (xr, .inr (1, [.ref xa, .int xsz])), (xa, .inl (G.2.1 0, 1000, .inl xf))]) (As := [.int i]) (rest := [.int k]) ⟨hx, hb, hml, hown, hw⟩ (c_Tree_number l G t ka na ga sa xr xa kf nf gf sf size xsz xf i hs hxs H.size) (cwV 1 hw (good_V m_203 m_204 m_205 m_3 m_206) rfl rfl rfl hy_Tree_number ⟨Nat.le_of_ble_eq_true rfl, Nat.le_of_ble_eq_true rfl⟩) hE hP hD hS hA (va_recv hE.1 hP (ci := 2) (q0 := 0) rfl rfl) [0, 1, 2, 3, 4, 5, 6] rfl (by decide) rfl hl rfl (Nat.le_of_ble_eq_true rfl) d_Tree_nodeWithText_31 ⟨Nat.le_of_ble_eq_true rfl, Nat.le_of_ble_eq_true rfl⟩) hP hD hS hA [0, 1, 2, 3, 4, 5, 6] [] rfl rfl (by decide) (by decide) (fun r_8 u_9 H locs hw_10 hP hD hS => ?_)
          try dsimp only at hw_10
          have h_11 := hw_10
          subst h_11
          have hP : va_P G.1 vwCl [(t, .inr (2, [.ref ka, .ref na, .ref ga, .ref sa, .ref xr, .int size])), (ka, .inl (G.2.1 0, 1000, .inl kf)), (na, .inl (G.2.1 1, 1000, .inl nf)), (ga, .inl (G.2.1 1, 1000, .inl gf)), (sa, .inl (G.2.1 1, 1000, .inl sf)), (xr, .inr (1, [.ref xa, .int xsz])), (xa, .inl (G.2.1 0, 1000, .inl xf))] H := hP
          have hD : va_D A [(t, .inr (2, [.ref ka, .ref na, .ref ga, .ref sa, .ref xr, .int size])), (ka, .inl (G.2.1 0, 1000, .inl kf)), (na, .inl (G.2.1 1, 1000, .inl nf)), (ga, .inl (G.2.1 1, 1000, .inl gf)), (sa, .inl (G.2.1 1, 1000, .inl sf)), (xr, .inr (1, [.ref xa, .int xsz])), (xa, .inl (G.2.1 0, 1000, .inl xf))] := hD
          refine lv_icmp_ge (tgt := 46) hx hb d_Tree_nodeWithText_34 (by decide) (fun c_12 => ?_) (fun c_12 => ?_)
          · refine lv_bipush (v := (-2)) hx hb d_Tree_nodeWithText_46 (by decide) ?_
            exact ret (-2) () (Nat.le_of_ble_eq_true rfl) (Nat.le_of_ble_eq_true rfl) d_Tree_nodeWithText_48 rfl trivial (hP.sub [0, 1, 2, 3, 4, 5, 6] rfl) (hD.sub [0, 1, 2, 3, 4, 5, 6] (by decide) rfl) hS
          · refine lv_aload_n hx hb d_Tree_nodeWithText_37 rfl (lv_at hl 1 rfl) ?_
            refine lv_iload_n hx hb d_Tree_nodeWithText_38 rfl (lv_at hl 2 rfl) ?_
            refine lv_iload_n hx hb d_Tree_nodeWithText_39 rfl (lv_at hl 3 rfl) ?_
            refine gc_i (wr := []) (gc_V (wc := [(t, .inr (2, [.ref ka, .ref na, .ref ga, .ref sa, .ref xr, .int size])), (ka, .inl (G.2.1 0, 1000, .inl kf)), (na, .inl (G.2.1 1, 1000, .inl nf)), (ga, .inl (G.2.1 1, 1000, .inl gf)), (sa, .inl (G.2.1 1, 1000, .inl sf)), (xr, .inr (1, [.ref xa, .int xsz])), (xa, .inl (G.2.1 0, 1000, .inl xf))]) (As := [.int i, .int k]) (rest := []) ⟨hx, hb, hml, hown, hw⟩ (c_Tree_nameNode l G t ka na ga sa xr xa kf nf gf sf size xsz xf i k hs hxs H.size) (cwV 2 hw (good_V m_409 m_411 ms_28 m_3 m_412) rfl rfl rfl hy_Tree_nameNode ⟨Nat.le_of_ble_eq_true rfl, Nat.le_of_ble_eq_true rfl⟩) hE hP hD hS hA (va_recv hE.1 hP (ci := 2) (q0 := 0) rfl rfl) [0, 1, 2, 3, 4, 5, 6] rfl (by decide) rfl hl rfl (Nat.le_of_ble_eq_true rfl) d_Tree_nodeWithText_40 ⟨Nat.le_of_ble_eq_true rfl, Nat.le_of_ble_eq_true rfl⟩) hP hD hS hA [0, 1, 2, 3, 4, 5, 6] [] rfl rfl (by decide) (by decide) (fun r_13 u_14 H locs hw_15 hP hD hS => ?_)
            have hP : va_P G.1 vwCl [(t, .inr (2, [.ref ka, .ref na, .ref ga, .ref sa, .ref xr, .int size])), (ka, .inl (G.2.1 0, 1000, .inl kf)), (na, .inl (G.2.1 1, 1000, .inl nf)), (ga, .inl (G.2.1 1, 1000, .inl gf)), (sa, .inl (G.2.1 1, 1000, .inl sf)), (xr, .inr (1, [.ref xa, .int xsz])), (xa, .inl (G.2.1 0, 1000, .inl xf))] H := hP
            have hD : va_D A [(t, .inr (2, [.ref ka, .ref na, .ref ga, .ref sa, .ref xr, .int size])), (ka, .inl (G.2.1 0, 1000, .inl kf)), (na, .inl (G.2.1 1, 1000, .inl nf)), (ga, .inl (G.2.1 1, 1000, .inl gf)), (sa, .inl (G.2.1 1, 1000, .inl sf)), (xr, .inr (1, [.ref xa, .int xsz])), (xa, .inl (G.2.1 0, 1000, .inl xf))] := hD
            refine lv_goto (tgt := 48) hx hb d_Tree_nodeWithText_43 (by decide) ?_
            exact ret r_13 () (Nat.le_of_ble_eq_true rfl) (Nat.le_of_ble_eq_true rfl) d_Tree_nodeWithText_48 rfl trivial (hP.sub [0, 1, 2, 3, 4, 5, 6] rfl) (hD.sub [0, 1, 2, 3, 4, 5, 6] (by decide) rfl) hS
    · refine lv_iload_n hx hb d_Tree_nodeWithText_16 rfl (lv_at hl 2 rfl) ?_
      exact ret i () (Nat.le_of_ble_eq_true rfl) (Nat.le_of_ble_eq_true rfl) d_Tree_nodeWithText_17 rfl trivial (hP.sub [0, 1, 2, 3, 4, 5, 6] rfl) (hD.sub [0, 1, 2, 3, 4, 5, 6] (by decide) rfl) hS
def rm_Tree_countValues : Room := { frames := 2, cells := 0, slots := 0, locals := 42 }
set_option maxHeartbeats 4000000 in
set_option maxRecDepth 100000 in
theorem c_Tree_countValues (l : Launch) (G : GG) (t : Nat) (ka : Nat) (na : Nat) (ga : Nat) (sa : Nat) (xr : Nat) (xa : Nat) (kf : Nat → Int32) (nf : Nat → Int32) (gf : Nat → Int32) (sf : Nat → Int32) (size : Int32) (xsz : Int32) (xf : Nat → Int32) (i : Int32) (hs : RowOk 1000 size) (hxs : RowOk 1000 xsz) : MI l y_Tree_countValues b_Tree_countValues 5 .int rm_Tree_countValues G [.ref t, .int i] [(t, .inr (2, [.ref ka, .ref na, .ref ga, .ref sa, .ref xr, .int size])), (ka, .inl (G.2.1 0, 1000, .inl kf)), (na, .inl (G.2.1 1, 1000, .inl nf)), (ga, .inl (G.2.1 1, 1000, .inl gf)), (sa, .inl (G.2.1 1, 1000, .inl sf)), (xr, .inr (1, [.ref xa, .int xsz])), (xa, .inl (G.2.1 0, 1000, .inl xf))] (fun (v : Int32) (u : Unit) => True) (fun (u : Unit) => [(t, .inr (2, [.ref ka, .ref na, .ref ga, .ref sa, .ref xr, .int size])), (ka, .inl (G.2.1 0, 1000, .inl kf)), (na, .inl (G.2.1 1, 1000, .inl nf)), (ga, .inl (G.2.1 1, 1000, .inl gf)), (sa, .inl (G.2.1 1, 1000, .inl sf)), (xr, .inr (1, [.ref xa, .int xsz])), (xa, .inl (G.2.1 0, 1000, .inl xf))]) 0 0 := by
  refine MI.of (cc := b_Tree_countValues) (maxL := 5) (ty := .int) (C := R_Tree) (by decide +kernel) rfl (Nat.le_of_ble_eq_true rfl) ?_
  intro p e s m args below meth c A Q H ls hx hb hml hown hw hE hA hP hD hS ret hl
  have hl : lv_has ls 5 [(0, .ref t), (1, .int i)] := hl
  have J_11 : ∀ (fu : Nat) (x4_11 : Int32) (x3_11 : Int32) (x2_11 : Int32), (x3_11.toInt - x4_11.toInt).toNat < fu → ∀ (H : Heap) (locs : List Loc), va_P G.1 vwCl [(t, .inr (2, [.ref ka, .ref na, .ref ga, .ref sa, .ref xr, .int size])), (ka, .inl (G.2.1 0, 1000, .inl kf)), (na, .inl (G.2.1 1, 1000, .inl nf)), (ga, .inl (G.2.1 1, 1000, .inl gf)), (sa, .inl (G.2.1 1, 1000, .inl sf)), (xr, .inr (1, [.ref xa, .int xsz])), (xa, .inl (G.2.1 0, 1000, .inl xf))] H → va_D A [(t, .inr (2, [.ref ka, .ref na, .ref ga, .ref sa, .ref xr, .int size])), (ka, .inl (G.2.1 0, 1000, .inl kf)), (na, .inl (G.2.1 1, 1000, .inl nf)), (ga, .inl (G.2.1 1, 1000, .inl gf)), (sa, .inl (G.2.1 1, 1000, .inl sf)), (xr, .inr (1, [.ref xa, .int xsz])), (xa, .inl (G.2.1 0, 1000, .inl xf))] → va_S A s.heap H locs → ∀ ls : Array Slot, lv_has ls 5 [(4, .int x4_11), (3, .int x3_11), (2, .int x2_11), (0, .ref t), (1, .int i)] → W p l e rm_Tree_countValues s m args below meth c H locs 0 0 Q (F0 m 11 ls []) := by
    intro fu
    induction fu with
    | zero =>
      intro x4_11 x3_11 x2_11 hm
      exact absurd hm (Nat.not_lt_zero _)
    | succ fu ih_11 =>
      intro x4_11 x3_11 x2_11 hm_11 H locs hP hD hS ls hl
      have J_41 : ∀ (k0_41 : Int32) (hk0_41 : ¬ x3_11 ≤ x4_11) (H : Heap) (locs : List Loc), va_P G.1 vwCl [(t, .inr (2, [.ref ka, .ref na, .ref ga, .ref sa, .ref xr, .int size])), (ka, .inl (G.2.1 0, 1000, .inl kf)), (na, .inl (G.2.1 1, 1000, .inl nf)), (ga, .inl (G.2.1 1, 1000, .inl gf)), (sa, .inl (G.2.1 1, 1000, .inl sf)), (xr, .inr (1, [.ref xa, .int xsz])), (xa, .inl (G.2.1 0, 1000, .inl xf))] H → va_D A [(t, .inr (2, [.ref ka, .ref na, .ref ga, .ref sa, .ref xr, .int size])), (ka, .inl (G.2.1 0, 1000, .inl kf)), (na, .inl (G.2.1 1, 1000, .inl nf)), (ga, .inl (G.2.1 1, 1000, .inl gf)), (sa, .inl (G.2.1 1, 1000, .inl sf)), (xr, .inr (1, [.ref xa, .int xsz])), (xa, .inl (G.2.1 0, 1000, .inl xf))] → va_S A s.heap H locs → ∀ ls : Array Slot, lv_has ls 5 [(4, .int x4_11), (3, .int x3_11), (2, .int x2_11), (0, .ref t), (1, .int i)] → W p l e rm_Tree_countValues s m args below meth c H locs 0 0 Q (F0 m 41 ls [.int k0_41, .int x2_11]) := by
        intro k0_41 hk0_41 H locs hP hD hS ls hl
        refine lv_iadd hx hb d_Tree_countValues_41 ?_
        refine lv_topi (fun y_1 ey_1 => ?_)
        refine lv_istore_n (lv' := [(2, .int y_1), (4, .int x4_11), (3, .int x3_11), (0, .ref t), (1, .int i)]) hx hb d_Tree_countValues_42 rfl hl (by decide) rfl (fun ls hl => ?_)
        obtain ⟨y_2, ey_2⟩ : ∃ y : Int32, y = x4_11 + 1 := ⟨_, rfl⟩
        refine lv_iinc (v := y_2) (lv' := [(4, .int y_2), (2, .int y_1), (3, .int x3_11), (0, .ref t), (1, .int i)]) hx hb d_Tree_countValues_43 hl (k := 1) rfl (by rw [ey_2]; rfl) (by decide) rfl (fun ls hl => ?_)
        refine lv_goto (tgt := 11) hx hb d_Tree_countValues_46 (by decide) ?_
        exact ih_11 y_2 x3_11 y_1 (ms_up (by assumption) (by assumption) hm_11) _ _ (hP.sub [0, 1, 2, 3, 4, 5, 6] rfl) (hD.sub [0, 1, 2, 3, 4, 5, 6] (by decide) rfl) hS _ (lv_sub hl [0, 2, 1, 3, 4] rfl)
      refine lv_iload hx hb d_Tree_countValues_11 (lv_at hl 0 rfl) ?_
      refine lv_iload_n hx hb d_Tree_countValues_13 rfl (lv_at hl 1 rfl) ?_
      refine lv_icmp_ge (tgt := 49) hx hb d_Tree_countValues_14 (by decide) (fun c_3 => ?_) (fun c_3 => ?_)
      · refine lv_iload_n hx hb d_Tree_countValues_49 rfl (lv_at hl 2 rfl) ?_
        exact ret x2_11 () (Nat.le_of_ble_eq_true rfl) (Nat.le_of_ble_eq_true rfl) d_Tree_countValues_50 rfl trivial (hP.sub [0, 1, 2, 3, 4, 5, 6] rfl) (hD.sub [0, 1, 2, 3, 4, 5, 6] (by decide) rfl) hS
      · refine lv_iload_n hx hb d_Tree_countValues_17 rfl (lv_at hl 2 rfl) ?_
        refine lv_aload_n hx hb d_Tree_countValues_18 rfl (lv_at hl 3 rfl) ?_
        refine lv_iload hx hb d_Tree_countValues_19 (lv_at hl 0 rfl) ?_
        refine gc_i (wr := []) (gc_V (wc := [(t, .inr (2, [.ref ka, .ref na, .ref ga, .ref sa, .ref xr, .int size])), (ka, .inl (G.2.1 0, 1000, .inl kf)), (na, .inl (G.2.1 1, 1000, .inl nf)), (ga, .inl (G.2.1 1, 1000, .inl gf)), (sa, .inl (G.2.1 1, 1000, .inl sf)), (xr, .inr (1, [.ref xa, .int xsz])), (xa, .inl (G.2.1 0, 1000, .inl xf))]) (As := [.int x4_11]) (rest := [.int x2_11]) ⟨hx, hb, hml, hown, hw⟩ (c_Tree_kind l G t ka na ga sa xr xa kf nf gf sf size xsz xf x4_11 hs hxs H.size) (cwV 1 hw (good_V m_195 m_196 m_197 m_3 m_198) rfl rfl rfl hy_Tree_kind ⟨Nat.le_of_ble_eq_true rfl, Nat.le_of_ble_eq_true rfl⟩) hE hP hD hS hA (va_recv hE.1 hP (ci := 2) (q0 := 0) rfl rfl) [0, 1, 2, 3, 4, 5, 6] rfl (by decide) rfl hl rfl (Nat.le_of_ble_eq_true rfl) d_Tree_countValues_21 ⟨Nat.le_of_ble_eq_true rfl, Nat.le_of_ble_eq_true rfl⟩) hP hD hS hA [0, 1, 2, 3, 4, 5, 6] [] rfl rfl (by decide) (by decide) (fun r_4 u_5 H locs hw_6 hP hD hS => ?_)
        have hP : va_P G.1 vwCl [(t, .inr (2, [.ref ka, .ref na, .ref ga, .ref sa, .ref xr, .int size])), (ka, .inl (G.2.1 0, 1000, .inl kf)), (na, .inl (G.2.1 1, 1000, .inl nf)), (ga, .inl (G.2.1 1, 1000, .inl gf)), (sa, .inl (G.2.1 1, 1000, .inl sf)), (xr, .inr (1, [.ref xa, .int xsz])), (xa, .inl (G.2.1 0, 1000, .inl xf))] H := hP
        have hD : va_D A [(t, .inr (2, [.ref ka, .ref na, .ref ga, .ref sa, .ref xr, .int size])), (ka, .inl (G.2.1 0, 1000, .inl kf)), (na, .inl (G.2.1 1, 1000, .inl nf)), (ga, .inl (G.2.1 1, 1000, .inl gf)), (sa, .inl (G.2.1 1, 1000, .inl sf)), (xr, .inr (1, [.ref xa, .int xsz])), (xa, .inl (G.2.1 0, 1000, .inl xf))] := hD
        refine lv_bipush (v := 7) hx hb d_Tree_countValues_24 (by decide) ?_
        refine lv_icmp_ne (tgt := 40) hx hb d_Tree_countValues_26 (by decide) (fun c_7 => ?_) (fun c_7 => ?_)
        · refine lv_iconst (v := 1) hx hb d_Tree_countValues_40 (by decide) ?_
          exact J_41 1 (by first | assumption | trivial | (try dsimp only; omega)) _ _ (hP.sub [0, 1, 2, 3, 4, 5, 6] rfl) (hD.sub [0, 1, 2, 3, 4, 5, 6] (by decide) rfl) hS _ (lv_sub hl [0, 1, 2, 3, 4] rfl)
        · refine lv_iconst (v := 1) hx hb d_Tree_countValues_29 (by decide) ?_
          refine lv_aload_n hx hb d_Tree_countValues_30 rfl (lv_at hl 3 rfl) ?_
          refine lv_iload hx hb d_Tree_countValues_31 (lv_at hl 0 rfl) ?_
          refine gc_i (wr := []) (gc_V (wc := [(t, .inr (2, [.ref ka, .ref na, .ref ga, .ref sa, .ref xr, .int size])), (ka, .inl (G.2.1 0, 1000, .inl kf)), (na, .inl (G.2.1 1, 1000, .inl nf)), (ga, .inl (G.2.1 1, 1000, .inl gf)), (sa, .inl (G.2.1 1, 1000, .inl sf)), (xr, .inr (1, [.ref xa, .int xsz])), (xa, .inl (G.2.1 0, 1000, .inl xf))]) (As := [.int x4_11]) (rest := [.int 1, .int x2_11]) ⟨hx, hb, hml, hown, hw⟩ (c_Tree_number l G t ka na ga sa xr xa kf nf gf sf size xsz xf x4_11 hs hxs H.size) (cwV 1 hw (good_V m_203 m_204 m_205 m_3 m_206) rfl rfl rfl hy_Tree_number ⟨Nat.le_of_ble_eq_true rfl, Nat.le_of_ble_eq_true rfl⟩) hE hP hD hS hA (va_recv hE.1 hP (ci := 2) (q0 := 0) rfl rfl) [0, 1, 2, 3, 4, 5, 6] rfl (by decide) rfl hl rfl (Nat.le_of_ble_eq_true rfl) d_Tree_countValues_33 ⟨Nat.le_of_ble_eq_true rfl, Nat.le_of_ble_eq_true rfl⟩) hP hD hS hA [0, 1, 2, 3, 4, 5, 6] [] rfl rfl (by decide) (by decide) (fun r_8 u_9 H locs hw_10 hP hD hS => ?_)
          try dsimp only at hw_10
          have h_11 := hw_10
          subst h_11
          have hP : va_P G.1 vwCl [(t, .inr (2, [.ref ka, .ref na, .ref ga, .ref sa, .ref xr, .int size])), (ka, .inl (G.2.1 0, 1000, .inl kf)), (na, .inl (G.2.1 1, 1000, .inl nf)), (ga, .inl (G.2.1 1, 1000, .inl gf)), (sa, .inl (G.2.1 1, 1000, .inl sf)), (xr, .inr (1, [.ref xa, .int xsz])), (xa, .inl (G.2.1 0, 1000, .inl xf))] H := hP
          have hD : va_D A [(t, .inr (2, [.ref ka, .ref na, .ref ga, .ref sa, .ref xr, .int size])), (ka, .inl (G.2.1 0, 1000, .inl kf)), (na, .inl (G.2.1 1, 1000, .inl nf)), (ga, .inl (G.2.1 1, 1000, .inl gf)), (sa, .inl (G.2.1 1, 1000, .inl sf)), (xr, .inr (1, [.ref xa, .int xsz])), (xa, .inl (G.2.1 0, 1000, .inl xf))] := hD
          refine lv_isub hx hb d_Tree_countValues_36 ?_
          refine lv_topi (fun y_12 ey_12 => ?_)
          refine lv_goto (tgt := 41) hx hb d_Tree_countValues_37 (by decide) ?_
          exact J_41 y_12 (by first | assumption | trivial | (try dsimp only; omega)) _ _ (hP.sub [0, 1, 2, 3, 4, 5, 6] rfl) (hD.sub [0, 1, 2, 3, 4, 5, 6] (by decide) rfl) hS _ (lv_sub hl [0, 1, 2, 3, 4] rfl)
  refine lv_iconst (v := 0) hx hb d_Tree_countValues_0 (by decide) ?_
  refine lv_istore_n (lv' := [(2, .int 0), (0, .ref t), (1, .int i)]) hx hb d_Tree_countValues_1 rfl hl (by decide) rfl (fun ls hl => ?_)
  refine lv_aload_n hx hb d_Tree_countValues_2 rfl (lv_at hl 1 rfl) ?_
  refine lv_iload_n hx hb d_Tree_countValues_3 rfl (lv_at hl 2 rfl) ?_
  refine gc_i (wr := []) (gc_V (wc := [(t, .inr (2, [.ref ka, .ref na, .ref ga, .ref sa, .ref xr, .int size])), (ka, .inl (G.2.1 0, 1000, .inl kf)), (na, .inl (G.2.1 1, 1000, .inl nf)), (ga, .inl (G.2.1 1, 1000, .inl gf)), (sa, .inl (G.2.1 1, 1000, .inl sf)), (xr, .inr (1, [.ref xa, .int xsz])), (xa, .inl (G.2.1 0, 1000, .inl xf))]) (As := [.int i]) (rest := []) ⟨hx, hb, hml, hown, hw⟩ (c_Tree_after l G t ka na ga sa xr xa kf nf gf sf size xsz xf i hs hxs H.size) (cwV 1 hw (good_V m_215 m_216 m_217 m_3 m_218) rfl rfl rfl hy_Tree_after ⟨Nat.le_of_ble_eq_true rfl, Nat.le_of_ble_eq_true rfl⟩) hE hP hD hS hA (va_recv hE.1 hP (ci := 2) (q0 := 0) rfl rfl) [0, 1, 2, 3, 4, 5, 6] rfl (by decide) rfl hl rfl (Nat.le_of_ble_eq_true rfl) d_Tree_countValues_4 ⟨Nat.le_of_ble_eq_true rfl, Nat.le_of_ble_eq_true rfl⟩) hP hD hS hA [0, 1, 2, 3, 4, 5, 6] [] rfl rfl (by decide) (by decide) (fun r_13 u_14 H locs hw_15 hP hD hS => ?_)
  have hP : va_P G.1 vwCl [(t, .inr (2, [.ref ka, .ref na, .ref ga, .ref sa, .ref xr, .int size])), (ka, .inl (G.2.1 0, 1000, .inl kf)), (na, .inl (G.2.1 1, 1000, .inl nf)), (ga, .inl (G.2.1 1, 1000, .inl gf)), (sa, .inl (G.2.1 1, 1000, .inl sf)), (xr, .inr (1, [.ref xa, .int xsz])), (xa, .inl (G.2.1 0, 1000, .inl xf))] H := hP
  have hD : va_D A [(t, .inr (2, [.ref ka, .ref na, .ref ga, .ref sa, .ref xr, .int size])), (ka, .inl (G.2.1 0, 1000, .inl kf)), (na, .inl (G.2.1 1, 1000, .inl nf)), (ga, .inl (G.2.1 1, 1000, .inl gf)), (sa, .inl (G.2.1 1, 1000, .inl sf)), (xr, .inr (1, [.ref xa, .int xsz])), (xa, .inl (G.2.1 0, 1000, .inl xf))] := hD
  refine lv_istore_n (lv' := [(3, .int r_13), (2, .int 0), (0, .ref t), (1, .int i)]) hx hb d_Tree_countValues_7 rfl hl (by decide) rfl (fun ls hl => ?_)
  refine lv_iload_n hx hb d_Tree_countValues_8 rfl (lv_at hl 3 rfl) ?_
  refine lv_istore (lv' := [(4, .int i), (3, .int r_13), (2, .int 0), (0, .ref t), (1, .int i)]) hx hb d_Tree_countValues_9 hl (by decide) rfl (fun ls hl => ?_)
  exact J_11 _ i r_13 0 (Nat.lt_succ_self _) _ _ (hP.sub [0, 1, 2, 3, 4, 5, 6] rfl) (hD.sub [0, 1, 2, 3, 4, 5, 6] (by decide) rfl) hS _ (lv_sub hl [0, 1, 2, 3, 4] rfl)
