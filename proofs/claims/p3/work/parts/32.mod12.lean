def rm_K_init : Room := { frames := 1, cells := 4, slots := 9101, locals := 12 }
set_option maxHeartbeats 4000000 in
set_option maxRecDepth 100000 in
theorem k_M_init (l : Launch) (G : GG) (mm : Nat) : MV l y_M_init b_M_init 1 rm_K_init G [.ref mm] [(mm, .inr (5, [.null, .int 0, .int 0, .null, .null, .null, .int 0, .int 0, .null, .null, .null, .int 0]))] (fun (u : SM) => (mOk G u) ∧ (u.2.2.2.1 2 = 0)) (fun (u : SM) => mW G mm u) 4 9101 := by
  refine MV.of (cc := b_M_init) (maxL := 1) (C := R_M) (by decide +kernel) rfl (Nat.le_of_ble_eq_true rfl) ?_
  intro p e s m args below meth c A Q H ls hx hb hml hown hw hE hA hP hD hS hin ret hl
  have hl : lv_has ls 1 [(0, .ref mm)] := hl
  refine lv_aload_n hx hb d_M_init_0 rfl (lv_at hl 0 rfl) ?_
  refine W.objInit hx hb hown (hw _ m_452) (hw _ m_21) (hw _ m_oi) rfl (by rw [hml]; exact hl.1) rfl d_M_init_1 (Nat.le_of_ble_eq_true rfl) (Nat.le_of_ble_eq_true rfl) ?_
  refine W.eq (g2 := F0 m 4 ls []) rfl ?_
  refine lv_aload_n hx hb d_M_init_4 rfl (lv_at hl 0 rfl) ?_
  refine lv_bipush (v := 101) hx hb d_M_init_5 (by decide) ?_
  refine gc_newa (atype := .byte) (ty := .byte) (N' := 101) (a0 := (101, .inl (fun _ => 0))) hx hb (hw _ m_36) rfl hE hP hD hS hA 0 rfl (fun _ h => h) (fun _ => rfl) (by decide) (by decide) (by decide) (Nat.le_of_ble_eq_true rfl) (Nat.le_of_ble_eq_true rfl) d_M_init_7 (fun q_1 H hP hD hS => ?_)
  have hP : va_P G.1 vwCl [(mm, .inr (5, [.null, .int 0, .int 0, .null, .null, .null, .int 0, .int 0, .null, .null, .null, .int 0])), (q_1, .inl (G.2.1 0, 101, .inl (fun _ => 0)))] H := hP
  have hD : va_D A [(mm, .inr (5, [.null, .int 0, .int 0, .null, .null, .null, .int 0, .int 0, .null, .null, .null, .int 0])), (q_1, .inl (G.2.1 0, 101, .inl (fun _ => 0)))] := hD
  refine W.widen (k := 1) (n := 101) (Nat.le_of_ble_eq_true rfl) (Nat.le_of_ble_eq_true rfl) ?_
  refine va_putF (D := G.1) (ci := 5) (v := .ref q_1) (ty := (.array .byte)) (C := R_M) (T := F_M) (N := 12) hx hb hw i_M t_M t_M_ok n_M hown hE.1 hP hD hS 0 rfl rfl 3 (by decide) (hw _ m_456) (fun _ h9 => h9) rfl hin rfl (by decide +kernel) rfl rfl (Nat.le_of_ble_eq_true rfl) d_M_init_9 (fun H locs hP hD hS => ?_)
  have hP : va_P G.1 vwCl [(mm, .inr (5, [.null, .int 0, .int 0, .ref q_1, .null, .null, .int 0, .int 0, .null, .null, .null, .int 0])), (q_1, .inl (G.2.1 0, 101, .inl (fun _ => 0)))] H := hP
  have hD : va_D A [(mm, .inr (5, [.null, .int 0, .int 0, .ref q_1, .null, .null, .int 0, .int 0, .null, .null, .null, .int 0])), (q_1, .inl (G.2.1 0, 101, .inl (fun _ => 0)))] := hD
  refine lv_aload_n hx hb d_M_init_12 rfl (lv_at hl 0 rfl) ?_
  refine lv_sipush (v := 1000) hx hb d_M_init_13 (by decide) ?_
  refine gc_newa (atype := .byte) (ty := .byte) (N' := 1000) (a0 := (1000, .inl (fun _ => 0))) hx hb (hw _ m_36) rfl hE hP hD hS hA 0 rfl (fun _ h => h) (fun _ => rfl) (by decide) (by decide) (by decide) (Nat.le_of_ble_eq_true rfl) (Nat.le_of_ble_eq_true rfl) d_M_init_16 (fun q_2 H hP hD hS => ?_)
  have hP : va_P G.1 vwCl [(mm, .inr (5, [.null, .int 0, .int 0, .ref q_1, .null, .null, .int 0, .int 0, .null, .null, .null, .int 0])), (q_1, .inl (G.2.1 0, 101, .inl (fun _ => 0))), (q_2, .inl (G.2.1 0, 1000, .inl (fun _ => 0)))] H := hP
  have hD : va_D A [(mm, .inr (5, [.null, .int 0, .int 0, .ref q_1, .null, .null, .int 0, .int 0, .null, .null, .null, .int 0])), (q_1, .inl (G.2.1 0, 101, .inl (fun _ => 0))), (q_2, .inl (G.2.1 0, 1000, .inl (fun _ => 0)))] := hD
  refine W.widen (k := 2) (n := 1101) (Nat.le_of_ble_eq_true rfl) (Nat.le_of_ble_eq_true rfl) ?_
  refine va_putF (D := G.1) (ci := 5) (v := .ref q_2) (ty := (.array .byte)) (C := R_M) (T := F_M) (N := 12) hx hb hw i_M t_M t_M_ok n_M hown hE.1 hP hD hS 0 rfl rfl 4 (by decide) (hw _ m_457) (fun _ h9 => h9) rfl hin rfl (by decide +kernel) rfl rfl (Nat.le_of_ble_eq_true rfl) d_M_init_18 (fun H locs hP hD hS => ?_)
  have hP : va_P G.1 vwCl [(mm, .inr (5, [.null, .int 0, .int 0, .ref q_1, .ref q_2, .null, .int 0, .int 0, .null, .null, .null, .int 0])), (q_1, .inl (G.2.1 0, 101, .inl (fun _ => 0))), (q_2, .inl (G.2.1 0, 1000, .inl (fun _ => 0)))] H := hP
  have hD : va_D A [(mm, .inr (5, [.null, .int 0, .int 0, .ref q_1, .ref q_2, .null, .int 0, .int 0, .null, .null, .null, .int 0])), (q_1, .inl (G.2.1 0, 101, .inl (fun _ => 0))), (q_2, .inl (G.2.1 0, 1000, .inl (fun _ => 0)))] := hD
  refine lv_aload_n hx hb d_M_init_21 rfl (lv_at hl 0 rfl) ?_
  refine lv_sipush (v := 4000) hx hb d_M_init_22 (by decide) ?_
  refine gc_newa (atype := .byte) (ty := .byte) (N' := 4000) (a0 := (4000, .inl (fun _ => 0))) hx hb (hw _ m_36) rfl hE hP hD hS hA 0 rfl (fun _ h => h) (fun _ => rfl) (by decide) (by decide) (by decide) (Nat.le_of_ble_eq_true rfl) (Nat.le_of_ble_eq_true rfl) d_M_init_25 (fun q_3 H hP hD hS => ?_)
  have hP : va_P G.1 vwCl [(mm, .inr (5, [.null, .int 0, .int 0, .ref q_1, .ref q_2, .null, .int 0, .int 0, .null, .null, .null, .int 0])), (q_1, .inl (G.2.1 0, 101, .inl (fun _ => 0))), (q_2, .inl (G.2.1 0, 1000, .inl (fun _ => 0))), (q_3, .inl (G.2.1 0, 4000, .inl (fun _ => 0)))] H := hP
  have hD : va_D A [(mm, .inr (5, [.null, .int 0, .int 0, .ref q_1, .ref q_2, .null, .int 0, .int 0, .null, .null, .null, .int 0])), (q_1, .inl (G.2.1 0, 101, .inl (fun _ => 0))), (q_2, .inl (G.2.1 0, 1000, .inl (fun _ => 0))), (q_3, .inl (G.2.1 0, 4000, .inl (fun _ => 0)))] := hD
  refine W.widen (k := 3) (n := 5101) (Nat.le_of_ble_eq_true rfl) (Nat.le_of_ble_eq_true rfl) ?_
  refine va_putF (D := G.1) (ci := 5) (v := .ref q_3) (ty := (.array .byte)) (C := R_M) (T := F_M) (N := 12) hx hb hw i_M t_M t_M_ok n_M hown hE.1 hP hD hS 0 rfl rfl 5 (by decide) (hw _ m_458) (fun _ h9 => h9) rfl hin rfl (by decide +kernel) rfl rfl (Nat.le_of_ble_eq_true rfl) d_M_init_27 (fun H locs hP hD hS => ?_)
  have hP : va_P G.1 vwCl [(mm, .inr (5, [.null, .int 0, .int 0, .ref q_1, .ref q_2, .ref q_3, .int 0, .int 0, .null, .null, .null, .int 0])), (q_1, .inl (G.2.1 0, 101, .inl (fun _ => 0))), (q_2, .inl (G.2.1 0, 1000, .inl (fun _ => 0))), (q_3, .inl (G.2.1 0, 4000, .inl (fun _ => 0)))] H := hP
  have hD : va_D A [(mm, .inr (5, [.null, .int 0, .int 0, .ref q_1, .ref q_2, .ref q_3, .int 0, .int 0, .null, .null, .null, .int 0])), (q_1, .inl (G.2.1 0, 101, .inl (fun _ => 0))), (q_2, .inl (G.2.1 0, 1000, .inl (fun _ => 0))), (q_3, .inl (G.2.1 0, 4000, .inl (fun _ => 0)))] := hD
  refine lv_aload_n hx hb d_M_init_30 rfl (lv_at hl 0 rfl) ?_
  refine lv_sipush (v := 4000) hx hb d_M_init_31 (by decide) ?_
  refine gc_newa (atype := .byte) (ty := .byte) (N' := 4000) (a0 := (4000, .inl (fun _ => 0))) hx hb (hw _ m_36) rfl hE hP hD hS hA 0 rfl (fun _ h => h) (fun _ => rfl) (by decide) (by decide) (by decide) (Nat.le_of_ble_eq_true rfl) (Nat.le_of_ble_eq_true rfl) d_M_init_34 (fun q_4 H hP hD hS => ?_)
  have hP : va_P G.1 vwCl [(mm, .inr (5, [.null, .int 0, .int 0, .ref q_1, .ref q_2, .ref q_3, .int 0, .int 0, .null, .null, .null, .int 0])), (q_1, .inl (G.2.1 0, 101, .inl (fun _ => 0))), (q_2, .inl (G.2.1 0, 1000, .inl (fun _ => 0))), (q_3, .inl (G.2.1 0, 4000, .inl (fun _ => 0))), (q_4, .inl (G.2.1 0, 4000, .inl (fun _ => 0)))] H := hP
  have hD : va_D A [(mm, .inr (5, [.null, .int 0, .int 0, .ref q_1, .ref q_2, .ref q_3, .int 0, .int 0, .null, .null, .null, .int 0])), (q_1, .inl (G.2.1 0, 101, .inl (fun _ => 0))), (q_2, .inl (G.2.1 0, 1000, .inl (fun _ => 0))), (q_3, .inl (G.2.1 0, 4000, .inl (fun _ => 0))), (q_4, .inl (G.2.1 0, 4000, .inl (fun _ => 0)))] := hD
  refine W.widen (k := 4) (n := 9101) (Nat.le_of_ble_eq_true rfl) (Nat.le_of_ble_eq_true rfl) ?_
  refine va_putF (D := G.1) (ci := 5) (v := .ref q_4) (ty := (.array .byte)) (C := R_M) (T := F_M) (N := 12) hx hb hw i_M t_M t_M_ok n_M hown hE.1 hP hD hS 0 rfl rfl 10 (by decide) (hw _ m_463) (fun _ h9 => h9) rfl hin rfl (by decide +kernel) rfl rfl (Nat.le_of_ble_eq_true rfl) d_M_init_36 (fun H locs hP hD hS => ?_)
  have hP : va_P G.1 vwCl [(mm, .inr (5, [.null, .int 0, .int 0, .ref q_1, .ref q_2, .ref q_3, .int 0, .int 0, .null, .null, .ref q_4, .int 0])), (q_1, .inl (G.2.1 0, 101, .inl (fun _ => 0))), (q_2, .inl (G.2.1 0, 1000, .inl (fun _ => 0))), (q_3, .inl (G.2.1 0, 4000, .inl (fun _ => 0))), (q_4, .inl (G.2.1 0, 4000, .inl (fun _ => 0)))] H := hP
  have hD : va_D A [(mm, .inr (5, [.null, .int 0, .int 0, .ref q_1, .ref q_2, .ref q_3, .int 0, .int 0, .null, .null, .ref q_4, .int 0])), (q_1, .inl (G.2.1 0, 101, .inl (fun _ => 0))), (q_2, .inl (G.2.1 0, 1000, .inl (fun _ => 0))), (q_3, .inl (G.2.1 0, 4000, .inl (fun _ => 0))), (q_4, .inl (G.2.1 0, 4000, .inl (fun _ => 0)))] := hD
  have hq1 : 0 ≤ (0 : Int32).toInt ∧ (0 : Int32).toInt ≤ 1000 := by first | assumption | omega | (have h9 : (0 : Int32) = 0 := (by assumption); rw [h9]; exact ⟨by decide, by decide⟩) | exact ⟨by decide, by decide⟩
  have hq2 : 0 ≤ (0 : Int32).toInt ∧ (0 : Int32).toInt ≤ 4000 := by first | assumption | omega | (have h9 : (0 : Int32) = 0 := (by assumption); rw [h9]; exact ⟨by decide, by decide⟩) | exact ⟨by decide, by decide⟩
  exact ret (.null, (none, none), (fun k => [q_2, q_1, q_3, q_4].getD k 0), (fun k => [0, 0, 0, 0, 0].getD k 0), (fun k => [(fun _ => 0), (fun _ => 0), (fun _ => 0), (fun _ => 0)].getD k (fun _ => 0)), []) (Nat.le_of_ble_eq_true rfl) (Nat.le_of_ble_eq_true rfl) d_M_init_39 ⟨⟨hq1, hq2, sb_fit0, sb_fit0, sb_fit0, sb_fit0, mp_none, mp_none⟩, rfl⟩ (hP.sub [0, 2, 1, 3, 4] rfl) (hD.sub [0, 2, 1, 3, 4] (by decide) rfl) hS
theorem k_M_feed (l : Launch) (G : GG) (mm : Nat) (u : SM) (f1 : Int32) (f2 : Int32) (f3 : Int32) (f4 : Int32) (f5 : Int32) (h : mOk G u) : MI l y_M_feed b_M_feed 8 .int rm_K_feed G [.ref mm, .int f1, .int f2, .int f3, .int f4, .int f5] (mW G mm u) (fun (v : Int32) (w : SM) => mOk G w ∧ v = fdV (u.2.2.2.1 2) ∧ w.2.2.2.1 2 = fdT (u.2.2.2.1 2)) (fun w => mW G mm w) 1 5 := by
  obtain ⟨tx, ⟨al, pt⟩, ad, iv, fv, pl⟩ := u
  obtain ⟨h1, h2, h3, h4, h5, h6, h7, h8⟩ := h
  exact c_K_feed l G mm (ad 0) (ad 1) (ad 2) (ad 3) (iv 0) (iv 1) (iv 2) (iv 3) (iv 4) tx al pt (fv 0) (fv 1) (fv 2) (fv 3) f1 f2 f3 f4 f5 pl h1 h2 h3 h4 h5 h6 h7 h8
theorem k_M_end (l : Launch) (G : GG) (mm : Nat) (u : SM) (n : Int32) (h : mOk G u) : MI l y_M_end b_M_end 2 .int rm_K_end G [.ref mm, .int n] (mW G mm u) (fun (v : Int32) (w : SM) => mOk G w ∧ v = edV (u.2.2.2.1 2) n ∧ w.2.2.2.1 2 = edT (u.2.2.2.1 2) n) (fun w => mW G mm w) 0 0 := by
  obtain ⟨tx, ⟨al, pt⟩, ad, iv, fv, pl⟩ := u
  obtain ⟨h1, h2, h3, h4, h5, h6, h7, h8⟩ := h
  exact c_K_end l G mm (ad 0) (ad 1) (ad 2) (ad 3) (iv 0) (iv 1) (iv 2) (iv 3) (iv 4) tx al pt (fv 0) (fv 1) (fv 2) (fv 3) n pl h1 h2 h3 h4 h5 h6 h7 h8
theorem k_M_octet (l : Launch) (G : GG) (mm : Nat) (u : SM) (i : Int32) (h : mOk G u) : MI l y_M_octet b_M_octet 2 .int rm_K_octet G [.ref mm, .int i] (mW G mm u) (fun (v : Int32) (w : SM) => mOk G w ∧ w.2.2.2.1 2 = u.2.2.2.1 2) (fun w => mW G mm w) 0 0 := by
  obtain ⟨tx, ⟨al, pt⟩, ad, iv, fv, pl⟩ := u
  obtain ⟨h1, h2, h3, h4, h5, h6, h7, h8⟩ := h
  exact c_K_octet l G mm (ad 0) (ad 1) (ad 2) (ad 3) (iv 0) (iv 1) (iv 2) (iv 3) (iv 4) tx al pt (fv 0) (fv 1) (fv 2) (fv 3) i pl h1 h2 h3 h4 h5 h6 h7 h8
theorem k_M_read (l : Launch) (G : GG) (mm : Nat) (u : SM) (h : mOk G u) : MI l y_M_read b_M_read 2 .int (rm_M_read (u.2.2.2.1 2).toInt.toNat) G [.ref mm] (mW G mm u) (fun (v : Int32) (w : SM) => mOk G w ∧ w.2.2.2.1 2 = 0) (fun w => mW G mm w) (3 * (u.2.2.2.1 2).toInt.toNat + 41) (140 * (u.2.2.2.1 2).toInt.toNat + 2700) := by
  obtain ⟨tx, ⟨al, pt⟩, ad, iv, fv, pl⟩ := u
  obtain ⟨h1, h2, h3, h4, h5, h6, h7, h8⟩ := h
  exact c_K_read l G mm (ad 0) (ad 1) (ad 2) (ad 3) (iv 0) (iv 1) (iv 2) (iv 3) (iv 4) tx al pt (fv 0) (fv 1) (fv 2) (fv 3) pl h1 h2 h3 h4 h5 h6 h7 h8
theorem k_M_top (l : Launch) (G : GG) (mm : Nat) (u : SM) (h : mOk G u) : MI l y_M_top b_M_top 1 .int rm_K_top G [.ref mm] (mW G mm u) (fun (v : Int32) (w : SM) => mOk G w ∧ w.2.2.2.1 2 = u.2.2.2.1 2) (fun w => mW G mm w) 0 0 := by
  obtain ⟨tx, ⟨al, pt⟩, ad, iv, fv, pl⟩ := u
  obtain ⟨h1, h2, h3, h4, h5, h6, h7, h8⟩ := h
  cases al with
  | none => exact c_K_top_0 l G mm (ad 0) (ad 1) (ad 2) (ad 3) (iv 0) (iv 1) (iv 2) (iv 3) (iv 4) tx pt (fv 0) (fv 1) (fv 2) (fv 3) pl h1 h2 h3 h4 h5 h6 h7 h8
  | some pa => exact c_K_top_1 l G mm (ad 0) (ad 1) (ad 2) (ad 3) (iv 0) (iv 1) (iv 2) (iv 3) (iv 4) tx pa pt (fv 0) (fv 1) (fv 2) (fv 3) pl h1 h2 h3 h4 h5 h6 h7 h8
theorem k_M_item (l : Launch) (G : GG) (mm : Nat) (u : SM) (i : Int32) (h : mOk G u) : MI l y_M_item b_M_item 2 .int rm_K_item G [.ref mm, .int i] (mW G mm u) (fun (v : Int32) (w : SM) => mOk G w ∧ w.2.2.2.1 2 = u.2.2.2.1 2) (fun w => mW G mm w) 0 0 := by
  obtain ⟨tx, ⟨al, pt⟩, ad, iv, fv, pl⟩ := u
  obtain ⟨h1, h2, h3, h4, h5, h6, h7, h8⟩ := h
  cases pt with
  | none => exact c_K_item_0 l G mm (ad 0) (ad 1) (ad 2) (ad 3) (iv 0) (iv 1) (iv 2) (iv 3) (iv 4) tx al (fv 0) (fv 1) (fv 2) (fv 3) i pl h1 h2 h3 h4 h5 h6 h7 h8
  | some pp =>
    rcases h8.view with ⟨kd, x, y, it, hc, hk⟩ | ⟨kd, x, y, it, q, n, f, hc, hq, hf, hn⟩ | ⟨x, y, m, q, n, g, hc, hq, hm, hI⟩ | ⟨x, y, m, q, n, g, qn, nn, gn, hc, hq, hqn, hm, hI, hN⟩
    · exact c_K_item_1 l G mm (ad 0) (ad 1) (ad 2) (ad 3) (iv 0) (iv 1) (iv 2) (iv 3) (iv 4) tx al pp (fv 0) (fv 1) (fv 2) (fv 3) i kd x y .null it .null pl h1 h2 h3 h4 h5 h6 h7 h8 hc
    · exact c_K_item_1 l G mm (ad 0) (ad 1) (ad 2) (ad 3) (iv 0) (iv 1) (iv 2) (iv 3) (iv 4) tx al pp (fv 0) (fv 1) (fv 2) (fv 3) i kd x y (.ref q) it .null pl h1 h2 h3 h4 h5 h6 h7 h8 hc
    · exact c_K_item_2 l G mm (ad 0) (ad 1) (ad 2) (ad 3) (iv 0) (iv 1) (iv 2) (iv 3) (iv 4) tx al pp (fv 0) (fv 1) (fv 2) (fv 3) i 6 x y .null .null m q n g pl h1 h2 h3 h4 h5 h6 h7 h8 hc hq hm hI
    · exact c_K_item_2 l G mm (ad 0) (ad 1) (ad 2) (ad 3) (iv 0) (iv 1) (iv 2) (iv 3) (iv 4) tx al pp (fv 0) (fv 1) (fv 2) (fv 3) i 7 x y .null (.ref qn) m q n g pl h1 h2 h3 h4 h5 h6 h7 h8 hc hq ⟨hm.1, hm.2.1, hm.2.2.1⟩ hI
theorem k_M_find (l : Launch) (G : GG) (mm : Nat) (u : SM) (h : mOk G u) : MI l y_M_find b_M_find 2 .int rm_K_find G [.ref mm] (mW G mm u) (fun (v : Int32) (w : SM) => mOk G w ∧ w.2.2.2.1 2 = 0) (fun w => mW G mm w) 0 0 := by
  obtain ⟨tx, ⟨al, pt⟩, ad, iv, fv, pl⟩ := u
  obtain ⟨h1, h2, h3, h4, h5, h6, h7, h8⟩ := h
  cases pt with
  | none => exact c_K_find_0 l G mm (ad 0) (ad 1) (ad 2) (ad 3) (iv 0) (iv 1) (iv 2) (iv 3) (iv 4) tx al (fv 0) (fv 1) (fv 2) (fv 3) pl h1 h2 h3 h4 h5 h6 h7 h8
  | some pp =>
    rcases h8.view with ⟨kd, x, y, it, hc, hk⟩ | ⟨kd, x, y, it, q, n, f, hc, hq, hf, hn⟩ | ⟨x, y, m, q, n, g, hc, hq, hm, hI⟩ | ⟨x, y, m, q, n, g, qn, nn, gn, hc, hq, hqn, hm, hI, hN⟩
    · exact c_K_find_1 l G mm (ad 0) (ad 1) (ad 2) (ad 3) (iv 0) (iv 1) (iv 2) (iv 3) (iv 4) tx al pp (fv 0) (fv 1) (fv 2) (fv 3) kd x y 0 .null it pl h1 h2 h3 h4 h5 h6 h7 h8 hc
    · exact c_K_find_1 l G mm (ad 0) (ad 1) (ad 2) (ad 3) (iv 0) (iv 1) (iv 2) (iv 3) (iv 4) tx al pp (fv 0) (fv 1) (fv 2) (fv 3) kd x y 0 (.ref q) it pl h1 h2 h3 h4 h5 h6 h7 h8 hc
    · exact c_K_find_1 l G mm (ad 0) (ad 1) (ad 2) (ad 3) (iv 0) (iv 1) (iv 2) (iv 3) (iv 4) tx al pp (fv 0) (fv 1) (fv 2) (fv 3) 6 x y (nI m) .null (.ref q) pl h1 h2 h3 h4 h5 h6 h7 h8 hc
    · exact c_K_find_2 l G mm (ad 0) (ad 1) (ad 2) (ad 3) (iv 0) (iv 1) (iv 2) (iv 3) (iv 4) tx al pp (fv 0) (fv 1) (fv 2) (fv 3) x y .null m q n g qn nn gn pl h1 h2 h3 h4 h5 h6 h7 h8 hc hq ⟨hm.1, hm.2.1, hm.2.2.1⟩ hI hqn hm.2.2.2 hN
theorem k_M_look (l : Launch) (G : GG) (mm : Nat) (u : SM) (i : Int32) (h : mOk G u) : MI l y_M_look b_M_look 2 .int rm_K_look G [.ref mm, .int i] (mW G mm u) (fun (v : Int32) (w : SM) => mOk G w ∧ w.2.2.2.1 2 = u.2.2.2.1 2) (fun w => mW G mm w) 0 0 := by
  obtain ⟨tx, ⟨al, pt⟩, ad, iv, fv, pl⟩ := u
  obtain ⟨h1, h2, h3, h4, h5, h6, h7, h8⟩ := h
  cases pt with
  | none => exact c_K_look_0 l G mm (ad 0) (ad 1) (ad 2) (ad 3) (iv 0) (iv 1) (iv 2) (iv 3) (iv 4) tx al (fv 0) (fv 1) (fv 2) (fv 3) i pl h1 h2 h3 h4 h5 h6 h7 h8
  | some pp =>
    rcases h8.view with ⟨kd, x, y, it, hc, hk⟩ | ⟨kd, x, y, it, q, n, f, hc, hq, hf, hn⟩ | ⟨x, y, m, q, n, g, hc, hq, hm, hI⟩ | ⟨x, y, m, q, n, g, qn, nn, gn, hc, hq, hqn, hm, hI, hN⟩
    · exact c_K_look_1 l G mm (ad 0) (ad 1) (ad 2) (ad 3) (iv 0) (iv 1) (iv 2) (iv 3) (iv 4) tx al pp (fv 0) (fv 1) (fv 2) (fv 3) i kd x y 0 it .null pl h1 h2 h3 h4 h5 h6 h7 h8 hc
    · exact c_K_look_2 l G mm (ad 0) (ad 1) (ad 2) (ad 3) (iv 0) (iv 1) (iv 2) (iv 3) (iv 4) tx al pp (fv 0) (fv 1) (fv 2) (fv 3) i kd x y 0 it .null q n f pl h1 h2 h3 h4 h5 h6 h7 h8 hc hq
    · exact c_K_look_1 l G mm (ad 0) (ad 1) (ad 2) (ad 3) (iv 0) (iv 1) (iv 2) (iv 3) (iv 4) tx al pp (fv 0) (fv 1) (fv 2) (fv 3) i 6 x y (nI m) (.ref q) .null pl h1 h2 h3 h4 h5 h6 h7 h8 hc
    · exact c_K_look_1 l G mm (ad 0) (ad 1) (ad 2) (ad 3) (iv 0) (iv 1) (iv 2) (iv 3) (iv 4) tx al pp (fv 0) (fv 1) (fv 2) (fv 3) i 7 x y (nI m) (.ref q) (.ref qn) pl h1 h2 h3 h4 h5 h6 h7 h8 hc
theorem k_M_bytes (l : Launch) (G : GG) (mm : Nat) (u : SM) (i : Int32) (h : mOk G u) : MI l y_M_bytes b_M_bytes 2 .int rm_K_bytes G [.ref mm, .int i] (mW G mm u) (fun (v : Int32) (w : SM) => mOk G w ∧ w.2.2.2.1 2 = u.2.2.2.1 2) (fun w => mW G mm w) 0 0 := by
  obtain ⟨tx, ⟨al, pt⟩, ad, iv, fv, pl⟩ := u
  obtain ⟨h1, h2, h3, h4, h5, h6, h7, h8⟩ := h
  cases pt with
  | none => exact c_K_bytes_0 l G mm (ad 0) (ad 1) (ad 2) (ad 3) (iv 0) (iv 1) (iv 2) (iv 3) (iv 4) tx al (fv 0) (fv 1) (fv 2) (fv 3) i pl h1 h2 h3 h4 h5 h6 h7 h8
  | some pp =>
    rcases h8.view with ⟨kd, x, y, it, hc, hk⟩ | ⟨kd, x, y, it, q, n, f, hc, hq, hf, hn⟩ | ⟨x, y, m, q, n, g, hc, hq, hm, hI⟩ | ⟨x, y, m, q, n, g, qn, nn, gn, hc, hq, hqn, hm, hI, hN⟩
    · exact c_K_bytes_1 l G mm (ad 0) (ad 1) (ad 2) (ad 3) (iv 0) (iv 1) (iv 2) (iv 3) (iv 4) tx al pp (fv 0) (fv 1) (fv 2) (fv 3) i kd x y 0 it pl h1 h2 h3 h4 h5 h6 h7 h8 hc hk
    · exact c_K_bytes_2 l G mm (ad 0) (ad 1) (ad 2) (ad 3) (iv 0) (iv 1) (iv 2) (iv 3) (iv 4) tx al pp (fv 0) (fv 1) (fv 2) (fv 3) i kd x y 0 it q n f pl h1 h2 h3 h4 h5 h6 h7 h8 hc hq hf hn
    · exact c_K_bytes_1 l G mm (ad 0) (ad 1) (ad 2) (ad 3) (iv 0) (iv 1) (iv 2) (iv 3) (iv 4) tx al pp (fv 0) (fv 1) (fv 2) (fv 3) i 6 x y (nI m) (.ref q) pl h1 h2 h3 h4 h5 h6 h7 h8 hc (by decide)
    · exact c_K_bytes_3 l G mm (ad 0) (ad 1) (ad 2) (ad 3) (iv 0) (iv 1) (iv 2) (iv 3) (iv 4) tx al pp (fv 0) (fv 1) (fv 2) (fv 3) i x y m (.ref q) qn nn gn pl h1 h2 h3 h4 h5 h6 h7 h8 hc hm.1 hqn hm.2.2.2 hN
theorem k_M_write (l : Launch) (G : GG) (mm : Nat) (u : SM) (h : mOk G u) : MI l y_M_write b_M_write 1 .int rm_K_write G [.ref mm] (mW G mm u) (fun (v : Int32) (w : SM) => mOk G w ∧ w.2.2.2.1 2 = u.2.2.2.1 2) (fun w => mW G mm w) 0 0 := by
  obtain ⟨tx, ⟨al, pt⟩, ad, iv, fv, pl⟩ := u
  obtain ⟨h1, h2, h3, h4, h5, h6, h7, h8⟩ := h
  cases pt with
  | none => exact c_K_write_0 l G mm (ad 0) (ad 1) (ad 2) (ad 3) (iv 0) (iv 1) (iv 2) (iv 3) (iv 4) tx al (fv 0) (fv 1) (fv 2) (fv 3) pl h1 h2 h3 h4 h5 h6 h7 h8
  | some pp => exact c_K_write_1 l G mm (ad 0) (ad 1) (ad 2) (ad 3) (iv 0) (iv 1) (iv 2) (iv 3) (iv 4) tx al pp (fv 0) (fv 1) (fv 2) (fv 3) pl h1 h2 h3 h4 h5 h6 h7 h8
