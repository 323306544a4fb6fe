def rm_Str_coder : Room := { frames := 0, cells := 0, slots := 0, locals := 0 }
set_option maxHeartbeats 4000000 in
set_option maxRecDepth 100000 in
theorem c_Str_coder (l : Launch) (G : GG) (k : Nat) (hk : k < nS) : MI l y_Str_coder b_Str_coder 1 .byte rm_Str_coder G [.ref (G.2.2.1 k)] [] (fun (v : Int32) (u : Unit) => (0 = v)) (fun (u : Unit) => []) 0 0 := by
  refine MI.of (cc := b_Str_coder) (maxL := 1) (ty := .byte) (C := R_Str) (by decide +kernel) rfl (Nat.le_of_ble_eq_true rfl) ?_
  intro p e s m args below meth c A Q H ls hx hb hml hown hw hE hA hP hD hS ret hl
  have hl : lv_has ls 1 [(0, .ref (G.2.2.1 k))] := hl
  refine va_gets (v := .int 1) hx hb hE.2.2.1 hS hown (hw _ m_273) (fun _ h9 => h9) d_Str_coder_0 ?_
  refine lv_if_eq (tgt := 13) hx hb d_Str_coder_3 (by decide) (fun c_1 => ?_) (fun c_1 => ?_)
  · exact absurd c_1 (by decide)
  · refine lv_aload_n hx hb d_Str_coder_6 rfl (lv_at hl 0 rfl) ?_
    refine vk_getf (v := .int 0) hx hb (((hE.2.1 k hk).1.1 0 (by decide)).2.1) hS hown (hw _ m_745) (fun _ h9 => h9) d_Str_coder_7 ?_
    refine lv_goto (tgt := 14) hx hb d_Str_coder_10 (by decide) ?_
    exact ret 0 () (Nat.le_of_ble_eq_true rfl) (Nat.le_of_ble_eq_true rfl) d_Str_coder_14 rfl rfl (hP.sub [] rfl) (hD.sub [] (by decide) rfl) hS
def rm_Str_isLatin1 : Room := { frames := 0, cells := 0, slots := 0, locals := 0 }
set_option maxHeartbeats 4000000 in
set_option maxRecDepth 100000 in
theorem c_Str_isLatin1 (l : Launch) (G : GG) (k : Nat) (hk : k < nS) : MI l y_Str_isLatin1 b_Str_isLatin1 1 .boolean rm_Str_isLatin1 G [.ref (G.2.2.1 k)] [] (fun (v : Int32) (u : Unit) => (1 = v)) (fun (u : Unit) => []) 0 0 := by
  refine MI.of (cc := b_Str_isLatin1) (maxL := 1) (ty := .boolean) (C := R_Str) (by decide +kernel) rfl (Nat.le_of_ble_eq_true rfl) ?_
  intro p e s m args below meth c A Q H ls hx hb hml hown hw hE hA hP hD hS ret hl
  have hl : lv_has ls 1 [(0, .ref (G.2.2.1 k))] := hl
  refine va_gets (v := .int 1) hx hb hE.2.2.1 hS hown (hw _ m_273) (fun _ h9 => h9) d_Str_isLatin1_0 ?_
  refine lv_if_eq (tgt := 17) hx hb d_Str_isLatin1_3 (by decide) (fun c_1 => ?_) (fun c_1 => ?_)
  · exact absurd c_1 (by decide)
  · refine lv_aload_n hx hb d_Str_isLatin1_6 rfl (lv_at hl 0 rfl) ?_
    refine vk_getf (v := .int 0) hx hb (((hE.2.1 k hk).1.1 0 (by decide)).2.1) hS hown (hw _ m_745) (fun _ h9 => h9) d_Str_isLatin1_7 ?_
    refine lv_if_ne (tgt := 17) hx hb d_Str_isLatin1_10 (by decide) (fun c_2 => ?_) (fun c_2 => ?_)
    · exact absurd c_2 (by decide)
    · refine lv_iconst (v := 1) hx hb d_Str_isLatin1_13 (by decide) ?_
      refine lv_goto (tgt := 18) hx hb d_Str_isLatin1_14 (by decide) ?_
      exact ret 1 () (Nat.le_of_ble_eq_true rfl) (Nat.le_of_ble_eq_true rfl) d_Str_isLatin1_18 rfl rfl (hP.sub [] rfl) (hD.sub [] (by decide) rfl) hS
def rm_Str_length : Room := { frames := 1, cells := 0, slots := 0, locals := 20 }
set_option maxHeartbeats 4000000 in
set_option maxRecDepth 100000 in
theorem c_Str_length (l : Launch) (G : GG) (k : Nat) (hk : k < nS) : MI l y_Str_length b_Str_length 1 .int rm_Str_length G [.ref (G.2.2.1 k)] [] (fun (v : Int32) (u : Unit) => (nI (lenS.getD k 0) = v)) (fun (u : Unit) => []) 0 0 := by
  refine MI.of (cc := b_Str_length) (maxL := 1) (ty := .int) (C := R_Str) (by decide +kernel) rfl (Nat.le_of_ble_eq_true rfl) ?_
  intro p e s m args below meth c A Q H ls hx hb hml hown hw hE hA hP hD hS ret hl
  have hl : lv_has ls 1 [(0, .ref (G.2.2.1 k))] := hl
  refine lv_aload_n hx hb d_Str_length_0 rfl (lv_at hl 0 rfl) ?_
  refine vk_getf (v := .ref (G.2.2.2 k)) hx hb (((hE.2.1 k hk).1.1 0 (by decide)).2.2.1) hS hown (hw _ m_744) (fun _ h9 => h9) d_Str_length_1 ?_
  refine va_tlen (v := nI (lenS.getD k 0)) hx hb (((hE.2.1 k hk).1.1 0 (by decide)).2.2.2) hS rfl d_Str_length_4 ?_
  refine lv_aload_n hx hb d_Str_length_5 rfl (lv_at hl 0 rfl) ?_
  refine gc_i (wr := []) (gc_V (wc := []) (As := []) (rest := [.int (nI (lenS.getD k 0))]) ⟨hx, hb, hml, hown, hw⟩ (c_Str_coder l G k hk H.size) (cwV 0 hw (good_V m_269 m_270 m_271 m_6 m_272) rfl rfl rfl hy_Str_coder ⟨Nat.le_of_ble_eq_true rfl, Nat.le_of_ble_eq_true rfl⟩) hE hP hD hS hA (vk_recv (hE.2.1 k hk).1 (i := 0) (by decide) hS) [] rfl (by decide) rfl hl rfl (Nat.le_of_ble_eq_true rfl) d_Str_length_6 ⟨Nat.le_of_ble_eq_true rfl, Nat.le_of_ble_eq_true rfl⟩) hP hD hS hA [] [] rfl rfl (by decide) (by decide) (fun r_1 u_2 H locs hw_3 hP hD hS => ?_)
  try dsimp only at hw_3
  have h_4 := hw_3
  subst h_4
  have hP : va_P G.1 vwCl [] H := hP
  have hD : va_D A [] := hD
  refine lv_ishr hx hb d_Str_length_9 ?_
  refine lv_topi (fun y_5 ey_5 => ?_)
  exact ret y_5 () (Nat.le_of_ble_eq_true rfl) (Nat.le_of_ble_eq_true rfl) d_Str_length_10 rfl (by rw [ey_5]; exact (sb_shr0 _).symm) (hP.sub [] rfl) (hD.sub [] (by decide) rfl) hS
def rm_Pre_checkIndex_0 : Room := { frames := 0, cells := 0, slots := 0, locals := 0 }
set_option maxHeartbeats 4000000 in
set_option maxRecDepth 100000 in
theorem c_Pre_checkIndex_0 (l : Launch) (G : GG) (i : Int32) (n : Int32) (hi : 0 ≤ i.toInt ∧ i.toInt < n.toInt) : MI l y_Pre_checkIndex b_Pre_checkIndex 3 .int rm_Pre_checkIndex_0 G [.int i, .int n, .null] [] (fun (v : Int32) (u : Unit) => True) (fun (u : Unit) => []) 0 0 := by
  refine MI.of (cc := b_Pre_checkIndex) (maxL := 3) (ty := .int) (C := R_Pre) (by decide +kernel) rfl (Nat.le_of_ble_eq_true rfl) ?_
  intro p e s m args below meth c A Q H ls hx hb hml hown hw hE hA hP hD hS ret hl
  have hl : lv_has ls 3 [(0, .int i), (1, .int n), (2, .null)] := hl
  refine lv_iload_n hx hb d_Pre_checkIndex_0 rfl (lv_at hl 0 rfl) ?_
  refine lv_if_lt (tgt := 9) hx hb d_Pre_checkIndex_1 (by decide) (fun c_1 => ?_) (fun c_1 => ?_)
  · exact absurd hi (by first | (rw [z_lt, z_0] at c_1; omega) | (rw [z_lt] at c_2; omega))
  · refine lv_iload_n hx hb d_Pre_checkIndex_4 rfl (lv_at hl 0 rfl) ?_
    refine lv_iload_n hx hb d_Pre_checkIndex_5 rfl (lv_at hl 1 rfl) ?_
    refine lv_icmp_lt (tgt := 16) hx hb d_Pre_checkIndex_6 (by decide) (fun c_2 => ?_) (fun c_2 => ?_)
    · refine lv_iload_n hx hb d_Pre_checkIndex_16 rfl (lv_at hl 0 rfl) ?_
      exact ret i () (Nat.le_of_ble_eq_true rfl) (Nat.le_of_ble_eq_true rfl) d_Pre_checkIndex_17 rfl trivial (hP.sub [] rfl) (hD.sub [] (by decide) rfl) hS
    · exact absurd hi (by first | (rw [z_lt, z_0] at c_1; omega) | (rw [z_lt] at c_2; omega))
def rm_Pre_checkIndex_1 : Room := { frames := 0, cells := 0, slots := 0, locals := 0 }
set_option maxHeartbeats 4000000 in
set_option maxRecDepth 100000 in
theorem c_Pre_checkIndex_1 (l : Launch) (G : GG) (i : Int32) (n : Int32) (q : Nat) (hi : 0 ≤ i.toInt ∧ i.toInt < n.toInt) : MI l y_Pre_checkIndex b_Pre_checkIndex 3 .int rm_Pre_checkIndex_1 G [.int i, .int n, .ref q] [] (fun (v : Int32) (u : Unit) => True) (fun (u : Unit) => []) 0 0 := by
  refine MI.of (cc := b_Pre_checkIndex) (maxL := 3) (ty := .int) (C := R_Pre) (by decide +kernel) rfl (Nat.le_of_ble_eq_true rfl) ?_
  intro p e s m args below meth c A Q H ls hx hb hml hown hw hE hA hP hD hS ret hl
  have hl : lv_has ls 3 [(0, .int i), (1, .int n), (2, .ref q)] := hl
  refine lv_iload_n hx hb d_Pre_checkIndex_0 rfl (lv_at hl 0 rfl) ?_
  refine lv_if_lt (tgt := 9) hx hb d_Pre_checkIndex_1 (by decide) (fun c_1 => ?_) (fun c_1 => ?_)
  · exact absurd hi (by first | (rw [z_lt, z_0] at c_1; omega) | (rw [z_lt] at c_2; omega))
  · refine lv_iload_n hx hb d_Pre_checkIndex_4 rfl (lv_at hl 0 rfl) ?_
    refine lv_iload_n hx hb d_Pre_checkIndex_5 rfl (lv_at hl 1 rfl) ?_
    refine lv_icmp_lt (tgt := 16) hx hb d_Pre_checkIndex_6 (by decide) (fun c_2 => ?_) (fun c_2 => ?_)
    · refine lv_iload_n hx hb d_Pre_checkIndex_16 rfl (lv_at hl 0 rfl) ?_
      exact ret i () (Nat.le_of_ble_eq_true rfl) (Nat.le_of_ble_eq_true rfl) d_Pre_checkIndex_17 rfl trivial (hP.sub [] rfl) (hD.sub [] (by decide) rfl) hS
    · exact absurd hi (by first | (rw [z_lt, z_0] at c_1; omega) | (rw [z_lt] at c_2; omega))
def rm_Str_checkIndex : Room := { frames := 1, cells := 0, slots := 0, locals := 22 }
set_option maxHeartbeats 4000000 in
set_option maxRecDepth 100000 in
theorem c_Str_checkIndex (l : Launch) (G : GG) (i : Int32) (n : Int32) (hi : 0 ≤ i.toInt ∧ i.toInt < n.toInt) : MV l y_Str_checkIndex b_Str_checkIndex 2 rm_Str_checkIndex G [.int i, .int n] [] (fun (u : Unit) => True) (fun (u : Unit) => []) 0 0 := by
  refine MV.of (cc := b_Str_checkIndex) (maxL := 2) (C := R_Str) (by decide +kernel) rfl (Nat.le_of_ble_eq_true rfl) ?_
  intro p e s m args below meth c A Q H ls hx hb hml hown hw hE hA hP hD hS hin ret hl
  have hl : lv_has ls 2 [(0, .int i), (1, .int n)] := hl
  refine lv_iload_n hx hb d_Str_checkIndex_0 rfl (lv_at hl 0 rfl) ?_
  refine lv_iload_n hx hb d_Str_checkIndex_1 rfl (lv_at hl 1 rfl) ?_
  rcases hE.2.2.2.1 with hZ | ⟨q9, hZ⟩
  · refine va_gets (v := .null) hx hb hZ hS hown (hw _ m_289) (fun _ h9 => h9) d_Str_checkIndex_2 ?_
    refine gc_i (wr := []) (gc_S (wc := []) (As := [.int i, .int n, .null]) (rest := []) ⟨hx, hb, hml, hown, hw⟩ (c_Pre_checkIndex_0 l G i n hi H.size) (va_cwS 3 hw (good_S m_291 m_292 m_8 m_293) rfl rfl rfl hy_Pre_checkIndex.2 ⟨Nat.le_of_ble_eq_true rfl, Nat.le_of_ble_eq_true rfl⟩) hE hP hD hS hA [] rfl (by decide) rfl hl rfl (Nat.le_of_ble_eq_true rfl) d_Str_checkIndex_5 ⟨Nat.le_of_ble_eq_true rfl, Nat.le_of_ble_eq_true rfl⟩) hP hD hS hA [] [] rfl rfl (by decide) (by decide) (fun r_1 u_2 H locs hw_3 hP hD hS => ?_)
    have hP : va_P G.1 vwCl [] H := hP
    have hD : va_D A [] := hD
    refine lv_pop hx hb d_Str_checkIndex_8 rfl ?_
    exact ret () (Nat.le_of_ble_eq_true rfl) (Nat.le_of_ble_eq_true rfl) d_Str_checkIndex_9 trivial (hP.sub [] rfl) (hD.sub [] (by decide) rfl) hS
  · refine va_gets (v := .ref q9) hx hb hZ hS hown (hw _ m_289) (fun _ h9 => h9) d_Str_checkIndex_2 ?_
    refine gc_i (wr := []) (gc_S (wc := []) (As := [.int i, .int n, .ref q9]) (rest := []) ⟨hx, hb, hml, hown, hw⟩ (c_Pre_checkIndex_1 l G i n q9 hi H.size) (va_cwS 3 hw (good_S m_291 m_292 m_8 m_293) rfl rfl rfl hy_Pre_checkIndex.2 ⟨Nat.le_of_ble_eq_true rfl, Nat.le_of_ble_eq_true rfl⟩) hE hP hD hS hA [] rfl (by decide) rfl hl rfl (Nat.le_of_ble_eq_true rfl) d_Str_checkIndex_5 ⟨Nat.le_of_ble_eq_true rfl, Nat.le_of_ble_eq_true rfl⟩) hP hD hS hA [] [] rfl rfl (by decide) (by decide) (fun r_4 u_5 H locs hw_6 hP hD hS => ?_)
    have hP : va_P G.1 vwCl [] H := hP
    have hD : va_D A [] := hD
    refine lv_pop hx hb d_Str_checkIndex_8 rfl ?_
    exact ret () (Nat.le_of_ble_eq_true rfl) (Nat.le_of_ble_eq_true rfl) d_Str_checkIndex_9 trivial (hP.sub [] rfl) (hD.sub [] (by decide) rfl) hS
def rm_SL_charAt : Room := { frames := 2, cells := 0, slots := 0, locals := 43 }
set_option maxHeartbeats 4000000 in
set_option maxRecDepth 100000 in
theorem c_SL_charAt (l : Launch) (G : GG) (k : Nat) (i : Int32) (hk : k < nS) (hi : 0 ≤ i.toInt ∧ i.toInt < (nI (lenS.getD k 0)).toInt) : MI l y_SL_charAt b_SL_charAt 2 .char rm_SL_charAt G [.ref (G.2.2.2 k), .int i] [] (fun (v : Int32) (u : Unit) => (narrow .char (.int v) = .int v)) (fun (u : Unit) => []) 0 0 := by
  refine MI.of (cc := b_SL_charAt) (maxL := 2) (ty := .char) (C := R_SL) (by decide +kernel) rfl (Nat.le_of_ble_eq_true rfl) ?_
  intro p e s m args below meth c A Q H ls hx hb hml hown hw hE hA hP hD hS ret hl
  have hl : lv_has ls 2 [(0, .ref (G.2.2.2 k)), (1, .int i)] := hl
  refine lv_iload_n hx hb d_SL_charAt_0 rfl (lv_at hl 1 rfl) ?_
  refine lv_aload_n hx hb d_SL_charAt_1 rfl (lv_at hl 0 rfl) ?_
  refine va_tlen (v := nI (lenS.getD k 0)) hx hb (((hE.2.1 k hk).1.1 0 (by decide)).2.2.2) hS rfl d_SL_charAt_2 ?_
  refine gc_v (wr := []) (gc_S (wc := []) (As := [.int i, .int (nI (lenS.getD k 0))]) (rest := []) ⟨hx, hb, hml, hown, hw⟩ (c_Str_checkIndex l G i (nI (lenS.getD k 0)) hi H.size) (va_cwS 2 hw (good_S m_286 m_287 m_6 m_288) rfl rfl rfl hy_Str_checkIndex.2 ⟨Nat.le_of_ble_eq_true rfl, Nat.le_of_ble_eq_true rfl⟩) hE hP hD hS hA [] rfl (by decide) rfl hl rfl (Nat.le_of_ble_eq_true rfl) d_SL_charAt_3 ⟨Nat.le_of_ble_eq_true rfl, Nat.le_of_ble_eq_true rfl⟩) hP hD hS hA [] [] rfl rfl (by decide) (by decide) (fun u_2 H locs hw_3 hP hD hS => ?_)
  have hP : va_P G.1 vwCl [] H := hP
  have hD : va_D A [] := hD
  refine lv_aload_n hx hb d_SL_charAt_6 rfl (lv_at hl 0 rfl) ?_
  refine lv_iload_n hx hb d_SL_charAt_7 rfl (lv_at hl 1 rfl) ?_
  refine va_tb hx hb (((hE.2.1 k hk).1.1 0 (by decide)).2.2.2) hS (i := i) (z_in hi.1 (by have h9 := hi.2; rw [z_n (by have := lenS_small k hk; omega)] at h9; exact h9)) rfl d_SL_charAt_8 ?_
  refine lv_topi (fun y_4 ey_4 => ?_)
  refine lv_sipush (v := 255) hx hb d_SL_charAt_9 (by decide) ?_
  refine lv_iand hx hb d_SL_charAt_12 ?_
  refine lv_topi (fun y_5 ey_5 => ?_)
  refine lv_i2c hx hb d_SL_charAt_13 rfl ?_
  refine lv_topi (fun y_6 ey_6 => ?_)
  exact ret y_6 () (Nat.le_of_ble_eq_true rfl) (Nat.le_of_ble_eq_true rfl) d_SL_charAt_14 (by rw [ey_6]; exact pk_nc _) (by rw [ey_6]; exact pk_nc _) (hP.sub [] rfl) (hD.sub [] (by decide) rfl) hS
def rm_Str_charAt : Room := { frames := 3, cells := 0, slots := 0, locals := 64 }
set_option maxHeartbeats 4000000 in
set_option maxRecDepth 100000 in
theorem c_Str_charAt (l : Launch) (G : GG) (k : Nat) (i : Int32) (hk : k < nS) (hi : 0 ≤ i.toInt ∧ i.toInt < (nI (lenS.getD k 0)).toInt) : MI l y_Str_charAt b_Str_charAt 2 .char rm_Str_charAt G [.ref (G.2.2.1 k), .int i] [] (fun (v : Int32) (u : Unit) => True) (fun (u : Unit) => []) 0 0 := by
  refine MI.of (cc := b_Str_charAt) (maxL := 2) (ty := .char) (C := R_Str) (by decide +kernel) rfl (Nat.le_of_ble_eq_true rfl) ?_
  intro p e s m args below meth c A Q H ls hx hb hml hown hw hE hA hP hD hS ret hl
  have hl : lv_has ls 2 [(0, .ref (G.2.2.1 k)), (1, .int i)] := hl
  refine lv_aload_n hx hb d_Str_charAt_0 rfl (lv_at hl 0 rfl) ?_
  refine gc_i (wr := []) (gc_V (wc := []) (As := []) (rest := []) ⟨hx, hb, hml, hown, hw⟩ (c_Str_isLatin1 l G k hk H.size) (cwV 0 hw (good_V m_279 m_280 m_281 m_6 m_282) rfl rfl rfl hy_Str_isLatin1 ⟨Nat.le_of_ble_eq_true rfl, Nat.le_of_ble_eq_true rfl⟩) hE hP hD hS hA (vk_recv (hE.2.1 k hk).1 (i := 0) (by decide) hS) [] rfl (by decide) rfl hl rfl (Nat.le_of_ble_eq_true rfl) d_Str_charAt_1 ⟨Nat.le_of_ble_eq_true rfl, Nat.le_of_ble_eq_true rfl⟩) hP hD hS hA [] [] rfl rfl (by decide) (by decide) (fun r_1 u_2 H locs hw_3 hP hD hS => ?_)
  try dsimp only at hw_3
  have h_4 := hw_3
  subst h_4
  have hP : va_P G.1 vwCl [] H := hP
  have hD : va_D A [] := hD
  refine lv_if_eq (tgt := 16) hx hb d_Str_charAt_4 (by decide) (fun c_5 => ?_) (fun c_5 => ?_)
  · exact absurd c_5 (by decide)
  · refine lv_aload_n hx hb d_Str_charAt_7 rfl (lv_at hl 0 rfl) ?_
    refine vk_getf (v := .ref (G.2.2.2 k)) hx hb (((hE.2.1 k hk).1.1 0 (by decide)).2.2.1) hS hown (hw _ m_744) (fun _ h9 => h9) d_Str_charAt_8 ?_
    refine lv_iload_n hx hb d_Str_charAt_11 rfl (lv_at hl 1 rfl) ?_
    refine gc_i (wr := []) (gc_S (wc := []) (As := [.ref (G.2.2.2 k), .int i]) (rest := []) ⟨hx, hb, hml, hown, hw⟩ (c_SL_charAt l G k i hk hi H.size) (va_cwS 2 hw (good_S m_283 m_284 m_7 m_285) rfl rfl rfl hy_SL_charAt.2 ⟨Nat.le_of_ble_eq_true rfl, Nat.le_of_ble_eq_true rfl⟩) hE hP hD hS hA [] rfl (by decide) rfl hl rfl (Nat.le_of_ble_eq_true rfl) d_Str_charAt_12 ⟨Nat.le_of_ble_eq_true rfl, Nat.le_of_ble_eq_true rfl⟩) hP hD hS hA [] [] rfl rfl (by decide) (by decide) (fun r_6 u_7 H locs hw_8 hP hD hS => ?_)
    try dsimp only at hw_8
    have h_9 := hw_8
    have hP : va_P G.1 vwCl [] H := hP
    have hD : va_D A [] := hD
    exact ret r_6 () (Nat.le_of_ble_eq_true rfl) (Nat.le_of_ble_eq_true rfl) d_Str_charAt_15 (by assumption) trivial (hP.sub [] rfl) (hD.sub [] (by decide) rfl) hS
