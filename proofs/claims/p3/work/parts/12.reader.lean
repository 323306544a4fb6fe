def rm_Reader_isRegular : Room := { frames := 0, cells := 0, slots := 0, locals := 0 }
set_option maxHeartbeats 4000000 in
set_option maxRecDepth 100000 in
theorem c_Reader_isRegular (l : Launch) (G : GG) (b : Int32) : MI l y_Reader_isRegular b_Reader_isRegular 1 .boolean rm_Reader_isRegular G [.int b] [] (fun (v : Int32) (u : Unit) => (v = 0 ∨ v = 1)) (fun (u : Unit) => []) 0 0 := by
  refine MI.of (cc := b_Reader_isRegular) (maxL := 1) (ty := .boolean) (C := R_Reader) (by decide +kernel) rfl (Nat.le_of_ble_eq_true rfl) ?_
  intro p e s m args below meth c A Q H ls hx hb hml hown hw hE hA hP hD hS ret hl
  have hl : lv_has ls 1 [(0, .int b)] := hl
  refine lv_iload_n hx hb d_Reader_isRegular_0 rfl (lv_at hl 0 rfl) ?_
  by_cases w_1 : b = 40
  · rw [w_1]
    refine lv_lookup (tgt := 68) (off := 67) hx hb d_Reader_isRegular_1 (by decide) (by decide) (by decide) ?_
    refine lv_iconst (v := 0) hx hb d_Reader_isRegular_68 (by decide) ?_
    exact ret 0 () (Nat.le_of_ble_eq_true rfl) (Nat.le_of_ble_eq_true rfl) d_Reader_isRegular_69 rfl (by first | assumption | decide) (hP.sub [] rfl) (hD.sub [] (by decide) rfl) hS
  by_cases w_2 : b = 41
  · rw [w_2]
    refine lv_lookup (tgt := 68) (off := 67) hx hb d_Reader_isRegular_1 (by decide) (by decide) (by decide) ?_
    refine lv_iconst (v := 0) hx hb d_Reader_isRegular_68 (by decide) ?_
    exact ret 0 () (Nat.le_of_ble_eq_true rfl) (Nat.le_of_ble_eq_true rfl) d_Reader_isRegular_69 rfl (by first | assumption | decide) (hP.sub [] rfl) (hD.sub [] (by decide) rfl) hS
  by_cases w_3 : b = 47
  · rw [w_3]
    refine lv_lookup (tgt := 68) (off := 67) hx hb d_Reader_isRegular_1 (by decide) (by decide) (by decide) ?_
    refine lv_iconst (v := 0) hx hb d_Reader_isRegular_68 (by decide) ?_
    exact ret 0 () (Nat.le_of_ble_eq_true rfl) (Nat.le_of_ble_eq_true rfl) d_Reader_isRegular_69 rfl (by first | assumption | decide) (hP.sub [] rfl) (hD.sub [] (by decide) rfl) hS
  by_cases w_4 : b = 60
  · rw [w_4]
    refine lv_lookup (tgt := 68) (off := 67) hx hb d_Reader_isRegular_1 (by decide) (by decide) (by decide) ?_
    refine lv_iconst (v := 0) hx hb d_Reader_isRegular_68 (by decide) ?_
    exact ret 0 () (Nat.le_of_ble_eq_true rfl) (Nat.le_of_ble_eq_true rfl) d_Reader_isRegular_69 rfl (by first | assumption | decide) (hP.sub [] rfl) (hD.sub [] (by decide) rfl) hS
  by_cases w_5 : b = 62
  · rw [w_5]
    refine lv_lookup (tgt := 68) (off := 67) hx hb d_Reader_isRegular_1 (by decide) (by decide) (by decide) ?_
    refine lv_iconst (v := 0) hx hb d_Reader_isRegular_68 (by decide) ?_
    exact ret 0 () (Nat.le_of_ble_eq_true rfl) (Nat.le_of_ble_eq_true rfl) d_Reader_isRegular_69 rfl (by first | assumption | decide) (hP.sub [] rfl) (hD.sub [] (by decide) rfl) hS
  by_cases w_6 : b = 91
  · rw [w_6]
    refine lv_lookup (tgt := 68) (off := 67) hx hb d_Reader_isRegular_1 (by decide) (by decide) (by decide) ?_
    refine lv_iconst (v := 0) hx hb d_Reader_isRegular_68 (by decide) ?_
    exact ret 0 () (Nat.le_of_ble_eq_true rfl) (Nat.le_of_ble_eq_true rfl) d_Reader_isRegular_69 rfl (by first | assumption | decide) (hP.sub [] rfl) (hD.sub [] (by decide) rfl) hS
  by_cases w_7 : b = 93
  · rw [w_7]
    refine lv_lookup (tgt := 68) (off := 67) hx hb d_Reader_isRegular_1 (by decide) (by decide) (by decide) ?_
    refine lv_iconst (v := 0) hx hb d_Reader_isRegular_68 (by decide) ?_
    exact ret 0 () (Nat.le_of_ble_eq_true rfl) (Nat.le_of_ble_eq_true rfl) d_Reader_isRegular_69 rfl (by first | assumption | decide) (hP.sub [] rfl) (hD.sub [] (by decide) rfl) hS
  refine lv_lookup (tgt := 70) (off := 69) hx hb d_Reader_isRegular_1 (by decide) (by show Op.lookupswitch.offset [(40, 67), (41, 67), (47, 67), (60, 67), (62, 67), (91, 67), (93, 67)] 69 _ = _; rw [lv_osw w_1 (by decide), lv_osw w_2 (by decide), lv_osw w_3 (by decide), lv_osw w_4 (by decide), lv_osw w_5 (by decide), lv_osw w_6 (by decide), lv_osw w_7 (by decide)]; rfl) (by decide) ?_
  refine lv_iload_n hx hb d_Reader_isRegular_70 rfl (lv_at hl 0 rfl) ?_
  refine lv_bipush (v := 33) hx hb d_Reader_isRegular_71 (by decide) ?_
  refine lv_icmp_lt (tgt := 86) hx hb d_Reader_isRegular_73 (by decide) (fun c_8 => ?_) (fun c_8 => ?_)
  · refine lv_iconst (v := 0) hx hb d_Reader_isRegular_86 (by decide) ?_
    exact ret 0 () (Nat.le_of_ble_eq_true rfl) (Nat.le_of_ble_eq_true rfl) d_Reader_isRegular_87 rfl (by first | assumption | decide) (hP.sub [] rfl) (hD.sub [] (by decide) rfl) hS
  · refine lv_iload_n hx hb d_Reader_isRegular_76 rfl (lv_at hl 0 rfl) ?_
    refine lv_bipush (v := 126) hx hb d_Reader_isRegular_77 (by decide) ?_
    refine lv_icmp_gt (tgt := 86) hx hb d_Reader_isRegular_79 (by decide) (fun c_9 => ?_) (fun c_9 => ?_)
    · refine lv_iconst (v := 0) hx hb d_Reader_isRegular_86 (by decide) ?_
      exact ret 0 () (Nat.le_of_ble_eq_true rfl) (Nat.le_of_ble_eq_true rfl) d_Reader_isRegular_87 rfl (by first | assumption | decide) (hP.sub [] rfl) (hD.sub [] (by decide) rfl) hS
    · refine lv_iconst (v := 1) hx hb d_Reader_isRegular_82 (by decide) ?_
      refine lv_goto (tgt := 87) hx hb d_Reader_isRegular_83 (by decide) ?_
      exact ret 1 () (Nat.le_of_ble_eq_true rfl) (Nat.le_of_ble_eq_true rfl) d_Reader_isRegular_87 rfl (by first | assumption | decide) (hP.sub [] rfl) (hD.sub [] (by decide) rfl) hS
def rm_Reader_isWhite : Room := { frames := 0, cells := 0, slots := 0, locals := 0 }
set_option maxHeartbeats 4000000 in
set_option maxRecDepth 100000 in
theorem c_Reader_isWhite (l : Launch) (G : GG) (b : Int32) : MI l y_Reader_isWhite b_Reader_isWhite 1 .boolean rm_Reader_isWhite G [.int b] [] (fun (v : Int32) (u : Unit) => (v = 0 ∨ v = 1)) (fun (u : Unit) => []) 0 0 := by
  refine MI.of (cc := b_Reader_isWhite) (maxL := 1) (ty := .boolean) (C := R_Reader) (by decide +kernel) rfl (Nat.le_of_ble_eq_true rfl) ?_
  intro p e s m args below meth c A Q H ls hx hb hml hown hw hE hA hP hD hS ret hl
  have hl : lv_has ls 1 [(0, .int b)] := hl
  have J_18 : ∀ (H : Heap) (locs : List Loc), va_P G.1 vwCl [] H → va_D A [] → va_S A s.heap H locs → ∀ ls : Array Slot, lv_has ls 1 [(0, .int b)] → W p l e rm_Reader_isWhite s m args below meth c H locs 0 0 Q (F0 m 18 ls []) := by
    intro H locs hP hD hS ls hl
    refine lv_iconst (v := 1) hx hb d_Reader_isWhite_18 (by decide) ?_
    refine lv_goto (tgt := 23) hx hb d_Reader_isWhite_19 (by decide) ?_
    exact ret 1 () (Nat.le_of_ble_eq_true rfl) (Nat.le_of_ble_eq_true rfl) d_Reader_isWhite_23 rfl (by first | assumption | decide) (hP.sub [] rfl) (hD.sub [] (by decide) rfl) hS
  refine lv_iload_n hx hb d_Reader_isWhite_0 rfl (lv_at hl 0 rfl) ?_
  refine lv_bipush (v := 32) hx hb d_Reader_isWhite_1 (by decide) ?_
  refine lv_icmp_eq (tgt := 18) hx hb d_Reader_isWhite_3 (by decide) (fun c_1 => ?_) (fun c_1 => ?_)
  · exact J_18 _ _ (hP.sub [] rfl) (hD.sub [] (by decide) rfl) hS _ (lv_sub hl [0] rfl)
  · refine lv_iload_n hx hb d_Reader_isWhite_6 rfl (lv_at hl 0 rfl) ?_
    refine lv_bipush (v := 10) hx hb d_Reader_isWhite_7 (by decide) ?_
    refine lv_icmp_eq (tgt := 18) hx hb d_Reader_isWhite_9 (by decide) (fun c_2 => ?_) (fun c_2 => ?_)
    · exact J_18 _ _ (hP.sub [] rfl) (hD.sub [] (by decide) rfl) hS _ (lv_sub hl [0] rfl)
    · refine lv_iload_n hx hb d_Reader_isWhite_12 rfl (lv_at hl 0 rfl) ?_
      refine lv_bipush (v := 13) hx hb d_Reader_isWhite_13 (by decide) ?_
      refine lv_icmp_ne (tgt := 22) hx hb d_Reader_isWhite_15 (by decide) (fun c_3 => ?_) (fun c_3 => ?_)
      · refine lv_iconst (v := 0) hx hb d_Reader_isWhite_22 (by decide) ?_
        exact ret 0 () (Nat.le_of_ble_eq_true rfl) (Nat.le_of_ble_eq_true rfl) d_Reader_isWhite_23 rfl (by first | assumption | decide) (hP.sub [] rfl) (hD.sub [] (by decide) rfl) hS
      · exact J_18 _ _ (hP.sub [] rfl) (hD.sub [] (by decide) rfl) hS _ (lv_sub hl [0] rfl)
def rm_Reader_afterWhite : Room := { frames := 1, cells := 0, slots := 0, locals := 21 }
set_option maxHeartbeats 4000000 in
set_option maxRecDepth 100000 in
theorem c_Reader_afterWhite (l : Launch) (G : GG) (rd : Nat) (t : Nat) (at0 : Int32) (tr : Nat) (ta : Nat) (tsz : Int32) (tf : Nat → Int32) (i : Int32) (htp : RowOk 1000 tsz) : MI l y_Reader_afterWhite b_Reader_afterWhite 3 .int rm_Reader_afterWhite G [.ref rd, .int i] [(rd, .inr (3, [.ref tr, .ref t, .int at0])), (tr, .inr (1, [.ref ta, .int tsz])), (ta, .inl (G.2.1 0, 1000, .inl tf))] (fun (v : Int32) (u : Unit) => True) (fun (u : Unit) => [(rd, .inr (3, [.ref tr, .ref t, .int at0])), (tr, .inr (1, [.ref ta, .int tsz])), (ta, .inl (G.2.1 0, 1000, .inl tf))]) 0 0 := by
  refine MI.of (cc := b_Reader_afterWhite) (maxL := 3) (ty := .int) (C := R_Reader) (by decide +kernel) rfl (Nat.le_of_ble_eq_true rfl) ?_
  intro p e s m args below meth c A Q H ls hx hb hml hown hw hE hA hP hD hS ret hl
  have hl : lv_has ls 3 [(0, .ref rd), (1, .int i)] := hl
  have J_2 : ∀ (fu : Nat) (x2_2 : Int32), (tsz.toInt - x2_2.toInt).toNat < fu → ∀ (H : Heap) (locs : List Loc), va_P G.1 vwCl [(rd, .inr (3, [.ref tr, .ref t, .int at0])), (tr, .inr (1, [.ref ta, .int tsz])), (ta, .inl (G.2.1 0, 1000, .inl tf))] H → va_D A [(rd, .inr (3, [.ref tr, .ref t, .int at0])), (tr, .inr (1, [.ref ta, .int tsz])), (ta, .inl (G.2.1 0, 1000, .inl tf))] → va_S A s.heap H locs → ∀ ls : Array Slot, lv_has ls 3 [(2, .int x2_2), (0, .ref rd), (1, .int i)] → W p l e rm_Reader_afterWhite s m args below meth c H locs 0 0 Q (F0 m 2 ls []) := by
    intro fu
    induction fu with
    | zero =>
      intro x2_2 hm
      exact absurd hm (Nat.not_lt_zero _)
    | succ fu ih_2 =>
      intro x2_2 hm_2 H locs hP hD hS ls hl
      refine lv_iload_n hx hb d_Reader_afterWhite_2 rfl (lv_at hl 0 rfl) ?_
      refine lv_aload_n hx hb d_Reader_afterWhite_3 rfl (lv_at hl 1 rfl) ?_
      refine va_get (D := G.1) (ci := 3) (v := .ref tr) (C := R_Reader) (T := F_Reader) (N := 3) hx hb hw i_Reader hown hE.1 hP 0 rfl rfl 0 (by decide) (hw _ m_115) (fun _ h9 => h9) rfl d_Reader_afterWhite_4 ?_
      refine gc_i (wr := [(rd, .inr (3, [.ref tr, .ref t, .int at0]))]) (gc_V (wc := [(tr, .inr (1, [.ref ta, .int tsz])), (ta, .inl (G.2.1 0, 1000, .inl tf))]) (As := []) (rest := [.int x2_2]) ⟨hx, hb, hml, hown, hw⟩ (c_Row_size l G tr ta 1000 tsz tf (by decide) htp H.size) (cwV 0 hw (good_V m_142 m_86 m_87 m_2 m_88) rfl rfl rfl hy_Row_size ⟨Nat.le_of_ble_eq_true rfl, Nat.le_of_ble_eq_true rfl⟩) hE hP hD hS hA (va_recv hE.1 hP (ci := 1) (q0 := 1) rfl rfl) [1, 2] rfl (by decide) rfl hl rfl (Nat.le_of_ble_eq_true rfl) d_Reader_afterWhite_7 ⟨Nat.le_of_ble_eq_true rfl, Nat.le_of_ble_eq_true rfl⟩) hP hD hS hA [1, 2] [0] rfl rfl (by decide) (by decide) (fun r_1 u_2 H locs hw_3 hP hD hS => ?_)
      try dsimp only at hw_3
      have h_4 := hw_3
      subst h_4
      have hP : va_P G.1 vwCl [(rd, .inr (3, [.ref tr, .ref t, .int at0])), (tr, .inr (1, [.ref ta, .int tsz])), (ta, .inl (G.2.1 0, 1000, .inl tf))] H := hP
      have hD : va_D A [(rd, .inr (3, [.ref tr, .ref t, .int at0])), (tr, .inr (1, [.ref ta, .int tsz])), (ta, .inl (G.2.1 0, 1000, .inl tf))] := hD
      refine lv_icmp_ge (tgt := 33) hx hb d_Reader_afterWhite_10 (by decide) (fun c_5 => ?_) (fun c_5 => ?_)
      · refine lv_iload_n hx hb d_Reader_afterWhite_33 rfl (lv_at hl 0 rfl) ?_
        exact ret x2_2 () (Nat.le_of_ble_eq_true rfl) (Nat.le_of_ble_eq_true rfl) d_Reader_afterWhite_34 rfl trivial (hP.sub [0, 1, 2] rfl) (hD.sub [0, 1, 2] (by decide) rfl) hS
      · refine lv_aload_n hx hb d_Reader_afterWhite_13 rfl (lv_at hl 1 rfl) ?_
        refine va_get (D := G.1) (ci := 3) (v := .ref tr) (C := R_Reader) (T := F_Reader) (N := 3) hx hb hw i_Reader hown hE.1 hP 0 rfl rfl 0 (by decide) (hw _ m_115) (fun _ h9 => h9) rfl d_Reader_afterWhite_14 ?_
        refine lv_iload_n hx hb d_Reader_afterWhite_17 rfl (lv_at hl 0 rfl) ?_
        refine gc_i (wr := [(rd, .inr (3, [.ref tr, .ref t, .int at0]))]) (gc_V (wc := [(tr, .inr (1, [.ref ta, .int tsz])), (ta, .inl (G.2.1 0, 1000, .inl tf))]) (As := [.int x2_2]) (rest := []) ⟨hx, hb, hml, hown, hw⟩ (c_Row_get l G tr ta 1000 tsz tf x2_2 (by decide) htp H.size) (cwV 1 hw (good_V m_143 m_144 m_145 m_2 m_146) rfl rfl rfl hy_Row_get ⟨Nat.le_of_ble_eq_true rfl, Nat.le_of_ble_eq_true rfl⟩) hE hP hD hS hA (va_recv hE.1 hP (ci := 1) (q0 := 1) rfl rfl) [1, 2] rfl (by decide) rfl hl rfl (Nat.le_of_ble_eq_true rfl) d_Reader_afterWhite_18 ⟨Nat.le_of_ble_eq_true rfl, Nat.le_of_ble_eq_true rfl⟩) hP hD hS hA [1, 2] [0] rfl rfl (by decide) (by decide) (fun r_6 u_7 H locs hw_8 hP hD hS => ?_)
        have hP : va_P G.1 vwCl [(rd, .inr (3, [.ref tr, .ref t, .int at0])), (tr, .inr (1, [.ref ta, .int tsz])), (ta, .inl (G.2.1 0, 1000, .inl tf))] H := hP
        have hD : va_D A [(rd, .inr (3, [.ref tr, .ref t, .int at0])), (tr, .inr (1, [.ref ta, .int tsz])), (ta, .inl (G.2.1 0, 1000, .inl tf))] := hD
        refine gc_i (wr := [(rd, .inr (3, [.ref tr, .ref t, .int at0])), (tr, .inr (1, [.ref ta, .int tsz])), (ta, .inl (G.2.1 0, 1000, .inl tf))]) (gc_S (wc := []) (As := [.int r_6]) (rest := []) ⟨hx, hb, hml, hown, hw⟩ (c_Reader_isWhite l G r_6 H.size) (va_cwS 1 hw (good_S m_147 m_148 m_5 m_149) rfl rfl rfl hy_Reader_isWhite.2 ⟨Nat.le_of_ble_eq_true rfl, Nat.le_of_ble_eq_true rfl⟩) hE hP hD hS hA [] rfl (by decide) rfl hl rfl (Nat.le_of_ble_eq_true rfl) d_Reader_afterWhite_21 ⟨Nat.le_of_ble_eq_true rfl, Nat.le_of_ble_eq_true rfl⟩) hP hD hS hA [] [0, 1, 2] rfl rfl (by decide) (by decide) (fun r_9 u_10 H locs hw_11 hP hD hS => ?_)
        try dsimp only at hw_11
        have h_12 := hw_11
        have hP : va_P G.1 vwCl [(rd, .inr (3, [.ref tr, .ref t, .int at0])), (tr, .inr (1, [.ref ta, .int tsz])), (ta, .inl (G.2.1 0, 1000, .inl tf))] H := hP
        have hD : va_D A [(rd, .inr (3, [.ref tr, .ref t, .int at0])), (tr, .inr (1, [.ref ta, .int tsz])), (ta, .inl (G.2.1 0, 1000, .inl tf))] := hD
        refine lv_if_eq (tgt := 33) hx hb d_Reader_afterWhite_24 (by decide) (fun c_13 => ?_) (fun c_13 => ?_)
        · refine lv_iload_n hx hb d_Reader_afterWhite_33 rfl (lv_at hl 0 rfl) ?_
          exact ret x2_2 () (Nat.le_of_ble_eq_true rfl) (Nat.le_of_ble_eq_true rfl) d_Reader_afterWhite_34 rfl trivial (hP.sub [0, 1, 2] rfl) (hD.sub [0, 1, 2] (by decide) rfl) hS
        · obtain ⟨y_14, ey_14⟩ : ∃ y : Int32, y = x2_2 + 1 := ⟨_, rfl⟩
          refine lv_iinc (v := y_14) (lv' := [(2, .int y_14), (0, .ref rd), (1, .int i)]) hx hb d_Reader_afterWhite_27 hl (k := 0) rfl (by rw [ey_14]; rfl) (by decide) rfl (fun ls hl => ?_)
          refine lv_goto (tgt := 2) hx hb d_Reader_afterWhite_30 (by decide) ?_
          exact ih_2 y_14 (ms_up (by assumption) (by assumption) hm_2) _ _ (hP.sub [0, 1, 2] rfl) (hD.sub [0, 1, 2] (by decide) rfl) hS _ (lv_sub hl [0, 1, 2] rfl)
  refine lv_iload_n hx hb d_Reader_afterWhite_0 rfl (lv_at hl 1 rfl) ?_
  refine lv_istore_n (lv' := [(2, .int i), (0, .ref rd), (1, .int i)]) hx hb d_Reader_afterWhite_1 rfl hl (by decide) rfl (fun ls hl => ?_)
  exact J_2 _ i (Nat.lt_succ_self _) _ _ (hP.sub [0, 1, 2] rfl) (hD.sub [0, 1, 2] (by decide) rfl) hS _ (lv_sub hl [0, 1, 2] rfl)
def rm_Reader_wordLength : Room := { frames := 1, cells := 0, slots := 0, locals := 21 }
set_option maxHeartbeats 4000000 in
set_option maxRecDepth 100000 in
theorem c_Reader_wordLength (l : Launch) (G : GG) (rd : Nat) (t : Nat) (at0 : Int32) (tr : Nat) (ta : Nat) (tsz : Int32) (tf : Nat → Int32) (i : Int32) (htp : RowOk 1000 tsz) : MI l y_Reader_wordLength b_Reader_wordLength 3 .int rm_Reader_wordLength G [.ref rd, .int i] [(rd, .inr (3, [.ref tr, .ref t, .int at0])), (tr, .inr (1, [.ref ta, .int tsz])), (ta, .inl (G.2.1 0, 1000, .inl tf))] (fun (v : Int32) (u : Unit) => True) (fun (u : Unit) => [(rd, .inr (3, [.ref tr, .ref t, .int at0])), (tr, .inr (1, [.ref ta, .int tsz])), (ta, .inl (G.2.1 0, 1000, .inl tf))]) 0 0 := by
  refine MI.of (cc := b_Reader_wordLength) (maxL := 3) (ty := .int) (C := R_Reader) (by decide +kernel) rfl (Nat.le_of_ble_eq_true rfl) ?_
  intro p e s m args below meth c A Q H ls hx hb hml hown hw hE hA hP hD hS ret hl
  have hl : lv_has ls 3 [(0, .ref rd), (1, .int i)] := hl
  have J_2 : ∀ (fu : Nat) (x2_2 : Int32), (tsz.toInt - x2_2.toInt).toNat < fu → ∀ (H : Heap) (locs : List Loc), va_P G.1 vwCl [(rd, .inr (3, [.ref tr, .ref t, .int at0])), (tr, .inr (1, [.ref ta, .int tsz])), (ta, .inl (G.2.1 0, 1000, .inl tf))] H → va_D A [(rd, .inr (3, [.ref tr, .ref t, .int at0])), (tr, .inr (1, [.ref ta, .int tsz])), (ta, .inl (G.2.1 0, 1000, .inl tf))] → va_S A s.heap H locs → ∀ ls : Array Slot, lv_has ls 3 [(2, .int x2_2), (0, .ref rd), (1, .int i)] → W p l e rm_Reader_wordLength s m args below meth c H locs 0 0 Q (F0 m 2 ls []) := by
    intro fu
    induction fu with
    | zero =>
      intro x2_2 hm
      exact absurd hm (Nat.not_lt_zero _)
    | succ fu ih_2 =>
      intro x2_2 hm_2 H locs hP hD hS ls hl
      refine lv_iload_n hx hb d_Reader_wordLength_2 rfl (lv_at hl 0 rfl) ?_
      refine lv_aload_n hx hb d_Reader_wordLength_3 rfl (lv_at hl 1 rfl) ?_
      refine va_get (D := G.1) (ci := 3) (v := .ref tr) (C := R_Reader) (T := F_Reader) (N := 3) hx hb hw i_Reader hown hE.1 hP 0 rfl rfl 0 (by decide) (hw _ m_115) (fun _ h9 => h9) rfl d_Reader_wordLength_4 ?_
      refine gc_i (wr := [(rd, .inr (3, [.ref tr, .ref t, .int at0]))]) (gc_V (wc := [(tr, .inr (1, [.ref ta, .int tsz])), (ta, .inl (G.2.1 0, 1000, .inl tf))]) (As := []) (rest := [.int x2_2]) ⟨hx, hb, hml, hown, hw⟩ (c_Row_size l G tr ta 1000 tsz tf (by decide) htp H.size) (cwV 0 hw (good_V m_142 m_86 m_87 m_2 m_88) rfl rfl rfl hy_Row_size ⟨Nat.le_of_ble_eq_true rfl, Nat.le_of_ble_eq_true rfl⟩) hE hP hD hS hA (va_recv hE.1 hP (ci := 1) (q0 := 1) rfl rfl) [1, 2] rfl (by decide) rfl hl rfl (Nat.le_of_ble_eq_true rfl) d_Reader_wordLength_7 ⟨Nat.le_of_ble_eq_true rfl, Nat.le_of_ble_eq_true rfl⟩) hP hD hS hA [1, 2] [0] rfl rfl (by decide) (by decide) (fun r_1 u_2 H locs hw_3 hP hD hS => ?_)
      try dsimp only at hw_3
      have h_4 := hw_3
      subst h_4
      have hP : va_P G.1 vwCl [(rd, .inr (3, [.ref tr, .ref t, .int at0])), (tr, .inr (1, [.ref ta, .int tsz])), (ta, .inl (G.2.1 0, 1000, .inl tf))] H := hP
      have hD : va_D A [(rd, .inr (3, [.ref tr, .ref t, .int at0])), (tr, .inr (1, [.ref ta, .int tsz])), (ta, .inl (G.2.1 0, 1000, .inl tf))] := hD
      refine lv_icmp_ge (tgt := 33) hx hb d_Reader_wordLength_10 (by decide) (fun c_5 => ?_) (fun c_5 => ?_)
      · refine lv_iload_n hx hb d_Reader_wordLength_33 rfl (lv_at hl 0 rfl) ?_
        refine lv_iload_n hx hb d_Reader_wordLength_34 rfl (lv_at hl 2 rfl) ?_
        refine lv_isub hx hb d_Reader_wordLength_35 ?_
        refine lv_topi (fun y_6 ey_6 => ?_)
        exact ret y_6 () (Nat.le_of_ble_eq_true rfl) (Nat.le_of_ble_eq_true rfl) d_Reader_wordLength_36 rfl trivial (hP.sub [0, 1, 2] rfl) (hD.sub [0, 1, 2] (by decide) rfl) hS
      · refine lv_aload_n hx hb d_Reader_wordLength_13 rfl (lv_at hl 1 rfl) ?_
        refine va_get (D := G.1) (ci := 3) (v := .ref tr) (C := R_Reader) (T := F_Reader) (N := 3) hx hb hw i_Reader hown hE.1 hP 0 rfl rfl 0 (by decide) (hw _ m_115) (fun _ h9 => h9) rfl d_Reader_wordLength_14 ?_
        refine lv_iload_n hx hb d_Reader_wordLength_17 rfl (lv_at hl 0 rfl) ?_
        refine gc_i (wr := [(rd, .inr (3, [.ref tr, .ref t, .int at0]))]) (gc_V (wc := [(tr, .inr (1, [.ref ta, .int tsz])), (ta, .inl (G.2.1 0, 1000, .inl tf))]) (As := [.int x2_2]) (rest := []) ⟨hx, hb, hml, hown, hw⟩ (c_Row_get l G tr ta 1000 tsz tf x2_2 (by decide) htp H.size) (cwV 1 hw (good_V m_143 m_144 m_145 m_2 m_146) rfl rfl rfl hy_Row_get ⟨Nat.le_of_ble_eq_true rfl, Nat.le_of_ble_eq_true rfl⟩) hE hP hD hS hA (va_recv hE.1 hP (ci := 1) (q0 := 1) rfl rfl) [1, 2] rfl (by decide) rfl hl rfl (Nat.le_of_ble_eq_true rfl) d_Reader_wordLength_18 ⟨Nat.le_of_ble_eq_true rfl, Nat.le_of_ble_eq_true rfl⟩) hP hD hS hA [1, 2] [0] rfl rfl (by decide) (by decide) (fun r_7 u_8 H locs hw_9 hP hD hS => ?_)
        have hP : va_P G.1 vwCl [(rd, .inr (3, [.ref tr, .ref t, .int at0])), (tr, .inr (1, [.ref ta, .int tsz])), (ta, .inl (G.2.1 0, 1000, .inl tf))] H := hP
        have hD : va_D A [(rd, .inr (3, [.ref tr, .ref t, .int at0])), (tr, .inr (1, [.ref ta, .int tsz])), (ta, .inl (G.2.1 0, 1000, .inl tf))] := hD
        refine gc_i (wr := [(rd, .inr (3, [.ref tr, .ref t, .int at0])), (tr, .inr (1, [.ref ta, .int tsz])), (ta, .inl (G.2.1 0, 1000, .inl tf))]) (gc_S (wc := []) (As := [.int r_7]) (rest := []) ⟨hx, hb, hml, hown, hw⟩ (c_Reader_isRegular l G r_7 H.size) (va_cwS 1 hw (good_S m_158 m_159 m_5 m_160) rfl rfl rfl hy_Reader_isRegular.2 ⟨Nat.le_of_ble_eq_true rfl, Nat.le_of_ble_eq_true rfl⟩) hE hP hD hS hA [] rfl (by decide) rfl hl rfl (Nat.le_of_ble_eq_true rfl) d_Reader_wordLength_21 ⟨Nat.le_of_ble_eq_true rfl, Nat.le_of_ble_eq_true rfl⟩) hP hD hS hA [] [0, 1, 2] rfl rfl (by decide) (by decide) (fun r_10 u_11 H locs hw_12 hP hD hS => ?_)
        try dsimp only at hw_12
        have h_13 := hw_12
        have hP : va_P G.1 vwCl [(rd, .inr (3, [.ref tr, .ref t, .int at0])), (tr, .inr (1, [.ref ta, .int tsz])), (ta, .inl (G.2.1 0, 1000, .inl tf))] H := hP
        have hD : va_D A [(rd, .inr (3, [.ref tr, .ref t, .int at0])), (tr, .inr (1, [.ref ta, .int tsz])), (ta, .inl (G.2.1 0, 1000, .inl tf))] := hD
        refine lv_if_eq (tgt := 33) hx hb d_Reader_wordLength_24 (by decide) (fun c_14 => ?_) (fun c_14 => ?_)
        · refine lv_iload_n hx hb d_Reader_wordLength_33 rfl (lv_at hl 0 rfl) ?_
          refine lv_iload_n hx hb d_Reader_wordLength_34 rfl (lv_at hl 2 rfl) ?_
          refine lv_isub hx hb d_Reader_wordLength_35 ?_
          refine lv_topi (fun y_15 ey_15 => ?_)
          exact ret y_15 () (Nat.le_of_ble_eq_true rfl) (Nat.le_of_ble_eq_true rfl) d_Reader_wordLength_36 rfl trivial (hP.sub [0, 1, 2] rfl) (hD.sub [0, 1, 2] (by decide) rfl) hS
        · obtain ⟨y_16, ey_16⟩ : ∃ y : Int32, y = x2_2 + 1 := ⟨_, rfl⟩
          refine lv_iinc (v := y_16) (lv' := [(2, .int y_16), (0, .ref rd), (1, .int i)]) hx hb d_Reader_wordLength_27 hl (k := 0) rfl (by rw [ey_16]; rfl) (by decide) rfl (fun ls hl => ?_)
          refine lv_goto (tgt := 2) hx hb d_Reader_wordLength_30 (by decide) ?_
          exact ih_2 y_16 (ms_up (by assumption) (by assumption) hm_2) _ _ (hP.sub [0, 1, 2] rfl) (hD.sub [0, 1, 2] (by decide) rfl) hS _ (lv_sub hl [0, 1, 2] rfl)
  refine lv_iload_n hx hb d_Reader_wordLength_0 rfl (lv_at hl 1 rfl) ?_
  refine lv_istore_n (lv' := [(2, .int i), (0, .ref rd), (1, .int i)]) hx hb d_Reader_wordLength_1 rfl hl (by decide) rfl (fun ls hl => ?_)
  exact J_2 _ i (Nat.lt_succ_self _) _ _ (hP.sub [0, 1, 2] rfl) (hD.sub [0, 1, 2] (by decide) rfl) hS _ (lv_sub hl [0, 1, 2] rfl)
def rm_Reader_octalDigit : Room := { frames := 1, cells := 0, slots := 0, locals := 21 }
set_option maxHeartbeats 4000000 in
set_option maxRecDepth 100000 in
theorem c_Reader_octalDigit (l : Launch) (G : GG) (rd : Nat) (t : Nat) (at0 : Int32) (tr : Nat) (ta : Nat) (tsz : Int32) (tf : Nat → Int32) (i : Int32) (htp : RowOk 1000 tsz) : MI l y_Reader_octalDigit b_Reader_octalDigit 3 .int rm_Reader_octalDigit G [.ref rd, .int i] [(rd, .inr (3, [.ref tr, .ref t, .int at0])), (tr, .inr (1, [.ref ta, .int tsz])), (ta, .inl (G.2.1 0, 1000, .inl tf))] (fun (v : Int32) (u : Unit) => True) (fun (u : Unit) => [(rd, .inr (3, [.ref tr, .ref t, .int at0])), (tr, .inr (1, [.ref ta, .int tsz])), (ta, .inl (G.2.1 0, 1000, .inl tf))]) 0 0 := by
  refine MI.of (cc := b_Reader_octalDigit) (maxL := 3) (ty := .int) (C := R_Reader) (by decide +kernel) rfl (Nat.le_of_ble_eq_true rfl) ?_
  intro p e s m args below meth c A Q H ls hx hb hml hown hw hE hA hP hD hS ret hl
  have hl : lv_has ls 3 [(0, .ref rd), (1, .int i)] := hl
  refine lv_aload_n hx hb d_Reader_octalDigit_0 rfl (lv_at hl 0 rfl) ?_
  refine va_get (D := G.1) (ci := 3) (v := .ref tr) (C := R_Reader) (T := F_Reader) (N := 3) hx hb hw i_Reader hown hE.1 hP 0 rfl rfl 0 (by decide) (hw _ m_115) (fun _ h9 => h9) rfl d_Reader_octalDigit_1 ?_
  refine lv_iload_n hx hb d_Reader_octalDigit_4 rfl (lv_at hl 1 rfl) ?_
  refine gc_i (wr := [(rd, .inr (3, [.ref tr, .ref t, .int at0]))]) (gc_V (wc := [(tr, .inr (1, [.ref ta, .int tsz])), (ta, .inl (G.2.1 0, 1000, .inl tf))]) (As := [.int i]) (rest := []) ⟨hx, hb, hml, hown, hw⟩ (c_Row_get l G tr ta 1000 tsz tf i (by decide) htp H.size) (cwV 1 hw (good_V m_143 m_144 m_145 m_2 m_146) rfl rfl rfl hy_Row_get ⟨Nat.le_of_ble_eq_true rfl, Nat.le_of_ble_eq_true rfl⟩) hE hP hD hS hA (va_recv hE.1 hP (ci := 1) (q0 := 1) rfl rfl) [1, 2] rfl (by decide) rfl hl rfl (Nat.le_of_ble_eq_true rfl) d_Reader_octalDigit_5 ⟨Nat.le_of_ble_eq_true rfl, Nat.le_of_ble_eq_true rfl⟩) hP hD hS hA [1, 2] [0] rfl rfl (by decide) (by decide) (fun r_1 u_2 H locs hw_3 hP hD hS => ?_)
  have hP : va_P G.1 vwCl [(rd, .inr (3, [.ref tr, .ref t, .int at0])), (tr, .inr (1, [.ref ta, .int tsz])), (ta, .inl (G.2.1 0, 1000, .inl tf))] H := hP
  have hD : va_D A [(rd, .inr (3, [.ref tr, .ref t, .int at0])), (tr, .inr (1, [.ref ta, .int tsz])), (ta, .inl (G.2.1 0, 1000, .inl tf))] := hD
  refine lv_istore_n (lv' := [(2, .int r_1), (0, .ref rd), (1, .int i)]) hx hb d_Reader_octalDigit_8 rfl hl (by decide) rfl (fun ls hl => ?_)
  refine lv_iload_n hx hb d_Reader_octalDigit_9 rfl (lv_at hl 0 rfl) ?_
  refine lv_bipush (v := 48) hx hb d_Reader_octalDigit_10 (by decide) ?_
  refine lv_icmp_lt (tgt := 28) hx hb d_Reader_octalDigit_12 (by decide) (fun c_4 => ?_) (fun c_4 => ?_)
  · refine lv_iconst (v := (-1)) hx hb d_Reader_octalDigit_28 (by decide) ?_
    exact ret (-1) () (Nat.le_of_ble_eq_true rfl) (Nat.le_of_ble_eq_true rfl) d_Reader_octalDigit_29 rfl trivial (hP.sub [0, 1, 2] rfl) (hD.sub [0, 1, 2] (by decide) rfl) hS
  · refine lv_iload_n hx hb d_Reader_octalDigit_15 rfl (lv_at hl 0 rfl) ?_
    refine lv_bipush (v := 55) hx hb d_Reader_octalDigit_16 (by decide) ?_
    refine lv_icmp_gt (tgt := 28) hx hb d_Reader_octalDigit_18 (by decide) (fun c_5 => ?_) (fun c_5 => ?_)
    · refine lv_iconst (v := (-1)) hx hb d_Reader_octalDigit_28 (by decide) ?_
      exact ret (-1) () (Nat.le_of_ble_eq_true rfl) (Nat.le_of_ble_eq_true rfl) d_Reader_octalDigit_29 rfl trivial (hP.sub [0, 1, 2] rfl) (hD.sub [0, 1, 2] (by decide) rfl) hS
    · refine lv_iload_n hx hb d_Reader_octalDigit_21 rfl (lv_at hl 0 rfl) ?_
      refine lv_bipush (v := 48) hx hb d_Reader_octalDigit_22 (by decide) ?_
      refine lv_isub hx hb d_Reader_octalDigit_24 ?_
      refine lv_topi (fun y_6 ey_6 => ?_)
      refine lv_goto (tgt := 29) hx hb d_Reader_octalDigit_25 (by decide) ?_
      exact ret y_6 () (Nat.le_of_ble_eq_true rfl) (Nat.le_of_ble_eq_true rfl) d_Reader_octalDigit_29 rfl trivial (hP.sub [0, 1, 2] rfl) (hD.sub [0, 1, 2] (by decide) rfl) hS
def rm_Reader_hexDigit : Room := { frames := 1, cells := 0, slots := 0, locals := 21 }
set_option maxHeartbeats 4000000 in
set_option maxRecDepth 100000 in
theorem c_Reader_hexDigit (l : Launch) (G : GG) (rd : Nat) (t : Nat) (at0 : Int32) (tr : Nat) (ta : Nat) (tsz : Int32) (tf : Nat → Int32) (i : Int32) (htp : RowOk 1000 tsz) : MI l y_Reader_hexDigit b_Reader_hexDigit 3 .int rm_Reader_hexDigit G [.ref rd, .int i] [(rd, .inr (3, [.ref tr, .ref t, .int at0])), (tr, .inr (1, [.ref ta, .int tsz])), (ta, .inl (G.2.1 0, 1000, .inl tf))] (fun (v : Int32) (u : Unit) => True) (fun (u : Unit) => [(rd, .inr (3, [.ref tr, .ref t, .int at0])), (tr, .inr (1, [.ref ta, .int tsz])), (ta, .inl (G.2.1 0, 1000, .inl tf))]) 0 0 := by
  refine MI.of (cc := b_Reader_hexDigit) (maxL := 3) (ty := .int) (C := R_Reader) (by decide +kernel) rfl (Nat.le_of_ble_eq_true rfl) ?_
  intro p e s m args below meth c A Q H ls hx hb hml hown hw hE hA hP hD hS ret hl
  have hl : lv_has ls 3 [(0, .ref rd), (1, .int i)] := hl
  have J_46 : ∀ (x2_46 : Int32) (H : Heap) (locs : List Loc), va_P G.1 vwCl [(rd, .inr (3, [.ref tr, .ref t, .int at0])), (tr, .inr (1, [.ref ta, .int tsz])), (ta, .inl (G.2.1 0, 1000, .inl tf))] H → va_D A [(rd, .inr (3, [.ref tr, .ref t, .int at0])), (tr, .inr (1, [.ref ta, .int tsz])), (ta, .inl (G.2.1 0, 1000, .inl tf))] → va_S A s.heap H locs → ∀ ls : Array Slot, lv_has ls 3 [(2, .int x2_46), (0, .ref rd), (1, .int i)] → W p l e rm_Reader_hexDigit s m args below meth c H locs 0 0 Q (F0 m 46 ls []) := by
    intro x2_46 H locs hP hD hS ls hl
    refine lv_iload_n hx hb d_Reader_hexDigit_46 rfl (lv_at hl 0 rfl) ?_
    refine lv_bipush (v := 65) hx hb d_Reader_hexDigit_47 (by decide) ?_
    refine lv_icmp_lt (tgt := 68) hx hb d_Reader_hexDigit_49 (by decide) (fun c_1 => ?_) (fun c_1 => ?_)
    · refine lv_iconst (v := (-1)) hx hb d_Reader_hexDigit_68 (by decide) ?_
      exact ret (-1) () (Nat.le_of_ble_eq_true rfl) (Nat.le_of_ble_eq_true rfl) d_Reader_hexDigit_69 rfl trivial (hP.sub [0, 1, 2] rfl) (hD.sub [0, 1, 2] (by decide) rfl) hS
    · refine lv_iload_n hx hb d_Reader_hexDigit_52 rfl (lv_at hl 0 rfl) ?_
      refine lv_bipush (v := 70) hx hb d_Reader_hexDigit_53 (by decide) ?_
      refine lv_icmp_gt (tgt := 68) hx hb d_Reader_hexDigit_55 (by decide) (fun c_2 => ?_) (fun c_2 => ?_)
      · refine lv_iconst (v := (-1)) hx hb d_Reader_hexDigit_68 (by decide) ?_
        exact ret (-1) () (Nat.le_of_ble_eq_true rfl) (Nat.le_of_ble_eq_true rfl) d_Reader_hexDigit_69 rfl trivial (hP.sub [0, 1, 2] rfl) (hD.sub [0, 1, 2] (by decide) rfl) hS
      · refine lv_iload_n hx hb d_Reader_hexDigit_58 rfl (lv_at hl 0 rfl) ?_
        refine lv_bipush (v := 65) hx hb d_Reader_hexDigit_59 (by decide) ?_
        refine lv_isub hx hb d_Reader_hexDigit_61 ?_
        refine lv_topi (fun y_3 ey_3 => ?_)
        refine lv_bipush (v := 10) hx hb d_Reader_hexDigit_62 (by decide) ?_
        refine lv_iadd hx hb d_Reader_hexDigit_64 ?_
        refine lv_topi (fun y_4 ey_4 => ?_)
        refine lv_goto (tgt := 69) hx hb d_Reader_hexDigit_65 (by decide) ?_
        exact ret y_4 () (Nat.le_of_ble_eq_true rfl) (Nat.le_of_ble_eq_true rfl) d_Reader_hexDigit_69 rfl trivial (hP.sub [0, 1, 2] rfl) (hD.sub [0, 1, 2] (by decide) rfl) hS
  have J_26 : ∀ (x2_26 : Int32) (H : Heap) (locs : List Loc), va_P G.1 vwCl [(rd, .inr (3, [.ref tr, .ref t, .int at0])), (tr, .inr (1, [.ref ta, .int tsz])), (ta, .inl (G.2.1 0, 1000, .inl tf))] H → va_D A [(rd, .inr (3, [.ref tr, .ref t, .int at0])), (tr, .inr (1, [.ref ta, .int tsz])), (ta, .inl (G.2.1 0, 1000, .inl tf))] → va_S A s.heap H locs → ∀ ls : Array Slot, lv_has ls 3 [(2, .int x2_26), (0, .ref rd), (1, .int i)] → W p l e rm_Reader_hexDigit s m args below meth c H locs 0 0 Q (F0 m 26 ls []) := by
    intro x2_26 H locs hP hD hS ls hl
    refine lv_iload_n hx hb d_Reader_hexDigit_26 rfl (lv_at hl 0 rfl) ?_
    refine lv_bipush (v := 97) hx hb d_Reader_hexDigit_27 (by decide) ?_
    refine lv_icmp_lt (tgt := 46) hx hb d_Reader_hexDigit_29 (by decide) (fun c_5 => ?_) (fun c_5 => ?_)
    · exact J_46 x2_26 _ _ (hP.sub [0, 1, 2] rfl) (hD.sub [0, 1, 2] (by decide) rfl) hS _ (lv_sub hl [0, 1, 2] rfl)
    · refine lv_iload_n hx hb d_Reader_hexDigit_32 rfl (lv_at hl 0 rfl) ?_
      refine lv_bipush (v := 102) hx hb d_Reader_hexDigit_33 (by decide) ?_
      refine lv_icmp_gt (tgt := 46) hx hb d_Reader_hexDigit_35 (by decide) (fun c_6 => ?_) (fun c_6 => ?_)
      · exact J_46 x2_26 _ _ (hP.sub [0, 1, 2] rfl) (hD.sub [0, 1, 2] (by decide) rfl) hS _ (lv_sub hl [0, 1, 2] rfl)
      · refine lv_iload_n hx hb d_Reader_hexDigit_38 rfl (lv_at hl 0 rfl) ?_
        refine lv_bipush (v := 97) hx hb d_Reader_hexDigit_39 (by decide) ?_
        refine lv_isub hx hb d_Reader_hexDigit_41 ?_
        refine lv_topi (fun y_7 ey_7 => ?_)
        refine lv_bipush (v := 10) hx hb d_Reader_hexDigit_42 (by decide) ?_
        refine lv_iadd hx hb d_Reader_hexDigit_44 ?_
        refine lv_topi (fun y_8 ey_8 => ?_)
        exact ret y_8 () (Nat.le_of_ble_eq_true rfl) (Nat.le_of_ble_eq_true rfl) d_Reader_hexDigit_45 rfl trivial (hP.sub [0, 1, 2] rfl) (hD.sub [0, 1, 2] (by decide) rfl) hS
  refine lv_aload_n hx hb d_Reader_hexDigit_0 rfl (lv_at hl 0 rfl) ?_
  refine va_get (D := G.1) (ci := 3) (v := .ref tr) (C := R_Reader) (T := F_Reader) (N := 3) hx hb hw i_Reader hown hE.1 hP 0 rfl rfl 0 (by decide) (hw _ m_115) (fun _ h9 => h9) rfl d_Reader_hexDigit_1 ?_
  refine lv_iload_n hx hb d_Reader_hexDigit_4 rfl (lv_at hl 1 rfl) ?_
  refine gc_i (wr := [(rd, .inr (3, [.ref tr, .ref t, .int at0]))]) (gc_V (wc := [(tr, .inr (1, [.ref ta, .int tsz])), (ta, .inl (G.2.1 0, 1000, .inl tf))]) (As := [.int i]) (rest := []) ⟨hx, hb, hml, hown, hw⟩ (c_Row_get l G tr ta 1000 tsz tf i (by decide) htp H.size) (cwV 1 hw (good_V m_143 m_144 m_145 m_2 m_146) rfl rfl rfl hy_Row_get ⟨Nat.le_of_ble_eq_true rfl, Nat.le_of_ble_eq_true rfl⟩) hE hP hD hS hA (va_recv hE.1 hP (ci := 1) (q0 := 1) rfl rfl) [1, 2] rfl (by decide) rfl hl rfl (Nat.le_of_ble_eq_true rfl) d_Reader_hexDigit_5 ⟨Nat.le_of_ble_eq_true rfl, Nat.le_of_ble_eq_true rfl⟩) hP hD hS hA [1, 2] [0] rfl rfl (by decide) (by decide) (fun r_9 u_10 H locs hw_11 hP hD hS => ?_)
  have hP : va_P G.1 vwCl [(rd, .inr (3, [.ref tr, .ref t, .int at0])), (tr, .inr (1, [.ref ta, .int tsz])), (ta, .inl (G.2.1 0, 1000, .inl tf))] H := hP
  have hD : va_D A [(rd, .inr (3, [.ref tr, .ref t, .int at0])), (tr, .inr (1, [.ref ta, .int tsz])), (ta, .inl (G.2.1 0, 1000, .inl tf))] := hD
  refine lv_istore_n (lv' := [(2, .int r_9), (0, .ref rd), (1, .int i)]) hx hb d_Reader_hexDigit_8 rfl hl (by decide) rfl (fun ls hl => ?_)
  refine lv_iload_n hx hb d_Reader_hexDigit_9 rfl (lv_at hl 0 rfl) ?_
  refine lv_bipush (v := 48) hx hb d_Reader_hexDigit_10 (by decide) ?_
  refine lv_icmp_lt (tgt := 26) hx hb d_Reader_hexDigit_12 (by decide) (fun c_12 => ?_) (fun c_12 => ?_)
  · exact J_26 r_9 _ _ (hP.sub [0, 1, 2] rfl) (hD.sub [0, 1, 2] (by decide) rfl) hS _ (lv_sub hl [0, 1, 2] rfl)
  · refine lv_iload_n hx hb d_Reader_hexDigit_15 rfl (lv_at hl 0 rfl) ?_
    refine lv_bipush (v := 57) hx hb d_Reader_hexDigit_16 (by decide) ?_
    refine lv_icmp_gt (tgt := 26) hx hb d_Reader_hexDigit_18 (by decide) (fun c_13 => ?_) (fun c_13 => ?_)
    · exact J_26 r_9 _ _ (hP.sub [0, 1, 2] rfl) (hD.sub [0, 1, 2] (by decide) rfl) hS _ (lv_sub hl [0, 1, 2] rfl)
    · refine lv_iload_n hx hb d_Reader_hexDigit_21 rfl (lv_at hl 0 rfl) ?_
      refine lv_bipush (v := 48) hx hb d_Reader_hexDigit_22 (by decide) ?_
      refine lv_isub hx hb d_Reader_hexDigit_24 ?_
      refine lv_topi (fun y_14 ey_14 => ?_)
      exact ret y_14 () (Nat.le_of_ble_eq_true rfl) (Nat.le_of_ble_eq_true rfl) d_Reader_hexDigit_25 rfl trivial (hP.sub [0, 1, 2] rfl) (hD.sub [0, 1, 2] (by decide) rfl) hS
def rm_Reader_isWord : Room := { frames := 4, cells := 0, slots := 0, locals := 85 }
set_option maxHeartbeats 4000000 in
set_option maxRecDepth 100000 in
theorem c_Reader_isWord (l : Launch) (G : GG) (rd : Nat) (t : Nat) (at0 : Int32) (tr : Nat) (ta : Nat) (tsz : Int32) (tf : Nat → Int32) (k : Nat) (n : Int32) (htp : RowOk 1000 tsz) (hk : k < nS) : MI l y_Reader_isWord b_Reader_isWord 4 .boolean rm_Reader_isWord G [.ref rd, .ref (G.2.2.1 k), .int n] [(rd, .inr (3, [.ref tr, .ref t, .int at0])), (tr, .inr (1, [.ref ta, .int tsz])), (ta, .inl (G.2.1 0, 1000, .inl tf))] (fun (v : Int32) (u : Unit) => (v = 0 ∨ v = 1)) (fun (u : Unit) => [(rd, .inr (3, [.ref tr, .ref t, .int at0])), (tr, .inr (1, [.ref ta, .int tsz])), (ta, .inl (G.2.1 0, 1000, .inl tf))]) 0 0 := by
  refine MI.of (cc := b_Reader_isWord) (maxL := 4) (ty := .boolean) (C := R_Reader) (by decide +kernel) rfl (Nat.le_of_ble_eq_true rfl) ?_
  intro p e s m args below meth c A Q H ls hx hb hml hown hw hE hA hP hD hS ret hl
  have hl : lv_has ls 4 [(0, .ref rd), (1, .ref (G.2.2.1 k)), (2, .int n)] := hl
  have J_12 : ∀ (fu : Nat) (x3_12 : Int32) (hk0_12 : 0 ≤ x3_12.toInt) (hk1_12 : n = nI (lenS.getD k 0)), (n.toInt - x3_12.toInt).toNat < fu → ∀ (H : Heap) (locs : List Loc), va_P G.1 vwCl [(rd, .inr (3, [.ref tr, .ref t, .int at0])), (tr, .inr (1, [.ref ta, .int tsz])), (ta, .inl (G.2.1 0, 1000, .inl tf))] H → va_D A [(rd, .inr (3, [.ref tr, .ref t, .int at0])), (tr, .inr (1, [.ref ta, .int tsz])), (ta, .inl (G.2.1 0, 1000, .inl tf))] → va_S A s.heap H locs → ∀ ls : Array Slot, lv_has ls 4 [(3, .int x3_12), (0, .ref rd), (1, .ref (G.2.2.1 k)), (2, .int n)] → W p l e rm_Reader_isWord s m args below meth c H locs 0 0 Q (F0 m 12 ls []) := by
    intro fu
    induction fu with
    | zero =>
      intro x3_12 hk0_12 hk1_12 hm
      exact absurd hm (Nat.not_lt_zero _)
    | succ fu ih_12 =>
      intro x3_12 hk0_12 hk1_12 hm_12 H locs hP hD hS ls hl
      refine lv_iload_n hx hb d_Reader_isWord_12 rfl (lv_at hl 0 rfl) ?_
      refine lv_iload_n hx hb d_Reader_isWord_13 rfl (lv_at hl 3 rfl) ?_
      refine lv_icmp_ge (tgt := 46) hx hb d_Reader_isWord_14 (by decide) (fun c_1 => ?_) (fun c_1 => ?_)
      · refine lv_iconst (v := 1) hx hb d_Reader_isWord_46 (by decide) ?_
        exact ret 1 () (Nat.le_of_ble_eq_true rfl) (Nat.le_of_ble_eq_true rfl) d_Reader_isWord_47 rfl (by first | assumption | decide) (hP.sub [0, 1, 2] rfl) (hD.sub [0, 1, 2] (by decide) rfl) hS
      · refine lv_aload_n hx hb d_Reader_isWord_17 rfl (lv_at hl 1 rfl) ?_
        refine va_get (D := G.1) (ci := 3) (v := .ref tr) (C := R_Reader) (T := F_Reader) (N := 3) hx hb hw i_Reader hown hE.1 hP 0 rfl rfl 0 (by decide) (hw _ m_115) (fun _ h9 => h9) rfl d_Reader_isWord_18 ?_
        refine lv_aload_n hx hb d_Reader_isWord_21 rfl (lv_at hl 1 rfl) ?_
        refine va_get (D := G.1) (ci := 3) (v := .int at0) (C := R_Reader) (T := F_Reader) (N := 3) hx hb hw i_Reader hown hE.1 hP 0 rfl rfl 2 (by decide) (hw _ m_117) (fun _ h9 => h9) rfl d_Reader_isWord_22 ?_
        refine lv_iload_n hx hb d_Reader_isWord_25 rfl (lv_at hl 0 rfl) ?_
        refine lv_iadd hx hb d_Reader_isWord_26 ?_
        refine lv_topi (fun y_2 ey_2 => ?_)
        refine gc_i (wr := [(rd, .inr (3, [.ref tr, .ref t, .int at0]))]) (gc_V (wc := [(tr, .inr (1, [.ref ta, .int tsz])), (ta, .inl (G.2.1 0, 1000, .inl tf))]) (As := [.int y_2]) (rest := []) ⟨hx, hb, hml, hown, hw⟩ (c_Row_get l G tr ta 1000 tsz tf y_2 (by decide) htp H.size) (cwV 1 hw (good_V m_143 m_144 m_145 m_2 m_146) rfl rfl rfl hy_Row_get ⟨Nat.le_of_ble_eq_true rfl, Nat.le_of_ble_eq_true rfl⟩) hE hP hD hS hA (va_recv hE.1 hP (ci := 1) (q0 := 1) rfl rfl) [1, 2] rfl (by decide) rfl hl rfl (Nat.le_of_ble_eq_true rfl) d_Reader_isWord_27 ⟨Nat.le_of_ble_eq_true rfl, Nat.le_of_ble_eq_true rfl⟩) hP hD hS hA [1, 2] [0] rfl rfl (by decide) (by decide) (fun r_3 u_4 H locs hw_5 hP hD hS => ?_)
        have hP : va_P G.1 vwCl [(rd, .inr (3, [.ref tr, .ref t, .int at0])), (tr, .inr (1, [.ref ta, .int tsz])), (ta, .inl (G.2.1 0, 1000, .inl tf))] H := hP
        have hD : va_D A [(rd, .inr (3, [.ref tr, .ref t, .int at0])), (tr, .inr (1, [.ref ta, .int tsz])), (ta, .inl (G.2.1 0, 1000, .inl tf))] := hD
        refine lv_aload_n hx hb d_Reader_isWord_30 rfl (lv_at hl 2 rfl) ?_
        refine lv_iload_n hx hb d_Reader_isWord_31 rfl (lv_at hl 0 rfl) ?_
        refine gc_i (wr := [(rd, .inr (3, [.ref tr, .ref t, .int at0])), (tr, .inr (1, [.ref ta, .int tsz])), (ta, .inl (G.2.1 0, 1000, .inl tf))]) (gc_V (wc := []) (As := [.int x3_12]) (rest := [.int r_3]) ⟨hx, hb, hml, hown, hw⟩ (c_Str_charAt l G k x3_12 hk (⟨hk0_12, by rw [← hk1_12]; exact z_nle (by assumption)⟩) H.size) (cwV 1 hw (good_V m_275 m_276 m_277 m_6 m_278) rfl rfl rfl hy_Str_charAt ⟨Nat.le_of_ble_eq_true rfl, Nat.le_of_ble_eq_true rfl⟩) hE hP hD hS hA (vk_recv (hE.2.1 k hk).1 (i := 0) (by decide) hS) [] rfl (by decide) rfl hl rfl (Nat.le_of_ble_eq_true rfl) d_Reader_isWord_32 ⟨Nat.le_of_ble_eq_true rfl, Nat.le_of_ble_eq_true rfl⟩) hP hD hS hA [] [0, 1, 2] rfl rfl (by decide) (by decide) (fun r_6 u_7 H locs hw_8 hP hD hS => ?_)
        have hP : va_P G.1 vwCl [(rd, .inr (3, [.ref tr, .ref t, .int at0])), (tr, .inr (1, [.ref ta, .int tsz])), (ta, .inl (G.2.1 0, 1000, .inl tf))] H := hP
        have hD : va_D A [(rd, .inr (3, [.ref tr, .ref t, .int at0])), (tr, .inr (1, [.ref ta, .int tsz])), (ta, .inl (G.2.1 0, 1000, .inl tf))] := hD
        refine lv_icmp_eq (tgt := 40) hx hb d_Reader_isWord_35 (by decide) (fun c_9 => ?_) (fun c_9 => ?_)
        · obtain ⟨y_10, ey_10⟩ : ∃ y : Int32, y = x3_12 + 1 := ⟨_, rfl⟩
          refine lv_iinc (v := y_10) (lv' := [(3, .int y_10), (0, .ref rd), (1, .ref (G.2.2.1 k)), (2, .int n)]) hx hb d_Reader_isWord_40 hl (k := 0) rfl (by rw [ey_10]; rfl) (by decide) rfl (fun ls hl => ?_)
          refine lv_goto (tgt := 12) hx hb d_Reader_isWord_43 (by decide) ?_
          exact ih_12 y_10 (by exact up_0 hk0_12 (by assumption) (by assumption)) hk1_12 (ms_up (by assumption) (by assumption) hm_12) _ _ (hP.sub [0, 1, 2] rfl) (hD.sub [0, 1, 2] (by decide) rfl) hS _ (lv_sub hl [0, 1, 2, 3] rfl)
        · refine lv_iconst (v := 0) hx hb d_Reader_isWord_38 (by decide) ?_
          exact ret 0 () (Nat.le_of_ble_eq_true rfl) (Nat.le_of_ble_eq_true rfl) d_Reader_isWord_39 rfl (by first | assumption | decide) (hP.sub [0, 1, 2] rfl) (hD.sub [0, 1, 2] (by decide) rfl) hS
  refine lv_iload_n hx hb d_Reader_isWord_0 rfl (lv_at hl 2 rfl) ?_
  refine lv_aload_n hx hb d_Reader_isWord_1 rfl (lv_at hl 1 rfl) ?_
  refine gc_i (wr := [(rd, .inr (3, [.ref tr, .ref t, .int at0])), (tr, .inr (1, [.ref ta, .int tsz])), (ta, .inl (G.2.1 0, 1000, .inl tf))]) (gc_V (wc := []) (As := []) (rest := [.int n]) ⟨hx, hb, hml, hown, hw⟩ (c_Str_length l G k hk H.size) (cwV 0 hw (good_V m_265 m_266 m_267 m_6 m_268) rfl rfl rfl hy_Str_length ⟨Nat.le_of_ble_eq_true rfl, Nat.le_of_ble_eq_true rfl⟩) hE hP hD hS hA (vk_recv (hE.2.1 k hk).1 (i := 0) (by decide) hS) [] rfl (by decide) rfl hl rfl (Nat.le_of_ble_eq_true rfl) d_Reader_isWord_2 ⟨Nat.le_of_ble_eq_true rfl, Nat.le_of_ble_eq_true rfl⟩) hP hD hS hA [] [0, 1, 2] rfl rfl (by decide) (by decide) (fun r_11 u_12 H locs hw_13 hP hD hS => ?_)
  try dsimp only at hw_13
  have h_14 := hw_13
  subst h_14
  have hP : va_P G.1 vwCl [(rd, .inr (3, [.ref tr, .ref t, .int at0])), (tr, .inr (1, [.ref ta, .int tsz])), (ta, .inl (G.2.1 0, 1000, .inl tf))] H := hP
  have hD : va_D A [(rd, .inr (3, [.ref tr, .ref t, .int at0])), (tr, .inr (1, [.ref ta, .int tsz])), (ta, .inl (G.2.1 0, 1000, .inl tf))] := hD
  refine lv_icmp_eq (tgt := 10) hx hb d_Reader_isWord_5 (by decide) (fun c_15 => ?_) (fun c_15 => ?_)
  · refine lv_iconst (v := 0) hx hb d_Reader_isWord_10 (by decide) ?_
    refine lv_istore_n (lv' := [(3, .int 0), (0, .ref rd), (1, .ref (G.2.2.1 k)), (2, .int n)]) hx hb d_Reader_isWord_11 rfl hl (by decide) rfl (fun ls hl => ?_)
    exact J_12 _ 0 (by decide) (by first | assumption | trivial | (try dsimp only; omega)) (Nat.lt_succ_self _) _ _ (hP.sub [0, 1, 2] rfl) (hD.sub [0, 1, 2] (by decide) rfl) hS _ (lv_sub hl [0, 1, 2, 3] rfl)
  · refine lv_iconst (v := 0) hx hb d_Reader_isWord_8 (by decide) ?_
    exact ret 0 () (Nat.le_of_ble_eq_true rfl) (Nat.le_of_ble_eq_true rfl) d_Reader_isWord_9 rfl (by first | assumption | decide) (hP.sub [0, 1, 2] rfl) (hD.sub [0, 1, 2] (by decide) rfl) hS
def rm_Reader_kindOfWord : Room := { frames := 5, cells := 0, slots := 0, locals := 108 }
set_option maxHeartbeats 4000000 in
set_option maxRecDepth 100000 in
theorem c_Reader_kindOfWord (l : Launch) (G : GG) (rd : Nat) (t : Nat) (at0 : Int32) (tr : Nat) (ta : Nat) (tsz : Int32) (tf : Nat → Int32) (n : Int32) (htp : RowOk 1000 tsz) : MI l y_Reader_kindOfWord b_Reader_kindOfWord 2 .int rm_Reader_kindOfWord G [.ref rd, .int n] [(rd, .inr (3, [.ref tr, .ref t, .int at0])), (tr, .inr (1, [.ref ta, .int tsz])), (ta, .inl (G.2.1 0, 1000, .inl tf))] (fun (v : Int32) (u : Unit) => True) (fun (u : Unit) => [(rd, .inr (3, [.ref tr, .ref t, .int at0])), (tr, .inr (1, [.ref ta, .int tsz])), (ta, .inl (G.2.1 0, 1000, .inl tf))]) 0 0 := by
  refine MI.of (cc := b_Reader_kindOfWord) (maxL := 2) (ty := .int) (C := R_Reader) (by decide +kernel) rfl (Nat.le_of_ble_eq_true rfl) ?_
  intro p e s m args below meth c A Q H ls hx hb hml hown hw hE hA hP hD hS ret hl
  have hl : lv_has ls 2 [(0, .ref rd), (1, .int n)] := hl
  refine lv_aload_n hx hb d_Reader_kindOfWord_0 rfl (lv_at hl 0 rfl) ?_
  refine va_ldcS (q := (G.2.2.1 0)) hx hb hown (hE.2.1 0 (by decide)).2 d_Reader_kindOfWord_1 ?_
  refine lv_iload_n hx hb d_Reader_kindOfWord_3 rfl (lv_at hl 1 rfl) ?_
  refine gc_i (wr := []) (gc_V (wc := [(rd, .inr (3, [.ref tr, .ref t, .int at0])), (tr, .inr (1, [.ref ta, .int tsz])), (ta, .inl (G.2.1 0, 1000, .inl tf))]) (As := [.ref (G.2.2.1 0), .int n]) (rest := []) ⟨hx, hb, hml, hown, hw⟩ (c_Reader_isWord l G rd t at0 tr ta tsz tf 0 n htp (by decide) H.size) (cwV 2 hw (good_V m_261 m_263 ms_18 m_5 m_264) rfl rfl rfl hy_Reader_isWord ⟨Nat.le_of_ble_eq_true rfl, Nat.le_of_ble_eq_true rfl⟩) hE hP hD hS hA (va_recv hE.1 hP (ci := 3) (q0 := 0) rfl rfl) [0, 1, 2] rfl (by decide) rfl hl rfl (Nat.le_of_ble_eq_true rfl) d_Reader_kindOfWord_4 ⟨Nat.le_of_ble_eq_true rfl, Nat.le_of_ble_eq_true rfl⟩) hP hD hS hA [0, 1, 2] [] rfl rfl (by decide) (by decide) (fun r_1 u_2 H locs hw_3 hP hD hS => ?_)
  try dsimp only at hw_3
  have h_4 := hw_3
  have hP : va_P G.1 vwCl [(rd, .inr (3, [.ref tr, .ref t, .int at0])), (tr, .inr (1, [.ref ta, .int tsz])), (ta, .inl (G.2.1 0, 1000, .inl tf))] H := hP
  have hD : va_D A [(rd, .inr (3, [.ref tr, .ref t, .int at0])), (tr, .inr (1, [.ref ta, .int tsz])), (ta, .inl (G.2.1 0, 1000, .inl tf))] := hD
  refine lv_if_eq (tgt := 12) hx hb d_Reader_kindOfWord_7 (by decide) (fun c_5 => ?_) (fun c_5 => ?_)
  · refine lv_aload_n hx hb d_Reader_kindOfWord_12 rfl (lv_at hl 0 rfl) ?_
    refine va_ldcS (q := (G.2.2.1 1)) hx hb hown (hE.2.1 1 (by decide)).2 d_Reader_kindOfWord_13 ?_
    refine lv_iload_n hx hb d_Reader_kindOfWord_15 rfl (lv_at hl 1 rfl) ?_
    refine gc_i (wr := []) (gc_V (wc := [(rd, .inr (3, [.ref tr, .ref t, .int at0])), (tr, .inr (1, [.ref ta, .int tsz])), (ta, .inl (G.2.1 0, 1000, .inl tf))]) (As := [.ref (G.2.2.1 1), .int n]) (rest := []) ⟨hx, hb, hml, hown, hw⟩ (c_Reader_isWord l G rd t at0 tr ta tsz tf 1 n htp (by decide) H.size) (cwV 2 hw (good_V m_261 m_263 ms_18 m_5 m_264) rfl rfl rfl hy_Reader_isWord ⟨Nat.le_of_ble_eq_true rfl, Nat.le_of_ble_eq_true rfl⟩) hE hP hD hS hA (va_recv hE.1 hP (ci := 3) (q0 := 0) rfl rfl) [0, 1, 2] rfl (by decide) rfl hl rfl (Nat.le_of_ble_eq_true rfl) d_Reader_kindOfWord_16 ⟨Nat.le_of_ble_eq_true rfl, Nat.le_of_ble_eq_true rfl⟩) hP hD hS hA [0, 1, 2] [] rfl rfl (by decide) (by decide) (fun r_6 u_7 H locs hw_8 hP hD hS => ?_)
    try dsimp only at hw_8
    have h_9 := hw_8
    have hP : va_P G.1 vwCl [(rd, .inr (3, [.ref tr, .ref t, .int at0])), (tr, .inr (1, [.ref ta, .int tsz])), (ta, .inl (G.2.1 0, 1000, .inl tf))] H := hP
    have hD : va_D A [(rd, .inr (3, [.ref tr, .ref t, .int at0])), (tr, .inr (1, [.ref ta, .int tsz])), (ta, .inl (G.2.1 0, 1000, .inl tf))] := hD
    refine lv_if_eq (tgt := 24) hx hb d_Reader_kindOfWord_19 (by decide) (fun c_10 => ?_) (fun c_10 => ?_)
    · refine lv_aload_n hx hb d_Reader_kindOfWord_24 rfl (lv_at hl 0 rfl) ?_
      refine va_ldcS (q := (G.2.2.1 2)) hx hb hown (hE.2.1 2 (by decide)).2 d_Reader_kindOfWord_25 ?_
      refine lv_iload_n hx hb d_Reader_kindOfWord_27 rfl (lv_at hl 1 rfl) ?_
      refine gc_i (wr := []) (gc_V (wc := [(rd, .inr (3, [.ref tr, .ref t, .int at0])), (tr, .inr (1, [.ref ta, .int tsz])), (ta, .inl (G.2.1 0, 1000, .inl tf))]) (As := [.ref (G.2.2.1 2), .int n]) (rest := []) ⟨hx, hb, hml, hown, hw⟩ (c_Reader_isWord l G rd t at0 tr ta tsz tf 2 n htp (by decide) H.size) (cwV 2 hw (good_V m_261 m_263 ms_18 m_5 m_264) rfl rfl rfl hy_Reader_isWord ⟨Nat.le_of_ble_eq_true rfl, Nat.le_of_ble_eq_true rfl⟩) hE hP hD hS hA (va_recv hE.1 hP (ci := 3) (q0 := 0) rfl rfl) [0, 1, 2] rfl (by decide) rfl hl rfl (Nat.le_of_ble_eq_true rfl) d_Reader_kindOfWord_28 ⟨Nat.le_of_ble_eq_true rfl, Nat.le_of_ble_eq_true rfl⟩) hP hD hS hA [0, 1, 2] [] rfl rfl (by decide) (by decide) (fun r_11 u_12 H locs hw_13 hP hD hS => ?_)
      try dsimp only at hw_13
      have h_14 := hw_13
      have hP : va_P G.1 vwCl [(rd, .inr (3, [.ref tr, .ref t, .int at0])), (tr, .inr (1, [.ref ta, .int tsz])), (ta, .inl (G.2.1 0, 1000, .inl tf))] H := hP
      have hD : va_D A [(rd, .inr (3, [.ref tr, .ref t, .int at0])), (tr, .inr (1, [.ref ta, .int tsz])), (ta, .inl (G.2.1 0, 1000, .inl tf))] := hD
      refine lv_if_eq (tgt := 38) hx hb d_Reader_kindOfWord_31 (by decide) (fun c_15 => ?_) (fun c_15 => ?_)
      · refine lv_bipush (v := (-2)) hx hb d_Reader_kindOfWord_38 (by decide) ?_
        exact ret (-2) () (Nat.le_of_ble_eq_true rfl) (Nat.le_of_ble_eq_true rfl) d_Reader_kindOfWord_40 rfl trivial (hP.sub [0, 1, 2] rfl) (hD.sub [0, 1, 2] (by decide) rfl) hS
      · refine lv_iconst (v := 2) hx hb d_Reader_kindOfWord_34 (by decide) ?_
        refine lv_goto (tgt := 40) hx hb d_Reader_kindOfWord_35 (by decide) ?_
        exact ret 2 () (Nat.le_of_ble_eq_true rfl) (Nat.le_of_ble_eq_true rfl) d_Reader_kindOfWord_40 rfl trivial (hP.sub [0, 1, 2] rfl) (hD.sub [0, 1, 2] (by decide) rfl) hS
    · refine lv_iconst (v := 1) hx hb d_Reader_kindOfWord_22 (by decide) ?_
      exact ret 1 () (Nat.le_of_ble_eq_true rfl) (Nat.le_of_ble_eq_true rfl) d_Reader_kindOfWord_23 rfl trivial (hP.sub [0, 1, 2] rfl) (hD.sub [0, 1, 2] (by decide) rfl) hS
  · refine lv_iconst (v := 0) hx hb d_Reader_kindOfWord_10 (by decide) ?_
    exact ret 0 () (Nat.le_of_ble_eq_true rfl) (Nat.le_of_ble_eq_true rfl) d_Reader_kindOfWord_11 rfl trivial (hP.sub [0, 1, 2] rfl) (hD.sub [0, 1, 2] (by decide) rfl) hS
def rm_Reader_isInt : Room := { frames := 1, cells := 0, slots := 0, locals := 21 }
set_option maxHeartbeats 4000000 in
set_option maxRecDepth 100000 in
theorem c_Reader_isInt (l : Launch) (G : GG) (rd : Nat) (t : Nat) (at0 : Int32) (tr : Nat) (ta : Nat) (tsz : Int32) (tf : Nat → Int32) (i : Int32) (n : Int32) (htp : RowOk 1000 tsz) : MI l y_Reader_isInt b_Reader_isInt 7 .boolean rm_Reader_isInt G [.ref rd, .int i, .int n] [(rd, .inr (3, [.ref tr, .ref t, .int at0])), (tr, .inr (1, [.ref ta, .int tsz])), (ta, .inl (G.2.1 0, 1000, .inl tf))] (fun (v : Int32) (u : Unit) => (v = 0 ∨ v = 1)) (fun (u : Unit) => [(rd, .inr (3, [.ref tr, .ref t, .int at0])), (tr, .inr (1, [.ref ta, .int tsz])), (ta, .inl (G.2.1 0, 1000, .inl tf))]) 0 0 := by
  refine MI.of (cc := b_Reader_isInt) (maxL := 7) (ty := .boolean) (C := R_Reader) (by decide +kernel) rfl (Nat.le_of_ble_eq_true rfl) ?_
  intro p e s m args below meth c A Q H ls hx hb hml hown hw hE hA hP hD hS ret hl
  have hl : lv_has ls 7 [(0, .ref rd), (1, .int i), (2, .int n)] := hl
  have J_42 : ∀ (fu : Nat) (x5_42 : Int32) (x4_42 : Int32) (x3_42 : Int32), (n.toInt - x5_42.toInt).toNat < fu → ∀ (H : Heap) (locs : List Loc), va_P G.1 vwCl [(rd, .inr (3, [.ref tr, .ref t, .int at0])), (tr, .inr (1, [.ref ta, .int tsz])), (ta, .inl (G.2.1 0, 1000, .inl tf))] H → va_D A [(rd, .inr (3, [.ref tr, .ref t, .int at0])), (tr, .inr (1, [.ref ta, .int tsz])), (ta, .inl (G.2.1 0, 1000, .inl tf))] → va_S A s.heap H locs → ∀ ls : Array Slot, lv_has ls 7 [(5, .int x5_42), (4, .int x4_42), (3, .int x3_42), (0, .ref rd), (1, .int i), (2, .int n)] → W p l e rm_Reader_isInt s m args below meth c H locs 0 0 Q (F0 m 42 ls []) := by
    intro fu
    induction fu with
    | zero =>
      intro x5_42 x4_42 x3_42 hm
      exact absurd hm (Nat.not_lt_zero _)
    | succ fu ih_42 =>
      intro x5_42 x4_42 x3_42 hm_42 H locs hP hD hS ls hl
      refine lv_iload hx hb d_Reader_isInt_42 (lv_at hl 0 rfl) ?_
      refine lv_iload_n hx hb d_Reader_isInt_44 rfl (lv_at hl 5 rfl) ?_
      refine lv_icmp_ge (tgt := 83) hx hb d_Reader_isInt_45 (by decide) (fun c_1 => ?_) (fun c_1 => ?_)
      · refine lv_iconst (v := 1) hx hb d_Reader_isInt_83 (by decide) ?_
        exact ret 1 () (Nat.le_of_ble_eq_true rfl) (Nat.le_of_ble_eq_true rfl) d_Reader_isInt_84 rfl (by first | assumption | decide) (hP.sub [0, 1, 2] rfl) (hD.sub [0, 1, 2] (by decide) rfl) hS
      · refine lv_aload_n hx hb d_Reader_isInt_48 rfl (lv_at hl 3 rfl) ?_
        refine va_get (D := G.1) (ci := 3) (v := .ref tr) (C := R_Reader) (T := F_Reader) (N := 3) hx hb hw i_Reader hown hE.1 hP 0 rfl rfl 0 (by decide) (hw _ m_115) (fun _ h9 => h9) rfl d_Reader_isInt_49 ?_
        refine lv_iload_n hx hb d_Reader_isInt_52 rfl (lv_at hl 4 rfl) ?_
        refine lv_iload hx hb d_Reader_isInt_53 (lv_at hl 0 rfl) ?_
        refine lv_iadd hx hb d_Reader_isInt_55 ?_
        refine lv_topi (fun y_2 ey_2 => ?_)
        refine gc_i (wr := [(rd, .inr (3, [.ref tr, .ref t, .int at0]))]) (gc_V (wc := [(tr, .inr (1, [.ref ta, .int tsz])), (ta, .inl (G.2.1 0, 1000, .inl tf))]) (As := [.int y_2]) (rest := []) ⟨hx, hb, hml, hown, hw⟩ (c_Row_get l G tr ta 1000 tsz tf y_2 (by decide) htp H.size) (cwV 1 hw (good_V m_143 m_144 m_145 m_2 m_146) rfl rfl rfl hy_Row_get ⟨Nat.le_of_ble_eq_true rfl, Nat.le_of_ble_eq_true rfl⟩) hE hP hD hS hA (va_recv hE.1 hP (ci := 1) (q0 := 1) rfl rfl) [1, 2] rfl (by decide) rfl hl rfl (Nat.le_of_ble_eq_true rfl) d_Reader_isInt_56 ⟨Nat.le_of_ble_eq_true rfl, Nat.le_of_ble_eq_true rfl⟩) hP hD hS hA [1, 2] [0] rfl rfl (by decide) (by decide) (fun r_3 u_4 H locs hw_5 hP hD hS => ?_)
        have hP : va_P G.1 vwCl [(rd, .inr (3, [.ref tr, .ref t, .int at0])), (tr, .inr (1, [.ref ta, .int tsz])), (ta, .inl (G.2.1 0, 1000, .inl tf))] H := hP
        have hD : va_D A [(rd, .inr (3, [.ref tr, .ref t, .int at0])), (tr, .inr (1, [.ref ta, .int tsz])), (ta, .inl (G.2.1 0, 1000, .inl tf))] := hD
        refine lv_istore (lv' := [(6, .int r_3), (5, .int x5_42), (4, .int x4_42), (3, .int x3_42), (0, .ref rd), (1, .int i), (2, .int n)]) hx hb d_Reader_isInt_59 hl (by decide) rfl (fun ls hl => ?_)
        refine lv_iload hx hb d_Reader_isInt_61 (lv_at hl 0 rfl) ?_
        refine lv_bipush (v := 48) hx hb d_Reader_isInt_63 (by decide) ?_
        refine lv_icmp_lt (tgt := 75) hx hb d_Reader_isInt_65 (by decide) (fun c_6 => ?_) (fun c_6 => ?_)
        · refine lv_iconst (v := 0) hx hb d_Reader_isInt_75 (by decide) ?_
          exact ret 0 () (Nat.le_of_ble_eq_true rfl) (Nat.le_of_ble_eq_true rfl) d_Reader_isInt_76 rfl (by first | assumption | decide) (hP.sub [0, 1, 2] rfl) (hD.sub [0, 1, 2] (by decide) rfl) hS
        · refine lv_iload hx hb d_Reader_isInt_68 (lv_at hl 0 rfl) ?_
          refine lv_bipush (v := 57) hx hb d_Reader_isInt_70 (by decide) ?_
          refine lv_icmp_le (tgt := 77) hx hb d_Reader_isInt_72 (by decide) (fun c_7 => ?_) (fun c_7 => ?_)
          · obtain ⟨y_8, ey_8⟩ : ∃ y : Int32, y = x5_42 + 1 := ⟨_, rfl⟩
            refine lv_iinc (v := y_8) (lv' := [(5, .int y_8), (6, .int r_3), (4, .int x4_42), (3, .int x3_42), (0, .ref rd), (1, .int i), (2, .int n)]) hx hb d_Reader_isInt_77 hl (k := 1) rfl (by rw [ey_8]; rfl) (by decide) rfl (fun ls hl => ?_)
            refine lv_goto (tgt := 42) hx hb d_Reader_isInt_80 (by decide) ?_
            exact ih_42 y_8 x4_42 x3_42 (ms_up (by assumption) (by assumption) hm_42) _ _ (hP.sub [0, 1, 2] rfl) (hD.sub [0, 1, 2] (by decide) rfl) hS _ (lv_sub hl [0, 2, 3, 4, 5, 6] rfl)
          · refine lv_iconst (v := 0) hx hb d_Reader_isInt_75 (by decide) ?_
            exact ret 0 () (Nat.le_of_ble_eq_true rfl) (Nat.le_of_ble_eq_true rfl) d_Reader_isInt_76 rfl (by first | assumption | decide) (hP.sub [0, 1, 2] rfl) (hD.sub [0, 1, 2] (by decide) rfl) hS
  have J_18 : ∀ (k0_18 : Int32) (H : Heap) (locs : List Loc), va_P G.1 vwCl [(rd, .inr (3, [.ref tr, .ref t, .int at0])), (tr, .inr (1, [.ref ta, .int tsz])), (ta, .inl (G.2.1 0, 1000, .inl tf))] H → va_D A [(rd, .inr (3, [.ref tr, .ref t, .int at0])), (tr, .inr (1, [.ref ta, .int tsz])), (ta, .inl (G.2.1 0, 1000, .inl tf))] → va_S A s.heap H locs → ∀ ls : Array Slot, lv_has ls 7 [(0, .ref rd), (1, .int i), (2, .int n)] → W p l e rm_Reader_isInt s m args below meth c H locs 0 0 Q (F0 m 18 ls [.int k0_18]) := by
    intro k0_18 H locs hP hD hS ls hl
    refine lv_istore_n (lv' := [(3, .int k0_18), (0, .ref rd), (1, .int i), (2, .int n)]) hx hb d_Reader_isInt_18 rfl hl (by decide) rfl (fun ls hl => ?_)
    refine lv_iload_n hx hb d_Reader_isInt_19 rfl (lv_at hl 3 rfl) ?_
    refine lv_iload_n hx hb d_Reader_isInt_20 rfl (lv_at hl 0 rfl) ?_
    refine lv_isub hx hb d_Reader_isInt_21 ?_
    refine lv_topi (fun y_9 ey_9 => ?_)
    refine lv_istore (lv' := [(4, .int y_9), (3, .int k0_18), (0, .ref rd), (1, .int i), (2, .int n)]) hx hb d_Reader_isInt_22 hl (by decide) rfl (fun ls hl => ?_)
    refine lv_iload hx hb d_Reader_isInt_24 (lv_at hl 0 rfl) ?_
    refine lv_iconst (v := 1) hx hb d_Reader_isInt_26 (by decide) ?_
    refine lv_icmp_lt (tgt := 37) hx hb d_Reader_isInt_27 (by decide) (fun c_10 => ?_) (fun c_10 => ?_)
    · refine lv_iconst (v := 0) hx hb d_Reader_isInt_37 (by decide) ?_
      exact ret 0 () (Nat.le_of_ble_eq_true rfl) (Nat.le_of_ble_eq_true rfl) d_Reader_isInt_38 rfl (by first | assumption | decide) (hP.sub [0, 1, 2] rfl) (hD.sub [0, 1, 2] (by decide) rfl) hS
    · refine lv_iload hx hb d_Reader_isInt_30 (lv_at hl 0 rfl) ?_
      refine lv_bipush (v := 9) hx hb d_Reader_isInt_32 (by decide) ?_
      refine lv_icmp_le (tgt := 39) hx hb d_Reader_isInt_34 (by decide) (fun c_11 => ?_) (fun c_11 => ?_)
      · refine lv_iload_n hx hb d_Reader_isInt_39 rfl (lv_at hl 1 rfl) ?_
        refine lv_istore (lv' := [(5, .int k0_18), (4, .int y_9), (3, .int k0_18), (0, .ref rd), (1, .int i), (2, .int n)]) hx hb d_Reader_isInt_40 hl (by decide) rfl (fun ls hl => ?_)
        exact J_42 _ k0_18 y_9 k0_18 (Nat.lt_succ_self _) _ _ (hP.sub [0, 1, 2] rfl) (hD.sub [0, 1, 2] (by decide) rfl) hS _ (lv_sub hl [0, 1, 2, 3, 4, 5] rfl)
      · refine lv_iconst (v := 0) hx hb d_Reader_isInt_37 (by decide) ?_
        exact ret 0 () (Nat.le_of_ble_eq_true rfl) (Nat.le_of_ble_eq_true rfl) d_Reader_isInt_38 rfl (by first | assumption | decide) (hP.sub [0, 1, 2] rfl) (hD.sub [0, 1, 2] (by decide) rfl) hS
  refine lv_aload_n hx hb d_Reader_isInt_0 rfl (lv_at hl 0 rfl) ?_
  refine va_get (D := G.1) (ci := 3) (v := .ref tr) (C := R_Reader) (T := F_Reader) (N := 3) hx hb hw i_Reader hown hE.1 hP 0 rfl rfl 0 (by decide) (hw _ m_115) (fun _ h9 => h9) rfl d_Reader_isInt_1 ?_
  refine lv_iload_n hx hb d_Reader_isInt_4 rfl (lv_at hl 1 rfl) ?_
  refine gc_i (wr := [(rd, .inr (3, [.ref tr, .ref t, .int at0]))]) (gc_V (wc := [(tr, .inr (1, [.ref ta, .int tsz])), (ta, .inl (G.2.1 0, 1000, .inl tf))]) (As := [.int i]) (rest := []) ⟨hx, hb, hml, hown, hw⟩ (c_Row_get l G tr ta 1000 tsz tf i (by decide) htp H.size) (cwV 1 hw (good_V m_143 m_144 m_145 m_2 m_146) rfl rfl rfl hy_Row_get ⟨Nat.le_of_ble_eq_true rfl, Nat.le_of_ble_eq_true rfl⟩) hE hP hD hS hA (va_recv hE.1 hP (ci := 1) (q0 := 1) rfl rfl) [1, 2] rfl (by decide) rfl hl rfl (Nat.le_of_ble_eq_true rfl) d_Reader_isInt_5 ⟨Nat.le_of_ble_eq_true rfl, Nat.le_of_ble_eq_true rfl⟩) hP hD hS hA [1, 2] [0] rfl rfl (by decide) (by decide) (fun r_12 u_13 H locs hw_14 hP hD hS => ?_)
  have hP : va_P G.1 vwCl [(rd, .inr (3, [.ref tr, .ref t, .int at0])), (tr, .inr (1, [.ref ta, .int tsz])), (ta, .inl (G.2.1 0, 1000, .inl tf))] H := hP
  have hD : va_D A [(rd, .inr (3, [.ref tr, .ref t, .int at0])), (tr, .inr (1, [.ref ta, .int tsz])), (ta, .inl (G.2.1 0, 1000, .inl tf))] := hD
  refine lv_bipush (v := 45) hx hb d_Reader_isInt_8 (by decide) ?_
  refine lv_icmp_ne (tgt := 17) hx hb d_Reader_isInt_10 (by decide) (fun c_15 => ?_) (fun c_15 => ?_)
  · refine lv_iconst (v := 0) hx hb d_Reader_isInt_17 (by decide) ?_
    exact J_18 0 _ _ (hP.sub [0, 1, 2] rfl) (hD.sub [0, 1, 2] (by decide) rfl) hS _ (lv_sub hl [0, 1, 2] rfl)
  · refine lv_iconst (v := 1) hx hb d_Reader_isInt_13 (by decide) ?_
    refine lv_goto (tgt := 18) hx hb d_Reader_isInt_14 (by decide) ?_
    exact J_18 1 _ _ (hP.sub [0, 1, 2] rfl) (hD.sub [0, 1, 2] (by decide) rfl) hS _ (lv_sub hl [0, 1, 2] rfl)
def rm_Reader_numberAt : Room := { frames := 1, cells := 0, slots := 0, locals := 21 }
set_option maxHeartbeats 4000000 in
set_option maxRecDepth 100000 in
theorem c_Reader_numberAt (l : Launch) (G : GG) (rd : Nat) (t : Nat) (at0 : Int32) (tr : Nat) (ta : Nat) (tsz : Int32) (tf : Nat → Int32) (i : Int32) (n : Int32) (htp : RowOk 1000 tsz) : MI l y_Reader_numberAt b_Reader_numberAt 6 .int rm_Reader_numberAt G [.ref rd, .int i, .int n] [(rd, .inr (3, [.ref tr, .ref t, .int at0])), (tr, .inr (1, [.ref ta, .int tsz])), (ta, .inl (G.2.1 0, 1000, .inl tf))] (fun (v : Int32) (u : Unit) => True) (fun (u : Unit) => [(rd, .inr (3, [.ref tr, .ref t, .int at0])), (tr, .inr (1, [.ref ta, .int tsz])), (ta, .inl (G.2.1 0, 1000, .inl tf))]) 0 0 := by
  refine MI.of (cc := b_Reader_numberAt) (maxL := 6) (ty := .int) (C := R_Reader) (by decide +kernel) rfl (Nat.le_of_ble_eq_true rfl) ?_
  intro p e s m args below meth c A Q H ls hx hb hml hown hw hE hA hP hD hS ret hl
  have hl : lv_has ls 6 [(0, .ref rd), (1, .int i), (2, .int n)] := hl
  have J_25 : ∀ (fu : Nat) (x5_25 : Int32) (x4_25 : Int32) (x3_25 : Int32), (n.toInt - x5_25.toInt).toNat < fu → ∀ (H : Heap) (locs : List Loc), va_P G.1 vwCl [(rd, .inr (3, [.ref tr, .ref t, .int at0])), (tr, .inr (1, [.ref ta, .int tsz])), (ta, .inl (G.2.1 0, 1000, .inl tf))] H → va_D A [(rd, .inr (3, [.ref tr, .ref t, .int at0])), (tr, .inr (1, [.ref ta, .int tsz])), (ta, .inl (G.2.1 0, 1000, .inl tf))] → va_S A s.heap H locs → ∀ ls : Array Slot, lv_has ls 6 [(5, .int x5_25), (4, .int x4_25), (3, .int x3_25), (0, .ref rd), (1, .int i), (2, .int n)] → W p l e rm_Reader_numberAt s m args below meth c H locs 0 0 Q (F0 m 25 ls []) := by
    intro fu
    induction fu with
    | zero =>
      intro x5_25 x4_25 x3_25 hm
      exact absurd hm (Nat.not_lt_zero _)
    | succ fu ih_25 =>
      intro x5_25 x4_25 x3_25 hm_25 H locs hP hD hS ls hl
      refine lv_iload hx hb d_Reader_numberAt_25 (lv_at hl 0 rfl) ?_
      refine lv_iload_n hx hb d_Reader_numberAt_27 rfl (lv_at hl 5 rfl) ?_
      refine lv_icmp_ge (tgt := 59) hx hb d_Reader_numberAt_28 (by decide) (fun c_1 => ?_) (fun c_1 => ?_)
      · refine lv_iload_n hx hb d_Reader_numberAt_59 rfl (lv_at hl 2 rfl) ?_
        refine lv_iconst (v := 1) hx hb d_Reader_numberAt_60 (by decide) ?_
        refine lv_icmp_ne (tgt := 70) hx hb d_Reader_numberAt_61 (by decide) (fun c_2 => ?_) (fun c_2 => ?_)
        · refine lv_iload hx hb d_Reader_numberAt_70 (lv_at hl 1 rfl) ?_
          exact ret x4_25 () (Nat.le_of_ble_eq_true rfl) (Nat.le_of_ble_eq_true rfl) d_Reader_numberAt_72 rfl trivial (hP.sub [0, 1, 2] rfl) (hD.sub [0, 1, 2] (by decide) rfl) hS
        · refine lv_iload hx hb d_Reader_numberAt_64 (lv_at hl 1 rfl) ?_
          refine lv_ineg hx hb d_Reader_numberAt_66 ?_
          refine lv_topi (fun y_3 ey_3 => ?_)
          refine lv_goto (tgt := 72) hx hb d_Reader_numberAt_67 (by decide) ?_
          exact ret y_3 () (Nat.le_of_ble_eq_true rfl) (Nat.le_of_ble_eq_true rfl) d_Reader_numberAt_72 rfl trivial (hP.sub [0, 1, 2] rfl) (hD.sub [0, 1, 2] (by decide) rfl) hS
      · refine lv_iload hx hb d_Reader_numberAt_31 (lv_at hl 1 rfl) ?_
        refine lv_bipush (v := 10) hx hb d_Reader_numberAt_33 (by decide) ?_
        refine lv_imul hx hb d_Reader_numberAt_35 ?_
        refine lv_topi (fun y_4 ey_4 => ?_)
        refine lv_aload_n hx hb d_Reader_numberAt_36 rfl (lv_at hl 3 rfl) ?_
        refine va_get (D := G.1) (ci := 3) (v := .ref tr) (C := R_Reader) (T := F_Reader) (N := 3) hx hb hw i_Reader hown hE.1 hP 0 rfl rfl 0 (by decide) (hw _ m_115) (fun _ h9 => h9) rfl d_Reader_numberAt_37 ?_
        refine lv_iload_n hx hb d_Reader_numberAt_40 rfl (lv_at hl 4 rfl) ?_
        refine lv_iload hx hb d_Reader_numberAt_41 (lv_at hl 0 rfl) ?_
        refine lv_iadd hx hb d_Reader_numberAt_43 ?_
        refine lv_topi (fun y_5 ey_5 => ?_)
        refine gc_i (wr := [(rd, .inr (3, [.ref tr, .ref t, .int at0]))]) (gc_V (wc := [(tr, .inr (1, [.ref ta, .int tsz])), (ta, .inl (G.2.1 0, 1000, .inl tf))]) (As := [.int y_5]) (rest := [.int y_4]) ⟨hx, hb, hml, hown, hw⟩ (c_Row_get l G tr ta 1000 tsz tf y_5 (by decide) htp H.size) (cwV 1 hw (good_V m_143 m_144 m_145 m_2 m_146) rfl rfl rfl hy_Row_get ⟨Nat.le_of_ble_eq_true rfl, Nat.le_of_ble_eq_true rfl⟩) hE hP hD hS hA (va_recv hE.1 hP (ci := 1) (q0 := 1) rfl rfl) [1, 2] rfl (by decide) rfl hl rfl (Nat.le_of_ble_eq_true rfl) d_Reader_numberAt_44 ⟨Nat.le_of_ble_eq_true rfl, Nat.le_of_ble_eq_true rfl⟩) hP hD hS hA [1, 2] [0] rfl rfl (by decide) (by decide) (fun r_6 u_7 H locs hw_8 hP hD hS => ?_)
        have hP : va_P G.1 vwCl [(rd, .inr (3, [.ref tr, .ref t, .int at0])), (tr, .inr (1, [.ref ta, .int tsz])), (ta, .inl (G.2.1 0, 1000, .inl tf))] H := hP
        have hD : va_D A [(rd, .inr (3, [.ref tr, .ref t, .int at0])), (tr, .inr (1, [.ref ta, .int tsz])), (ta, .inl (G.2.1 0, 1000, .inl tf))] := hD
        refine lv_iadd hx hb d_Reader_numberAt_47 ?_
        refine lv_topi (fun y_9 ey_9 => ?_)
        refine lv_bipush (v := 48) hx hb d_Reader_numberAt_48 (by decide) ?_
        refine lv_isub hx hb d_Reader_numberAt_50 ?_
        refine lv_topi (fun y_10 ey_10 => ?_)
        refine lv_istore (lv' := [(4, .int y_10), (5, .int x5_25), (3, .int x3_25), (0, .ref rd), (1, .int i), (2, .int n)]) hx hb d_Reader_numberAt_51 hl (by decide) rfl (fun ls hl => ?_)
        obtain ⟨y_11, ey_11⟩ : ∃ y : Int32, y = x5_25 + 1 := ⟨_, rfl⟩
        refine lv_iinc (v := y_11) (lv' := [(5, .int y_11), (4, .int y_10), (3, .int x3_25), (0, .ref rd), (1, .int i), (2, .int n)]) hx hb d_Reader_numberAt_53 hl (k := 1) rfl (by rw [ey_11]; rfl) (by decide) rfl (fun ls hl => ?_)
        refine lv_goto (tgt := 25) hx hb d_Reader_numberAt_56 (by decide) ?_
        exact ih_25 y_11 y_10 x3_25 (ms_up (by assumption) (by assumption) hm_25) _ _ (hP.sub [0, 1, 2] rfl) (hD.sub [0, 1, 2] (by decide) rfl) hS _ (lv_sub hl [0, 1, 2, 3, 4, 5] rfl)
  have J_18 : ∀ (k0_18 : Int32) (H : Heap) (locs : List Loc), va_P G.1 vwCl [(rd, .inr (3, [.ref tr, .ref t, .int at0])), (tr, .inr (1, [.ref ta, .int tsz])), (ta, .inl (G.2.1 0, 1000, .inl tf))] H → va_D A [(rd, .inr (3, [.ref tr, .ref t, .int at0])), (tr, .inr (1, [.ref ta, .int tsz])), (ta, .inl (G.2.1 0, 1000, .inl tf))] → va_S A s.heap H locs → ∀ ls : Array Slot, lv_has ls 6 [(0, .ref rd), (1, .int i), (2, .int n)] → W p l e rm_Reader_numberAt s m args below meth c H locs 0 0 Q (F0 m 18 ls [.int k0_18]) := by
    intro k0_18 H locs hP hD hS ls hl
    refine lv_istore_n (lv' := [(3, .int k0_18), (0, .ref rd), (1, .int i), (2, .int n)]) hx hb d_Reader_numberAt_18 rfl hl (by decide) rfl (fun ls hl => ?_)
    refine lv_iconst (v := 0) hx hb d_Reader_numberAt_19 (by decide) ?_
    refine lv_istore (lv' := [(4, .int 0), (3, .int k0_18), (0, .ref rd), (1, .int i), (2, .int n)]) hx hb d_Reader_numberAt_20 hl (by decide) rfl (fun ls hl => ?_)
    refine lv_iload_n hx hb d_Reader_numberAt_22 rfl (lv_at hl 1 rfl) ?_
    refine lv_istore (lv' := [(5, .int k0_18), (4, .int 0), (3, .int k0_18), (0, .ref rd), (1, .int i), (2, .int n)]) hx hb d_Reader_numberAt_23 hl (by decide) rfl (fun ls hl => ?_)
    exact J_25 _ k0_18 0 k0_18 (Nat.lt_succ_self _) _ _ (hP.sub [0, 1, 2] rfl) (hD.sub [0, 1, 2] (by decide) rfl) hS _ (lv_sub hl [0, 1, 2, 3, 4, 5] rfl)
  refine lv_aload_n hx hb d_Reader_numberAt_0 rfl (lv_at hl 0 rfl) ?_
  refine va_get (D := G.1) (ci := 3) (v := .ref tr) (C := R_Reader) (T := F_Reader) (N := 3) hx hb hw i_Reader hown hE.1 hP 0 rfl rfl 0 (by decide) (hw _ m_115) (fun _ h9 => h9) rfl d_Reader_numberAt_1 ?_
  refine lv_iload_n hx hb d_Reader_numberAt_4 rfl (lv_at hl 1 rfl) ?_
  refine gc_i (wr := [(rd, .inr (3, [.ref tr, .ref t, .int at0]))]) (gc_V (wc := [(tr, .inr (1, [.ref ta, .int tsz])), (ta, .inl (G.2.1 0, 1000, .inl tf))]) (As := [.int i]) (rest := []) ⟨hx, hb, hml, hown, hw⟩ (c_Row_get l G tr ta 1000 tsz tf i (by decide) htp H.size) (cwV 1 hw (good_V m_143 m_144 m_145 m_2 m_146) rfl rfl rfl hy_Row_get ⟨Nat.le_of_ble_eq_true rfl, Nat.le_of_ble_eq_true rfl⟩) hE hP hD hS hA (va_recv hE.1 hP (ci := 1) (q0 := 1) rfl rfl) [1, 2] rfl (by decide) rfl hl rfl (Nat.le_of_ble_eq_true rfl) d_Reader_numberAt_5 ⟨Nat.le_of_ble_eq_true rfl, Nat.le_of_ble_eq_true rfl⟩) hP hD hS hA [1, 2] [0] rfl rfl (by decide) (by decide) (fun r_12 u_13 H locs hw_14 hP hD hS => ?_)
  have hP : va_P G.1 vwCl [(rd, .inr (3, [.ref tr, .ref t, .int at0])), (tr, .inr (1, [.ref ta, .int tsz])), (ta, .inl (G.2.1 0, 1000, .inl tf))] H := hP
  have hD : va_D A [(rd, .inr (3, [.ref tr, .ref t, .int at0])), (tr, .inr (1, [.ref ta, .int tsz])), (ta, .inl (G.2.1 0, 1000, .inl tf))] := hD
  refine lv_bipush (v := 45) hx hb d_Reader_numberAt_8 (by decide) ?_
  refine lv_icmp_ne (tgt := 17) hx hb d_Reader_numberAt_10 (by decide) (fun c_15 => ?_) (fun c_15 => ?_)
  · refine lv_iconst (v := 0) hx hb d_Reader_numberAt_17 (by decide) ?_
    exact J_18 0 _ _ (hP.sub [0, 1, 2] rfl) (hD.sub [0, 1, 2] (by decide) rfl) hS _ (lv_sub hl [0, 1, 2] rfl)
  · refine lv_iconst (v := 1) hx hb d_Reader_numberAt_13 (by decide) ?_
    refine lv_goto (tgt := 18) hx hb d_Reader_numberAt_14 (by decide) ?_
    exact J_18 1 _ _ (hP.sub [0, 1, 2] rfl) (hD.sub [0, 1, 2] (by decide) rfl) hS _ (lv_sub hl [0, 1, 2] rfl)
def rm_Reader_isBelow : Room := { frames := 2, cells := 0, slots := 0, locals := 47 }
set_option maxHeartbeats 4000000 in
set_option maxRecDepth 100000 in
theorem c_Reader_isBelow (l : Launch) (G : GG) (rd : Nat) (t : Nat) (at0 : Int32) (tr : Nat) (ta : Nat) (tsz : Int32) (tf : Nat → Int32) (lim : Int32) (i : Int32) (n : Int32) (htp : RowOk 1000 tsz) : MI l y_Reader_isBelow b_Reader_isBelow 4 .boolean rm_Reader_isBelow G [.ref rd, .int lim, .int i, .int n] [(rd, .inr (3, [.ref tr, .ref t, .int at0])), (tr, .inr (1, [.ref ta, .int tsz])), (ta, .inl (G.2.1 0, 1000, .inl tf))] (fun (v : Int32) (u : Unit) => (v = 0 ∨ v = 1)) (fun (u : Unit) => [(rd, .inr (3, [.ref tr, .ref t, .int at0])), (tr, .inr (1, [.ref ta, .int tsz])), (ta, .inl (G.2.1 0, 1000, .inl tf))]) 0 0 := by
  refine MI.of (cc := b_Reader_isBelow) (maxL := 4) (ty := .boolean) (C := R_Reader) (by decide +kernel) rfl (Nat.le_of_ble_eq_true rfl) ?_
  intro p e s m args below meth c A Q H ls hx hb hml hown hw hE hA hP hD hS ret hl
  have hl : lv_has ls 4 [(0, .ref rd), (1, .int lim), (2, .int i), (3, .int n)] := hl
  refine lv_aload_n hx hb d_Reader_isBelow_0 rfl (lv_at hl 0 rfl) ?_
  refine lv_iload_n hx hb d_Reader_isBelow_1 rfl (lv_at hl 2 rfl) ?_
  refine lv_iload_n hx hb d_Reader_isBelow_2 rfl (lv_at hl 3 rfl) ?_
  refine gc_i (wr := []) (gc_V (wc := [(rd, .inr (3, [.ref tr, .ref t, .int at0])), (tr, .inr (1, [.ref ta, .int tsz])), (ta, .inl (G.2.1 0, 1000, .inl tf))]) (As := [.int i, .int n]) (rest := []) ⟨hx, hb, hml, hown, hw⟩ (c_Reader_isInt l G rd t at0 tr ta tsz tf i n htp H.size) (cwV 2 hw (good_V m_239 m_241 ms_13 m_5 m_242) rfl rfl rfl hy_Reader_isInt ⟨Nat.le_of_ble_eq_true rfl, Nat.le_of_ble_eq_true rfl⟩) hE hP hD hS hA (va_recv hE.1 hP (ci := 3) (q0 := 0) rfl rfl) [0, 1, 2] rfl (by decide) rfl hl rfl (Nat.le_of_ble_eq_true rfl) d_Reader_isBelow_3 ⟨Nat.le_of_ble_eq_true rfl, Nat.le_of_ble_eq_true rfl⟩) hP hD hS hA [0, 1, 2] [] rfl rfl (by decide) (by decide) (fun r_1 u_2 H locs hw_3 hP hD hS => ?_)
  try dsimp only at hw_3
  have h_4 := hw_3
  have hP : va_P G.1 vwCl [(rd, .inr (3, [.ref tr, .ref t, .int at0])), (tr, .inr (1, [.ref ta, .int tsz])), (ta, .inl (G.2.1 0, 1000, .inl tf))] H := hP
  have hD : va_D A [(rd, .inr (3, [.ref tr, .ref t, .int at0])), (tr, .inr (1, [.ref ta, .int tsz])), (ta, .inl (G.2.1 0, 1000, .inl tf))] := hD
  refine lv_if_eq (tgt := 36) hx hb d_Reader_isBelow_6 (by decide) (fun c_5 => ?_) (fun c_5 => ?_)
  · refine lv_iconst (v := 0) hx hb d_Reader_isBelow_36 (by decide) ?_
    exact ret 0 () (Nat.le_of_ble_eq_true rfl) (Nat.le_of_ble_eq_true rfl) d_Reader_isBelow_37 rfl (by first | assumption | decide) (hP.sub [0, 1, 2] rfl) (hD.sub [0, 1, 2] (by decide) rfl) hS
  · refine lv_aload_n hx hb d_Reader_isBelow_9 rfl (lv_at hl 0 rfl) ?_
    refine va_get (D := G.1) (ci := 3) (v := .ref tr) (C := R_Reader) (T := F_Reader) (N := 3) hx hb hw i_Reader hown hE.1 hP 0 rfl rfl 0 (by decide) (hw _ m_115) (fun _ h9 => h9) rfl d_Reader_isBelow_10 ?_
    refine lv_iload_n hx hb d_Reader_isBelow_13 rfl (lv_at hl 2 rfl) ?_
    refine gc_i (wr := [(rd, .inr (3, [.ref tr, .ref t, .int at0]))]) (gc_V (wc := [(tr, .inr (1, [.ref ta, .int tsz])), (ta, .inl (G.2.1 0, 1000, .inl tf))]) (As := [.int i]) (rest := []) ⟨hx, hb, hml, hown, hw⟩ (c_Row_get l G tr ta 1000 tsz tf i (by decide) htp H.size) (cwV 1 hw (good_V m_143 m_144 m_145 m_2 m_146) rfl rfl rfl hy_Row_get ⟨Nat.le_of_ble_eq_true rfl, Nat.le_of_ble_eq_true rfl⟩) hE hP hD hS hA (va_recv hE.1 hP (ci := 1) (q0 := 1) rfl rfl) [1, 2] rfl (by decide) rfl hl rfl (Nat.le_of_ble_eq_true rfl) d_Reader_isBelow_14 ⟨Nat.le_of_ble_eq_true rfl, Nat.le_of_ble_eq_true rfl⟩) hP hD hS hA [1, 2] [0] rfl rfl (by decide) (by decide) (fun r_6 u_7 H locs hw_8 hP hD hS => ?_)
    have hP : va_P G.1 vwCl [(rd, .inr (3, [.ref tr, .ref t, .int at0])), (tr, .inr (1, [.ref ta, .int tsz])), (ta, .inl (G.2.1 0, 1000, .inl tf))] H := hP
    have hD : va_D A [(rd, .inr (3, [.ref tr, .ref t, .int at0])), (tr, .inr (1, [.ref ta, .int tsz])), (ta, .inl (G.2.1 0, 1000, .inl tf))] := hD
    refine lv_bipush (v := 45) hx hb d_Reader_isBelow_17 (by decide) ?_
    refine lv_icmp_eq (tgt := 36) hx hb d_Reader_isBelow_19 (by decide) (fun c_9 => ?_) (fun c_9 => ?_)
    · refine lv_iconst (v := 0) hx hb d_Reader_isBelow_36 (by decide) ?_
      exact ret 0 () (Nat.le_of_ble_eq_true rfl) (Nat.le_of_ble_eq_true rfl) d_Reader_isBelow_37 rfl (by first | assumption | decide) (hP.sub [0, 1, 2] rfl) (hD.sub [0, 1, 2] (by decide) rfl) hS
    · refine lv_aload_n hx hb d_Reader_isBelow_22 rfl (lv_at hl 0 rfl) ?_
      refine lv_iload_n hx hb d_Reader_isBelow_23 rfl (lv_at hl 2 rfl) ?_
      refine lv_iload_n hx hb d_Reader_isBelow_24 rfl (lv_at hl 3 rfl) ?_
      refine gc_i (wr := []) (gc_V (wc := [(rd, .inr (3, [.ref tr, .ref t, .int at0])), (tr, .inr (1, [.ref ta, .int tsz])), (ta, .inl (G.2.1 0, 1000, .inl tf))]) (As := [.int i, .int n]) (rest := []) ⟨hx, hb, hml, hown, hw⟩ (c_Reader_numberAt l G rd t at0 tr ta tsz tf i n htp H.size) (cwV 2 hw (good_V m_247 m_249 ms_15 m_5 m_250) rfl rfl rfl hy_Reader_numberAt ⟨Nat.le_of_ble_eq_true rfl, Nat.le_of_ble_eq_true rfl⟩) hE hP hD hS hA (va_recv hE.1 hP (ci := 3) (q0 := 0) rfl rfl) [0, 1, 2] rfl (by decide) rfl hl rfl (Nat.le_of_ble_eq_true rfl) d_Reader_isBelow_25 ⟨Nat.le_of_ble_eq_true rfl, Nat.le_of_ble_eq_true rfl⟩) hP hD hS hA [0, 1, 2] [] rfl rfl (by decide) (by decide) (fun r_10 u_11 H locs hw_12 hP hD hS => ?_)
      have hP : va_P G.1 vwCl [(rd, .inr (3, [.ref tr, .ref t, .int at0])), (tr, .inr (1, [.ref ta, .int tsz])), (ta, .inl (G.2.1 0, 1000, .inl tf))] H := hP
      have hD : va_D A [(rd, .inr (3, [.ref tr, .ref t, .int at0])), (tr, .inr (1, [.ref ta, .int tsz])), (ta, .inl (G.2.1 0, 1000, .inl tf))] := hD
      refine lv_iload_n hx hb d_Reader_isBelow_28 rfl (lv_at hl 1 rfl) ?_
      refine lv_icmp_ge (tgt := 36) hx hb d_Reader_isBelow_29 (by decide) (fun c_13 => ?_) (fun c_13 => ?_)
      · refine lv_iconst (v := 0) hx hb d_Reader_isBelow_36 (by decide) ?_
        exact ret 0 () (Nat.le_of_ble_eq_true rfl) (Nat.le_of_ble_eq_true rfl) d_Reader_isBelow_37 rfl (by first | assumption | decide) (hP.sub [0, 1, 2] rfl) (hD.sub [0, 1, 2] (by decide) rfl) hS
      · refine lv_iconst (v := 1) hx hb d_Reader_isBelow_32 (by decide) ?_
        refine lv_goto (tgt := 37) hx hb d_Reader_isBelow_33 (by decide) ?_
        exact ret 1 () (Nat.le_of_ble_eq_true rfl) (Nat.le_of_ble_eq_true rfl) d_Reader_isBelow_37 rfl (by first | assumption | decide) (hP.sub [0, 1, 2] rfl) (hD.sub [0, 1, 2] (by decide) rfl) hS
def rm_Reader_escaped : Room := { frames := 2, cells := 0, slots := 0, locals := 43 }
set_option maxHeartbeats 4000000 in
set_option maxRecDepth 100000 in
theorem c_Reader_escaped (l : Launch) (G : GG) (rd : Nat) (t : Nat) (at0 : Int32) (tr : Nat) (ta : Nat) (tsz : Int32) (tf : Nat → Int32) (htp : RowOk 1000 tsz) : MI l y_Reader_escaped b_Reader_escaped 5 .int rm_Reader_escaped G [.ref rd] [(rd, .inr (3, [.ref tr, .ref t, .int at0])), (tr, .inr (1, [.ref ta, .int tsz])), (ta, .inl (G.2.1 0, 1000, .inl tf))] (fun (v : Int32) (u : Int32) => True) (fun (u : Int32) => [(rd, .inr (3, [.ref tr, .ref t, .int u])), (tr, .inr (1, [.ref ta, .int tsz])), (ta, .inl (G.2.1 0, 1000, .inl tf))]) 0 0 := by
  refine MI.of (cc := b_Reader_escaped) (maxL := 5) (ty := .int) (C := R_Reader) (by decide +kernel) rfl (Nat.le_of_ble_eq_true rfl) ?_
  intro p e s m args below meth c A Q H ls hx hb hml hown hw hE hA hP hD hS ret hl
  have hl : lv_has ls 5 [(0, .ref rd)] := hl
  have J_30 : ∀ (x1_30 : Int32) (at2_30 : Int32) (H : Heap) (locs : List Loc), va_P G.1 vwCl [(rd, .inr (3, [.ref tr, .ref t, .int at2_30])), (tr, .inr (1, [.ref ta, .int tsz])), (ta, .inl (G.2.1 0, 1000, .inl tf))] H → va_D A [(rd, .inr (3, [.ref tr, .ref t, .int at2_30])), (tr, .inr (1, [.ref ta, .int tsz])), (ta, .inl (G.2.1 0, 1000, .inl tf))] → va_S A s.heap H locs → ∀ ls : Array Slot, lv_has ls 5 [(1, .int x1_30), (0, .ref rd)] → W p l e rm_Reader_escaped s m args below meth c H locs 0 0 Q (F0 m 30 ls []) := by
    intro x1_30 at2_30 H locs hP hD hS ls hl
    refine lv_aload_n hx hb d_Reader_escaped_30 rfl (lv_at hl 1 rfl) ?_
    refine lv_dup hx hb d_Reader_escaped_31 rfl ?_
    refine va_get (D := G.1) (ci := 3) (v := .int at2_30) (C := R_Reader) (T := F_Reader) (N := 3) hx hb hw i_Reader hown hE.1 hP 0 rfl rfl 2 (by decide) (hw _ m_117) (fun _ h9 => h9) rfl d_Reader_escaped_32 ?_
    refine lv_iconst (v := 1) hx hb d_Reader_escaped_35 (by decide) ?_
    refine lv_iadd hx hb d_Reader_escaped_36 ?_
    refine lv_topi (fun y_1 ey_1 => ?_)
    refine va_put (D := G.1) (ci := 3) (v := .int y_1) (ty := .int) (C := R_Reader) (T := F_Reader) (N := 3) hx hb hw i_Reader t_Reader t_Reader_ok n_Reader hown hE.1 hP hD hS 0 rfl rfl 2 (by decide) (hw _ m_117) (fun _ h9 => h9) rfl (by decide +kernel) rfl rfl (Nat.le_of_ble_eq_true rfl) d_Reader_escaped_37 (fun H locs hP hD hS => ?_)
    have hP : va_P G.1 vwCl [(rd, .inr (3, [.ref tr, .ref t, .int y_1])), (tr, .inr (1, [.ref ta, .int tsz])), (ta, .inl (G.2.1 0, 1000, .inl tf))] H := hP
    have hD : va_D A [(rd, .inr (3, [.ref tr, .ref t, .int y_1])), (tr, .inr (1, [.ref ta, .int tsz])), (ta, .inl (G.2.1 0, 1000, .inl tf))] := hD
    refine lv_iload_n hx hb d_Reader_escaped_40 rfl (lv_at hl 0 rfl) ?_
    exact ret x1_30 (y_1) (Nat.le_of_ble_eq_true rfl) (Nat.le_of_ble_eq_true rfl) d_Reader_escaped_41 rfl trivial (hP.sub [0, 1, 2] rfl) (hD.sub [0, 1, 2] (by decide) rfl) hS
  refine lv_aload_n hx hb d_Reader_escaped_0 rfl (lv_at hl 0 rfl) ?_
  refine va_get (D := G.1) (ci := 3) (v := .ref tr) (C := R_Reader) (T := F_Reader) (N := 3) hx hb hw i_Reader hown hE.1 hP 0 rfl rfl 0 (by decide) (hw _ m_115) (fun _ h9 => h9) rfl d_Reader_escaped_1 ?_
  refine lv_aload_n hx hb d_Reader_escaped_4 rfl (lv_at hl 0 rfl) ?_
  refine va_get (D := G.1) (ci := 3) (v := .int at0) (C := R_Reader) (T := F_Reader) (N := 3) hx hb hw i_Reader hown hE.1 hP 0 rfl rfl 2 (by decide) (hw _ m_117) (fun _ h9 => h9) rfl d_Reader_escaped_5 ?_
  refine gc_i (wr := [(rd, .inr (3, [.ref tr, .ref t, .int at0]))]) (gc_V (wc := [(tr, .inr (1, [.ref ta, .int tsz])), (ta, .inl (G.2.1 0, 1000, .inl tf))]) (As := [.int at0]) (rest := []) ⟨hx, hb, hml, hown, hw⟩ (c_Row_get l G tr ta 1000 tsz tf at0 (by decide) htp H.size) (cwV 1 hw (good_V m_143 m_144 m_145 m_2 m_146) rfl rfl rfl hy_Row_get ⟨Nat.le_of_ble_eq_true rfl, Nat.le_of_ble_eq_true rfl⟩) hE hP hD hS hA (va_recv hE.1 hP (ci := 1) (q0 := 1) rfl rfl) [1, 2] rfl (by decide) rfl hl rfl (Nat.le_of_ble_eq_true rfl) d_Reader_escaped_8 ⟨Nat.le_of_ble_eq_true rfl, Nat.le_of_ble_eq_true rfl⟩) hP hD hS hA [1, 2] [0] rfl rfl (by decide) (by decide) (fun r_2 u_3 H locs hw_4 hP hD hS => ?_)
  have hP : va_P G.1 vwCl [(rd, .inr (3, [.ref tr, .ref t, .int at0])), (tr, .inr (1, [.ref ta, .int tsz])), (ta, .inl (G.2.1 0, 1000, .inl tf))] H := hP
  have hD : va_D A [(rd, .inr (3, [.ref tr, .ref t, .int at0])), (tr, .inr (1, [.ref ta, .int tsz])), (ta, .inl (G.2.1 0, 1000, .inl tf))] := hD
  refine lv_istore_n (lv' := [(1, .int r_2), (0, .ref rd)]) hx hb d_Reader_escaped_11 rfl hl (by decide) rfl (fun ls hl => ?_)
  refine lv_iload_n hx hb d_Reader_escaped_12 rfl (lv_at hl 0 rfl) ?_
  refine lv_bipush (v := 40) hx hb d_Reader_escaped_13 (by decide) ?_
  refine lv_icmp_eq (tgt := 30) hx hb d_Reader_escaped_15 (by decide) (fun c_5 => ?_) (fun c_5 => ?_)
  · exact J_30 r_2 at0 _ _ (hP.sub [0, 1, 2] rfl) (hD.sub [0, 1, 2] (by decide) rfl) hS _ (lv_sub hl [0, 1] rfl)
  · refine lv_iload_n hx hb d_Reader_escaped_18 rfl (lv_at hl 0 rfl) ?_
    refine lv_bipush (v := 41) hx hb d_Reader_escaped_19 (by decide) ?_
    refine lv_icmp_eq (tgt := 30) hx hb d_Reader_escaped_21 (by decide) (fun c_6 => ?_) (fun c_6 => ?_)
    · exact J_30 r_2 at0 _ _ (hP.sub [0, 1, 2] rfl) (hD.sub [0, 1, 2] (by decide) rfl) hS _ (lv_sub hl [0, 1] rfl)
    · refine lv_iload_n hx hb d_Reader_escaped_24 rfl (lv_at hl 0 rfl) ?_
      refine lv_bipush (v := 92) hx hb d_Reader_escaped_25 (by decide) ?_
      refine lv_icmp_ne (tgt := 42) hx hb d_Reader_escaped_27 (by decide) (fun c_7 => ?_) (fun c_7 => ?_)
      · refine lv_aload_n hx hb d_Reader_escaped_42 rfl (lv_at hl 1 rfl) ?_
        refine lv_aload_n hx hb d_Reader_escaped_43 rfl (lv_at hl 1 rfl) ?_
        refine va_get (D := G.1) (ci := 3) (v := .int at0) (C := R_Reader) (T := F_Reader) (N := 3) hx hb hw i_Reader hown hE.1 hP 0 rfl rfl 2 (by decide) (hw _ m_117) (fun _ h9 => h9) rfl d_Reader_escaped_44 ?_
        refine gc_i (wr := []) (gc_V (wc := [(rd, .inr (3, [.ref tr, .ref t, .int at0])), (tr, .inr (1, [.ref ta, .int tsz])), (ta, .inl (G.2.1 0, 1000, .inl tf))]) (As := [.int at0]) (rest := []) ⟨hx, hb, hml, hown, hw⟩ (c_Reader_octalDigit l G rd t at0 tr ta tsz tf at0 htp H.size) (cwV 1 hw (good_V m_182 m_184 ms_6 m_5 m_185) rfl rfl rfl hy_Reader_octalDigit ⟨Nat.le_of_ble_eq_true rfl, Nat.le_of_ble_eq_true rfl⟩) hE hP hD hS hA (va_recv hE.1 hP (ci := 3) (q0 := 0) rfl rfl) [0, 1, 2] rfl (by decide) rfl hl rfl (Nat.le_of_ble_eq_true rfl) d_Reader_escaped_47 ⟨Nat.le_of_ble_eq_true rfl, Nat.le_of_ble_eq_true rfl⟩) hP hD hS hA [0, 1, 2] [] rfl rfl (by decide) (by decide) (fun r_8 u_9 H locs hw_10 hP hD hS => ?_)
        have hP : va_P G.1 vwCl [(rd, .inr (3, [.ref tr, .ref t, .int at0])), (tr, .inr (1, [.ref ta, .int tsz])), (ta, .inl (G.2.1 0, 1000, .inl tf))] H := hP
        have hD : va_D A [(rd, .inr (3, [.ref tr, .ref t, .int at0])), (tr, .inr (1, [.ref ta, .int tsz])), (ta, .inl (G.2.1 0, 1000, .inl tf))] := hD
        refine lv_istore_n (lv' := [(2, .int r_8), (1, .int r_2), (0, .ref rd)]) hx hb d_Reader_escaped_50 rfl hl (by decide) rfl (fun ls hl => ?_)
        refine lv_aload_n hx hb d_Reader_escaped_51 rfl (lv_at hl 2 rfl) ?_
        refine lv_aload_n hx hb d_Reader_escaped_52 rfl (lv_at hl 2 rfl) ?_
        refine va_get (D := G.1) (ci := 3) (v := .int at0) (C := R_Reader) (T := F_Reader) (N := 3) hx hb hw i_Reader hown hE.1 hP 0 rfl rfl 2 (by decide) (hw _ m_117) (fun _ h9 => h9) rfl d_Reader_escaped_53 ?_
        refine lv_iconst (v := 1) hx hb d_Reader_escaped_56 (by decide) ?_
        refine lv_iadd hx hb d_Reader_escaped_57 ?_
        refine lv_topi (fun y_11 ey_11 => ?_)
        refine gc_i (wr := []) (gc_V (wc := [(rd, .inr (3, [.ref tr, .ref t, .int at0])), (tr, .inr (1, [.ref ta, .int tsz])), (ta, .inl (G.2.1 0, 1000, .inl tf))]) (As := [.int y_11]) (rest := []) ⟨hx, hb, hml, hown, hw⟩ (c_Reader_octalDigit l G rd t at0 tr ta tsz tf y_11 htp H.size) (cwV 1 hw (good_V m_182 m_184 ms_6 m_5 m_185) rfl rfl rfl hy_Reader_octalDigit ⟨Nat.le_of_ble_eq_true rfl, Nat.le_of_ble_eq_true rfl⟩) hE hP hD hS hA (va_recv hE.1 hP (ci := 3) (q0 := 0) rfl rfl) [0, 1, 2] rfl (by decide) rfl hl rfl (Nat.le_of_ble_eq_true rfl) d_Reader_escaped_58 ⟨Nat.le_of_ble_eq_true rfl, Nat.le_of_ble_eq_true rfl⟩) hP hD hS hA [0, 1, 2] [] rfl rfl (by decide) (by decide) (fun r_12 u_13 H locs hw_14 hP hD hS => ?_)
        have hP : va_P G.1 vwCl [(rd, .inr (3, [.ref tr, .ref t, .int at0])), (tr, .inr (1, [.ref ta, .int tsz])), (ta, .inl (G.2.1 0, 1000, .inl tf))] H := hP
        have hD : va_D A [(rd, .inr (3, [.ref tr, .ref t, .int at0])), (tr, .inr (1, [.ref ta, .int tsz])), (ta, .inl (G.2.1 0, 1000, .inl tf))] := hD
        refine lv_istore_n (lv' := [(3, .int r_12), (2, .int r_8), (1, .int r_2), (0, .ref rd)]) hx hb d_Reader_escaped_61 rfl hl (by decide) rfl (fun ls hl => ?_)
        refine lv_aload_n hx hb d_Reader_escaped_62 rfl (lv_at hl 3 rfl) ?_
        refine lv_aload_n hx hb d_Reader_escaped_63 rfl (lv_at hl 3 rfl) ?_
        refine va_get (D := G.1) (ci := 3) (v := .int at0) (C := R_Reader) (T := F_Reader) (N := 3) hx hb hw i_Reader hown hE.1 hP 0 rfl rfl 2 (by decide) (hw _ m_117) (fun _ h9 => h9) rfl d_Reader_escaped_64 ?_
        refine lv_iconst (v := 2) hx hb d_Reader_escaped_67 (by decide) ?_
        refine lv_iadd hx hb d_Reader_escaped_68 ?_
        refine lv_topi (fun y_15 ey_15 => ?_)
        refine gc_i (wr := []) (gc_V (wc := [(rd, .inr (3, [.ref tr, .ref t, .int at0])), (tr, .inr (1, [.ref ta, .int tsz])), (ta, .inl (G.2.1 0, 1000, .inl tf))]) (As := [.int y_15]) (rest := []) ⟨hx, hb, hml, hown, hw⟩ (c_Reader_octalDigit l G rd t at0 tr ta tsz tf y_15 htp H.size) (cwV 1 hw (good_V m_182 m_184 ms_6 m_5 m_185) rfl rfl rfl hy_Reader_octalDigit ⟨Nat.le_of_ble_eq_true rfl, Nat.le_of_ble_eq_true rfl⟩) hE hP hD hS hA (va_recv hE.1 hP (ci := 3) (q0 := 0) rfl rfl) [0, 1, 2] rfl (by decide) rfl hl rfl (Nat.le_of_ble_eq_true rfl) d_Reader_escaped_69 ⟨Nat.le_of_ble_eq_true rfl, Nat.le_of_ble_eq_true rfl⟩) hP hD hS hA [0, 1, 2] [] rfl rfl (by decide) (by decide) (fun r_16 u_17 H locs hw_18 hP hD hS => ?_)
        have hP : va_P G.1 vwCl [(rd, .inr (3, [.ref tr, .ref t, .int at0])), (tr, .inr (1, [.ref ta, .int tsz])), (ta, .inl (G.2.1 0, 1000, .inl tf))] H := hP
        have hD : va_D A [(rd, .inr (3, [.ref tr, .ref t, .int at0])), (tr, .inr (1, [.ref ta, .int tsz])), (ta, .inl (G.2.1 0, 1000, .inl tf))] := hD
        refine lv_istore (lv' := [(4, .int r_16), (3, .int r_12), (2, .int r_8), (1, .int r_2), (0, .ref rd)]) hx hb d_Reader_escaped_72 hl (by decide) rfl (fun ls hl => ?_)
        refine lv_iload_n hx hb d_Reader_escaped_74 rfl (lv_at hl 2 rfl) ?_
        refine lv_if_lt (tgt := 92) hx hb d_Reader_escaped_75 (by decide) (fun c_19 => ?_) (fun c_19 => ?_)
        · refine lv_iconst (v := (-1)) hx hb d_Reader_escaped_92 (by decide) ?_
          exact ret (-1) (at0) (Nat.le_of_ble_eq_true rfl) (Nat.le_of_ble_eq_true rfl) d_Reader_escaped_93 rfl trivial (hP.sub [0, 1, 2] rfl) (hD.sub [0, 1, 2] (by decide) rfl) hS
        · refine lv_iload_n hx hb d_Reader_escaped_78 rfl (lv_at hl 2 rfl) ?_
          refine lv_iconst (v := 3) hx hb d_Reader_escaped_79 (by decide) ?_
          refine lv_icmp_gt (tgt := 92) hx hb d_Reader_escaped_80 (by decide) (fun c_20 => ?_) (fun c_20 => ?_)
          · refine lv_iconst (v := (-1)) hx hb d_Reader_escaped_92 (by decide) ?_
            exact ret (-1) (at0) (Nat.le_of_ble_eq_true rfl) (Nat.le_of_ble_eq_true rfl) d_Reader_escaped_93 rfl trivial (hP.sub [0, 1, 2] rfl) (hD.sub [0, 1, 2] (by decide) rfl) hS
          · refine lv_iload_n hx hb d_Reader_escaped_83 rfl (lv_at hl 1 rfl) ?_
            refine lv_if_lt (tgt := 92) hx hb d_Reader_escaped_84 (by decide) (fun c_21 => ?_) (fun c_21 => ?_)
            · refine lv_iconst (v := (-1)) hx hb d_Reader_escaped_92 (by decide) ?_
              exact ret (-1) (at0) (Nat.le_of_ble_eq_true rfl) (Nat.le_of_ble_eq_true rfl) d_Reader_escaped_93 rfl trivial (hP.sub [0, 1, 2] rfl) (hD.sub [0, 1, 2] (by decide) rfl) hS
            · refine lv_iload hx hb d_Reader_escaped_87 (lv_at hl 0 rfl) ?_
              refine lv_if_ge (tgt := 94) hx hb d_Reader_escaped_89 (by decide) (fun c_22 => ?_) (fun c_22 => ?_)
              · refine lv_aload_n hx hb d_Reader_escaped_94 rfl (lv_at hl 4 rfl) ?_
                refine lv_dup hx hb d_Reader_escaped_95 rfl ?_
                refine va_get (D := G.1) (ci := 3) (v := .int at0) (C := R_Reader) (T := F_Reader) (N := 3) hx hb hw i_Reader hown hE.1 hP 0 rfl rfl 2 (by decide) (hw _ m_117) (fun _ h9 => h9) rfl d_Reader_escaped_96 ?_
                refine lv_iconst (v := 3) hx hb d_Reader_escaped_99 (by decide) ?_
                refine lv_iadd hx hb d_Reader_escaped_100 ?_
                refine lv_topi (fun y_23 ey_23 => ?_)
                refine va_put (D := G.1) (ci := 3) (v := .int y_23) (ty := .int) (C := R_Reader) (T := F_Reader) (N := 3) hx hb hw i_Reader t_Reader t_Reader_ok n_Reader hown hE.1 hP hD hS 0 rfl rfl 2 (by decide) (hw _ m_117) (fun _ h9 => h9) rfl (by decide +kernel) rfl rfl (Nat.le_of_ble_eq_true rfl) d_Reader_escaped_101 (fun H locs hP hD hS => ?_)
                have hP : va_P G.1 vwCl [(rd, .inr (3, [.ref tr, .ref t, .int y_23])), (tr, .inr (1, [.ref ta, .int tsz])), (ta, .inl (G.2.1 0, 1000, .inl tf))] H := hP
                have hD : va_D A [(rd, .inr (3, [.ref tr, .ref t, .int y_23])), (tr, .inr (1, [.ref ta, .int tsz])), (ta, .inl (G.2.1 0, 1000, .inl tf))] := hD
                refine lv_iload_n hx hb d_Reader_escaped_104 rfl (lv_at hl 2 rfl) ?_
                refine lv_bipush (v := 64) hx hb d_Reader_escaped_105 (by decide) ?_
                refine lv_imul hx hb d_Reader_escaped_107 ?_
                refine lv_topi (fun y_24 ey_24 => ?_)
                refine lv_iload_n hx hb d_Reader_escaped_108 rfl (lv_at hl 1 rfl) ?_
                refine lv_bipush (v := 8) hx hb d_Reader_escaped_109 (by decide) ?_
                refine lv_imul hx hb d_Reader_escaped_111 ?_
                refine lv_topi (fun y_25 ey_25 => ?_)
                refine lv_iadd hx hb d_Reader_escaped_112 ?_
                refine lv_topi (fun y_26 ey_26 => ?_)
                refine lv_iload hx hb d_Reader_escaped_113 (lv_at hl 0 rfl) ?_
                refine lv_iadd hx hb d_Reader_escaped_115 ?_
                refine lv_topi (fun y_27 ey_27 => ?_)
                exact ret y_27 (y_23) (Nat.le_of_ble_eq_true rfl) (Nat.le_of_ble_eq_true rfl) d_Reader_escaped_116 rfl trivial (hP.sub [0, 1, 2] rfl) (hD.sub [0, 1, 2] (by decide) rfl) hS
              · refine lv_iconst (v := (-1)) hx hb d_Reader_escaped_92 (by decide) ?_
                exact ret (-1) (at0) (Nat.le_of_ble_eq_true rfl) (Nat.le_of_ble_eq_true rfl) d_Reader_escaped_93 rfl trivial (hP.sub [0, 1, 2] rfl) (hD.sub [0, 1, 2] (by decide) rfl) hS
      · exact J_30 r_2 at0 _ _ (hP.sub [0, 1, 2] rfl) (hD.sub [0, 1, 2] (by decide) rfl) hS _ (lv_sub hl [0, 1] rfl)
def rm_Reader_name : Room := { frames := 2, cells := 0, slots := 0, locals := 45 }
set_option maxHeartbeats 4000000 in
set_option maxRecDepth 100000 in
theorem c_Reader_name (l : Launch) (G : GG) (rd : Nat) (at0 : Int32) (tr : Nat) (ta : Nat) (tsz : Int32) (tf : Nat → Int32) (t : Nat) (ka : Nat) (na : Nat) (ga : Nat) (sa : Nat) (xr : Nat) (xa : Nat) (kf : Nat → Int32) (nf : Nat → Int32) (gf : Nat → Int32) (sf : Nat → Int32) (size : Int32) (xsz : Int32) (xf : Nat → Int32) (htp : RowOk 1000 tsz) (hs : RowOk 1000 size) (hxs : RowOk 1000 xsz) : MI l y_Reader_name b_Reader_name 2 .boolean rm_Reader_name G [.ref rd] [(rd, .inr (3, [.ref tr, .ref t, .int at0])), (tr, .inr (1, [.ref ta, .int tsz])), (ta, .inl (G.2.1 0, 1000, .inl tf)), (t, .inr (2, [.ref ka, .ref na, .ref ga, .ref sa, .ref xr, .int size])), (ka, .inl (G.2.1 0, 1000, .inl kf)), (na, .inl (G.2.1 1, 1000, .inl nf)), (ga, .inl (G.2.1 1, 1000, .inl gf)), (sa, .inl (G.2.1 1, 1000, .inl sf)), (xr, .inr (1, [.ref xa, .int xsz])), (xa, .inl (G.2.1 0, 1000, .inl xf))] (fun (v : Int32) (u : Int32 × (Nat → Int32) × (Nat → Int32) × (Nat → Int32) × (Nat → Int32) × Int32 × Int32 × (Nat → Int32)) => (RowOk 1000 u.2.2.2.2.2.1) ∧ (RowOk 1000 u.2.2.2.2.2.2.1) ∧ (v = 0 ∨ v = 1)) (fun (u : Int32 × (Nat → Int32) × (Nat → Int32) × (Nat → Int32) × (Nat → Int32) × Int32 × Int32 × (Nat → Int32)) => [(rd, .inr (3, [.ref tr, .ref t, .int u.1])), (tr, .inr (1, [.ref ta, .int tsz])), (ta, .inl (G.2.1 0, 1000, .inl tf)), (t, .inr (2, [.ref ka, .ref na, .ref ga, .ref sa, .ref xr, .int u.2.2.2.2.2.1])), (ka, .inl (G.2.1 0, 1000, .inl u.2.1)), (na, .inl (G.2.1 1, 1000, .inl u.2.2.1)), (ga, .inl (G.2.1 1, 1000, .inl u.2.2.2.1)), (sa, .inl (G.2.1 1, 1000, .inl u.2.2.2.2.1)), (xr, .inr (1, [.ref xa, .int u.2.2.2.2.2.2.1])), (xa, .inl (G.2.1 0, 1000, .inl u.2.2.2.2.2.2.2))]) 0 0 := by
  refine MI.of (cc := b_Reader_name) (maxL := 2) (ty := .boolean) (C := R_Reader) (by decide +kernel) rfl (Nat.le_of_ble_eq_true rfl) ?_
  intro p e s m args below meth c A Q H ls hx hb hml hown hw hE hA hP hD hS ret hl
  have hl : lv_has ls 2 [(0, .ref rd)] := hl
  refine lv_aload_n hx hb d_Reader_name_0 rfl (lv_at hl 0 rfl) ?_
  refine lv_dup hx hb d_Reader_name_1 rfl ?_
  refine va_get (D := G.1) (ci := 3) (v := .int at0) (C := R_Reader) (T := F_Reader) (N := 3) hx hb hw i_Reader hown hE.1 hP 0 rfl rfl 2 (by decide) (hw _ m_117) (fun _ h9 => h9) rfl d_Reader_name_2 ?_
  refine lv_iconst (v := 1) hx hb d_Reader_name_5 (by decide) ?_
  refine lv_iadd hx hb d_Reader_name_6 ?_
  refine lv_topi (fun y_1 ey_1 => ?_)
  refine va_put (D := G.1) (ci := 3) (v := .int y_1) (ty := .int) (C := R_Reader) (T := F_Reader) (N := 3) hx hb hw i_Reader t_Reader t_Reader_ok n_Reader hown hE.1 hP hD hS 0 rfl rfl 2 (by decide) (hw _ m_117) (fun _ h9 => h9) rfl (by decide +kernel) rfl rfl (Nat.le_of_ble_eq_true rfl) d_Reader_name_7 (fun H locs hP hD hS => ?_)
  have hP : va_P G.1 vwCl [(rd, .inr (3, [.ref tr, .ref t, .int y_1])), (tr, .inr (1, [.ref ta, .int tsz])), (ta, .inl (G.2.1 0, 1000, .inl tf)), (t, .inr (2, [.ref ka, .ref na, .ref ga, .ref sa, .ref xr, .int size])), (ka, .inl (G.2.1 0, 1000, .inl kf)), (na, .inl (G.2.1 1, 1000, .inl nf)), (ga, .inl (G.2.1 1, 1000, .inl gf)), (sa, .inl (G.2.1 1, 1000, .inl sf)), (xr, .inr (1, [.ref xa, .int xsz])), (xa, .inl (G.2.1 0, 1000, .inl xf))] H := hP
  have hD : va_D A [(rd, .inr (3, [.ref tr, .ref t, .int y_1])), (tr, .inr (1, [.ref ta, .int tsz])), (ta, .inl (G.2.1 0, 1000, .inl tf)), (t, .inr (2, [.ref ka, .ref na, .ref ga, .ref sa, .ref xr, .int size])), (ka, .inl (G.2.1 0, 1000, .inl kf)), (na, .inl (G.2.1 1, 1000, .inl nf)), (ga, .inl (G.2.1 1, 1000, .inl gf)), (sa, .inl (G.2.1 1, 1000, .inl sf)), (xr, .inr (1, [.ref xa, .int xsz])), (xa, .inl (G.2.1 0, 1000, .inl xf))] := hD
  refine lv_aload_n hx hb d_Reader_name_10 rfl (lv_at hl 0 rfl) ?_
  refine lv_aload_n hx hb d_Reader_name_11 rfl (lv_at hl 0 rfl) ?_
  refine va_get (D := G.1) (ci := 3) (v := .int y_1) (C := R_Reader) (T := F_Reader) (N := 3) hx hb hw i_Reader hown hE.1 hP 0 rfl rfl 2 (by decide) (hw _ m_117) (fun _ h9 => h9) rfl d_Reader_name_12 ?_
  refine gc_i (wr := [(t, .inr (2, [.ref ka, .ref na, .ref ga, .ref sa, .ref xr, .int size])), (ka, .inl (G.2.1 0, 1000, .inl kf)), (na, .inl (G.2.1 1, 1000, .inl nf)), (ga, .inl (G.2.1 1, 1000, .inl gf)), (sa, .inl (G.2.1 1, 1000, .inl sf)), (xr, .inr (1, [.ref xa, .int xsz])), (xa, .inl (G.2.1 0, 1000, .inl xf))]) (gc_V (wc := [(rd, .inr (3, [.ref tr, .ref t, .int y_1])), (tr, .inr (1, [.ref ta, .int tsz])), (ta, .inl (G.2.1 0, 1000, .inl tf))]) (As := [.int y_1]) (rest := []) ⟨hx, hb, hml, hown, hw⟩ (c_Reader_wordLength l G rd t y_1 tr ta tsz tf y_1 htp H.size) (cwV 1 hw (good_V m_154 m_156 ms_3 m_5 m_157) rfl rfl rfl hy_Reader_wordLength ⟨Nat.le_of_ble_eq_true rfl, Nat.le_of_ble_eq_true rfl⟩) hE hP hD hS hA (va_recv hE.1 hP (ci := 3) (q0 := 0) rfl rfl) [0, 1, 2] rfl (by decide) rfl hl rfl (Nat.le_of_ble_eq_true rfl) d_Reader_name_15 ⟨Nat.le_of_ble_eq_true rfl, Nat.le_of_ble_eq_true rfl⟩) hP hD hS hA [0, 1, 2] [3, 4, 5, 6, 7, 8, 9] rfl rfl (by decide) (by decide) (fun r_2 u_3 H locs hw_4 hP hD hS => ?_)
  have hP : va_P G.1 vwCl [(t, .inr (2, [.ref ka, .ref na, .ref ga, .ref sa, .ref xr, .int size])), (ka, .inl (G.2.1 0, 1000, .inl kf)), (na, .inl (G.2.1 1, 1000, .inl nf)), (ga, .inl (G.2.1 1, 1000, .inl gf)), (sa, .inl (G.2.1 1, 1000, .inl sf)), (xr, .inr (1, [.ref xa, .int xsz])), (xa, .inl (G.2.1 0, 1000, .inl xf)), (rd, .inr (3, [.ref tr, .ref t, .int y_1])), (tr, .inr (1, [.ref ta, .int tsz])), (ta, .inl (G.2.1 0, 1000, .inl tf))] H := hP
  have hD : va_D A [(t, .inr (2, [.ref ka, .ref na, .ref ga, .ref sa, .ref xr, .int size])), (ka, .inl (G.2.1 0, 1000, .inl kf)), (na, .inl (G.2.1 1, 1000, .inl nf)), (ga, .inl (G.2.1 1, 1000, .inl gf)), (sa, .inl (G.2.1 1, 1000, .inl sf)), (xr, .inr (1, [.ref xa, .int xsz])), (xa, .inl (G.2.1 0, 1000, .inl xf)), (rd, .inr (3, [.ref tr, .ref t, .int y_1])), (tr, .inr (1, [.ref ta, .int tsz])), (ta, .inl (G.2.1 0, 1000, .inl tf))] := hD
  refine lv_istore_n (lv' := [(1, .int r_2), (0, .ref rd)]) hx hb d_Reader_name_18 rfl hl (by decide) rfl (fun ls hl => ?_)
  refine lv_iload_n hx hb d_Reader_name_19 rfl (lv_at hl 0 rfl) ?_
  refine lv_bipush (v := 20) hx hb d_Reader_name_20 (by decide) ?_
  refine lv_icmp_le (tgt := 27) hx hb d_Reader_name_22 (by decide) (fun c_5 => ?_) (fun c_5 => ?_)
  · refine lv_aload_n hx hb d_Reader_name_27 rfl (lv_at hl 1 rfl) ?_
    refine va_get (D := G.1) (ci := 3) (v := .ref t) (C := R_Reader) (T := F_Reader) (N := 3) hx hb hw i_Reader hown hE.1 hP 7 rfl rfl 1 (by decide) (hw _ m_116) (fun _ h9 => h9) rfl d_Reader_name_28 ?_
    refine lv_iconst (v := 4) hx hb d_Reader_name_31 (by decide) ?_
    refine lv_iload_n hx hb d_Reader_name_32 rfl (lv_at hl 0 rfl) ?_
    refine lv_aload_n hx hb d_Reader_name_33 rfl (lv_at hl 1 rfl) ?_
    refine va_get (D := G.1) (ci := 3) (v := .ref t) (C := R_Reader) (T := F_Reader) (N := 3) hx hb hw i_Reader hown hE.1 hP 7 rfl rfl 1 (by decide) (hw _ m_116) (fun _ h9 => h9) rfl d_Reader_name_34 ?_
    refine gc_r (wr := [(rd, .inr (3, [.ref tr, .ref t, .int y_1])), (tr, .inr (1, [.ref ta, .int tsz])), (ta, .inl (G.2.1 0, 1000, .inl tf))]) (gc_V (wc := [(t, .inr (2, [.ref ka, .ref na, .ref ga, .ref sa, .ref xr, .int size])), (ka, .inl (G.2.1 0, 1000, .inl kf)), (na, .inl (G.2.1 1, 1000, .inl nf)), (ga, .inl (G.2.1 1, 1000, .inl gf)), (sa, .inl (G.2.1 1, 1000, .inl sf)), (xr, .inr (1, [.ref xa, .int xsz])), (xa, .inl (G.2.1 0, 1000, .inl xf))]) (As := []) (rest := [.int r_2, .int 4, .ref t]) ⟨hx, hb, hml, hown, hw⟩ (c_Tree_text l G t ka na ga sa xr xa kf nf gf sf size xsz xf hs hxs H.size) (cwV 0 hw (good_V m_161 m_162 m_163 m_3 m_164) rfl rfl rfl hy_Tree_text ⟨Nat.le_of_ble_eq_true rfl, Nat.le_of_ble_eq_true rfl⟩) hE hP hD hS hA (va_recv hE.1 hP (ci := 2) (q0 := 0) rfl rfl) [0, 1, 2, 3, 4, 5, 6] rfl (by decide) rfl hl rfl (Nat.le_of_ble_eq_true rfl) d_Reader_name_37 ⟨Nat.le_of_ble_eq_true rfl, Nat.le_of_ble_eq_true rfl⟩) hP hD hS hA [0, 1, 2, 3, 4, 5, 6] [7, 8, 9] rfl rfl (by decide) (by decide) (fun r_6 u_7 H locs hw_8 hP hD hS => ?_)
    try dsimp only at hw_8
    have h_9 := hw_8
    subst h_9
    have hP : va_P G.1 vwCl [(rd, .inr (3, [.ref tr, .ref t, .int y_1])), (tr, .inr (1, [.ref ta, .int tsz])), (ta, .inl (G.2.1 0, 1000, .inl tf)), (t, .inr (2, [.ref ka, .ref na, .ref ga, .ref sa, .ref xr, .int size])), (ka, .inl (G.2.1 0, 1000, .inl kf)), (na, .inl (G.2.1 1, 1000, .inl nf)), (ga, .inl (G.2.1 1, 1000, .inl gf)), (sa, .inl (G.2.1 1, 1000, .inl sf)), (xr, .inr (1, [.ref xa, .int xsz])), (xa, .inl (G.2.1 0, 1000, .inl xf))] H := hP
    have hD : va_D A [(rd, .inr (3, [.ref tr, .ref t, .int y_1])), (tr, .inr (1, [.ref ta, .int tsz])), (ta, .inl (G.2.1 0, 1000, .inl tf)), (t, .inr (2, [.ref ka, .ref na, .ref ga, .ref sa, .ref xr, .int size])), (ka, .inl (G.2.1 0, 1000, .inl kf)), (na, .inl (G.2.1 1, 1000, .inl nf)), (ga, .inl (G.2.1 1, 1000, .inl gf)), (sa, .inl (G.2.1 1, 1000, .inl sf)), (xr, .inr (1, [.ref xa, .int xsz])), (xa, .inl (G.2.1 0, 1000, .inl xf))] := hD
    refine gc_i (wr := [(rd, .inr (3, [.ref tr, .ref t, .int y_1])), (tr, .inr (1, [.ref ta, .int tsz])), (ta, .inl (G.2.1 0, 1000, .inl tf)), (t, .inr (2, [.ref ka, .ref na, .ref ga, .ref sa, .ref xr, .int size])), (ka, .inl (G.2.1 0, 1000, .inl kf)), (na, .inl (G.2.1 1, 1000, .inl nf)), (ga, .inl (G.2.1 1, 1000, .inl gf)), (sa, .inl (G.2.1 1, 1000, .inl sf))]) (gc_V (wc := [(xr, .inr (1, [.ref xa, .int xsz])), (xa, .inl (G.2.1 0, 1000, .inl xf))]) (As := []) (rest := [.int r_2, .int 4, .ref t]) ⟨hx, hb, hml, hown, hw⟩ (c_Row_size l G xr xa 1000 xsz xf (by decide) hxs H.size) (cwV 0 hw (good_V m_142 m_86 m_87 m_2 m_88) rfl rfl rfl hy_Row_size ⟨Nat.le_of_ble_eq_true rfl, Nat.le_of_ble_eq_true rfl⟩) hE hP hD hS hA (va_recv hE.1 hP (ci := 1) (q0 := 8) rfl rfl) [8, 9] rfl (by decide) rfl hl rfl (Nat.le_of_ble_eq_true rfl) d_Reader_name_40 ⟨Nat.le_of_ble_eq_true rfl, Nat.le_of_ble_eq_true rfl⟩) hP hD hS hA [8, 9] [0, 1, 2, 3, 4, 5, 6, 7] rfl rfl (by decide) (by decide) (fun r_10 u_11 H locs hw_12 hP hD hS => ?_)
    try dsimp only at hw_12
    have h_13 := hw_12
    subst h_13
    have hP : va_P G.1 vwCl [(rd, .inr (3, [.ref tr, .ref t, .int y_1])), (tr, .inr (1, [.ref ta, .int tsz])), (ta, .inl (G.2.1 0, 1000, .inl tf)), (t, .inr (2, [.ref ka, .ref na, .ref ga, .ref sa, .ref xr, .int size])), (ka, .inl (G.2.1 0, 1000, .inl kf)), (na, .inl (G.2.1 1, 1000, .inl nf)), (ga, .inl (G.2.1 1, 1000, .inl gf)), (sa, .inl (G.2.1 1, 1000, .inl sf)), (xr, .inr (1, [.ref xa, .int xsz])), (xa, .inl (G.2.1 0, 1000, .inl xf))] H := hP
    have hD : va_D A [(rd, .inr (3, [.ref tr, .ref t, .int y_1])), (tr, .inr (1, [.ref ta, .int tsz])), (ta, .inl (G.2.1 0, 1000, .inl tf)), (t, .inr (2, [.ref ka, .ref na, .ref ga, .ref sa, .ref xr, .int size])), (ka, .inl (G.2.1 0, 1000, .inl kf)), (na, .inl (G.2.1 1, 1000, .inl nf)), (ga, .inl (G.2.1 1, 1000, .inl gf)), (sa, .inl (G.2.1 1, 1000, .inl sf)), (xr, .inr (1, [.ref xa, .int xsz])), (xa, .inl (G.2.1 0, 1000, .inl xf))] := hD
    refine gc_i (wr := [(rd, .inr (3, [.ref tr, .ref t, .int y_1])), (tr, .inr (1, [.ref ta, .int tsz])), (ta, .inl (G.2.1 0, 1000, .inl tf))]) (gc_V (wc := [(t, .inr (2, [.ref ka, .ref na, .ref ga, .ref sa, .ref xr, .int size])), (ka, .inl (G.2.1 0, 1000, .inl kf)), (na, .inl (G.2.1 1, 1000, .inl nf)), (ga, .inl (G.2.1 1, 1000, .inl gf)), (sa, .inl (G.2.1 1, 1000, .inl sf)), (xr, .inr (1, [.ref xa, .int xsz])), (xa, .inl (G.2.1 0, 1000, .inl xf))]) (As := [.int 4, .int r_2, .int xsz]) (rest := []) ⟨hx, hb, hml, hown, hw⟩ (c_Tree_add l G t ka na ga sa xr xa kf nf gf sf size xsz xf 4 r_2 xsz hs hxs H.size) (cwV 3 hw (good_V m_165 m_166 m_167 m_3 m_168) rfl rfl rfl hy_Tree_add ⟨Nat.le_of_ble_eq_true rfl, Nat.le_of_ble_eq_true rfl⟩) hE hP hD hS hA (va_recv hE.1 hP (ci := 2) (q0 := 3) rfl rfl) [3, 4, 5, 6, 7, 8, 9] rfl (by decide) rfl hl rfl (Nat.le_of_ble_eq_true rfl) d_Reader_name_43 ⟨Nat.le_of_ble_eq_true rfl, Nat.le_of_ble_eq_true rfl⟩) hP hD hS hA [3, 4, 5, 6, 7, 8, 9] [0, 1, 2] rfl rfl (by decide) (by decide) (fun r_14 u_15 H locs hw_16 hP hD hS => ?_)
    obtain ⟨kf2_17, nf2_18, gf2_19, sf2_20, size2_21⟩ := u_15
    try dsimp only at hw_16
    have h_22 := hw_16
    have hP : va_P G.1 vwCl [(rd, .inr (3, [.ref tr, .ref t, .int y_1])), (tr, .inr (1, [.ref ta, .int tsz])), (ta, .inl (G.2.1 0, 1000, .inl tf)), (t, .inr (2, [.ref ka, .ref na, .ref ga, .ref sa, .ref xr, .int size2_21])), (ka, .inl (G.2.1 0, 1000, .inl kf2_17)), (na, .inl (G.2.1 1, 1000, .inl nf2_18)), (ga, .inl (G.2.1 1, 1000, .inl gf2_19)), (sa, .inl (G.2.1 1, 1000, .inl sf2_20)), (xr, .inr (1, [.ref xa, .int xsz])), (xa, .inl (G.2.1 0, 1000, .inl xf))] H := hP
    have hD : va_D A [(rd, .inr (3, [.ref tr, .ref t, .int y_1])), (tr, .inr (1, [.ref ta, .int tsz])), (ta, .inl (G.2.1 0, 1000, .inl tf)), (t, .inr (2, [.ref ka, .ref na, .ref ga, .ref sa, .ref xr, .int size2_21])), (ka, .inl (G.2.1 0, 1000, .inl kf2_17)), (na, .inl (G.2.1 1, 1000, .inl nf2_18)), (ga, .inl (G.2.1 1, 1000, .inl gf2_19)), (sa, .inl (G.2.1 1, 1000, .inl sf2_20)), (xr, .inr (1, [.ref xa, .int xsz])), (xa, .inl (G.2.1 0, 1000, .inl xf))] := hD
    refine lv_pop hx hb d_Reader_name_46 rfl ?_
    refine lv_aload_n hx hb d_Reader_name_47 rfl (lv_at hl 1 rfl) ?_
    refine va_get (D := G.1) (ci := 3) (v := .ref t) (C := R_Reader) (T := F_Reader) (N := 3) hx hb hw i_Reader hown hE.1 hP 0 rfl rfl 1 (by decide) (hw _ m_116) (fun _ h9 => h9) rfl d_Reader_name_48 ?_
    refine gc_r (wr := [(rd, .inr (3, [.ref tr, .ref t, .int y_1])), (tr, .inr (1, [.ref ta, .int tsz])), (ta, .inl (G.2.1 0, 1000, .inl tf))]) (gc_V (wc := [(t, .inr (2, [.ref ka, .ref na, .ref ga, .ref sa, .ref xr, .int size2_21])), (ka, .inl (G.2.1 0, 1000, .inl kf2_17)), (na, .inl (G.2.1 1, 1000, .inl nf2_18)), (ga, .inl (G.2.1 1, 1000, .inl gf2_19)), (sa, .inl (G.2.1 1, 1000, .inl sf2_20)), (xr, .inr (1, [.ref xa, .int xsz])), (xa, .inl (G.2.1 0, 1000, .inl xf))]) (As := []) (rest := []) ⟨hx, hb, hml, hown, hw⟩ (c_Tree_text l G t ka na ga sa xr xa kf2_17 nf2_18 gf2_19 sf2_20 size2_21 xsz xf h_22 hxs H.size) (cwV 0 hw (good_V m_161 m_162 m_163 m_3 m_164) rfl rfl rfl hy_Tree_text ⟨Nat.le_of_ble_eq_true rfl, Nat.le_of_ble_eq_true rfl⟩) hE hP hD hS hA (va_recv hE.1 hP (ci := 2) (q0 := 3) rfl rfl) [3, 4, 5, 6, 7, 8, 9] rfl (by decide) rfl hl rfl (Nat.le_of_ble_eq_true rfl) d_Reader_name_51 ⟨Nat.le_of_ble_eq_true rfl, Nat.le_of_ble_eq_true rfl⟩) hP hD hS hA [3, 4, 5, 6, 7, 8, 9] [0, 1, 2] rfl rfl (by decide) (by decide) (fun r_23 u_24 H locs hw_25 hP hD hS => ?_)
    try dsimp only at hw_25
    have h_26 := hw_25
    subst h_26
    have hP : va_P G.1 vwCl [(rd, .inr (3, [.ref tr, .ref t, .int y_1])), (tr, .inr (1, [.ref ta, .int tsz])), (ta, .inl (G.2.1 0, 1000, .inl tf)), (t, .inr (2, [.ref ka, .ref na, .ref ga, .ref sa, .ref xr, .int size2_21])), (ka, .inl (G.2.1 0, 1000, .inl kf2_17)), (na, .inl (G.2.1 1, 1000, .inl nf2_18)), (ga, .inl (G.2.1 1, 1000, .inl gf2_19)), (sa, .inl (G.2.1 1, 1000, .inl sf2_20)), (xr, .inr (1, [.ref xa, .int xsz])), (xa, .inl (G.2.1 0, 1000, .inl xf))] H := hP
    have hD : va_D A [(rd, .inr (3, [.ref tr, .ref t, .int y_1])), (tr, .inr (1, [.ref ta, .int tsz])), (ta, .inl (G.2.1 0, 1000, .inl tf)), (t, .inr (2, [.ref ka, .ref na, .ref ga, .ref sa, .ref xr, .int size2_21])), (ka, .inl (G.2.1 0, 1000, .inl kf2_17)), (na, .inl (G.2.1 1, 1000, .inl nf2_18)), (ga, .inl (G.2.1 1, 1000, .inl gf2_19)), (sa, .inl (G.2.1 1, 1000, .inl sf2_20)), (xr, .inr (1, [.ref xa, .int xsz])), (xa, .inl (G.2.1 0, 1000, .inl xf))] := hD
    refine lv_aload_n hx hb d_Reader_name_54 rfl (lv_at hl 1 rfl) ?_
    refine va_get (D := G.1) (ci := 3) (v := .ref tr) (C := R_Reader) (T := F_Reader) (N := 3) hx hb hw i_Reader hown hE.1 hP 0 rfl rfl 0 (by decide) (hw _ m_115) (fun _ h9 => h9) rfl d_Reader_name_55 ?_
    refine lv_aload_n hx hb d_Reader_name_58 rfl (lv_at hl 1 rfl) ?_
    refine va_get (D := G.1) (ci := 3) (v := .int y_1) (C := R_Reader) (T := F_Reader) (N := 3) hx hb hw i_Reader hown hE.1 hP 0 rfl rfl 2 (by decide) (hw _ m_117) (fun _ h9 => h9) rfl d_Reader_name_59 ?_
    refine lv_iload_n hx hb d_Reader_name_62 rfl (lv_at hl 0 rfl) ?_
    refine gc_v (wr := [(rd, .inr (3, [.ref tr, .ref t, .int y_1])), (t, .inr (2, [.ref ka, .ref na, .ref ga, .ref sa, .ref xr, .int size2_21])), (ka, .inl (G.2.1 0, 1000, .inl kf2_17)), (na, .inl (G.2.1 1, 1000, .inl nf2_18)), (ga, .inl (G.2.1 1, 1000, .inl gf2_19)), (sa, .inl (G.2.1 1, 1000, .inl sf2_20))]) (gc_V (wc := [(xr, .inr (1, [.ref xa, .int xsz])), (xa, .inl (G.2.1 0, 1000, .inl xf)), (tr, .inr (1, [.ref ta, .int tsz])), (ta, .inl (G.2.1 0, 1000, .inl tf))]) (As := [.ref tr, .int y_1, .int r_2]) (rest := []) ⟨hx, hb, hml, hown, hw⟩ (c_Row_addFrom l G xr xa 1000 xsz xf tr ta 1000 tsz tf y_1 r_2 (by decide) hxs (by decide) htp H.size) (cwV 3 hw (good_V m_169 m_170 m_171 m_2 m_172) rfl rfl rfl hy_Row_addFrom ⟨Nat.le_of_ble_eq_true rfl, Nat.le_of_ble_eq_true rfl⟩) hE hP hD hS hA (va_recv hE.1 hP (ci := 1) (q0 := 8) rfl rfl) [8, 9, 1, 2] rfl (by decide) rfl hl rfl (Nat.le_of_ble_eq_true rfl) d_Reader_name_63 ⟨Nat.le_of_ble_eq_true rfl, Nat.le_of_ble_eq_true rfl⟩) hP hD hS hA [8, 9, 1, 2] [0, 3, 4, 5, 6, 7] rfl rfl (by decide) (by decide) (fun u_28 H locs hw_29 hP hD hS => ?_)
    obtain ⟨sz2_30, f2_31⟩ := u_28
    try dsimp only at hw_29
    have h_32 := hw_29
    have hP : va_P G.1 vwCl [(rd, .inr (3, [.ref tr, .ref t, .int y_1])), (t, .inr (2, [.ref ka, .ref na, .ref ga, .ref sa, .ref xr, .int size2_21])), (ka, .inl (G.2.1 0, 1000, .inl kf2_17)), (na, .inl (G.2.1 1, 1000, .inl nf2_18)), (ga, .inl (G.2.1 1, 1000, .inl gf2_19)), (sa, .inl (G.2.1 1, 1000, .inl sf2_20)), (xr, .inr (1, [.ref xa, .int sz2_30])), (xa, .inl (G.2.1 0, 1000, .inl f2_31)), (tr, .inr (1, [.ref ta, .int tsz])), (ta, .inl (G.2.1 0, 1000, .inl tf))] H := hP
    have hD : va_D A [(rd, .inr (3, [.ref tr, .ref t, .int y_1])), (t, .inr (2, [.ref ka, .ref na, .ref ga, .ref sa, .ref xr, .int size2_21])), (ka, .inl (G.2.1 0, 1000, .inl kf2_17)), (na, .inl (G.2.1 1, 1000, .inl nf2_18)), (ga, .inl (G.2.1 1, 1000, .inl gf2_19)), (sa, .inl (G.2.1 1, 1000, .inl sf2_20)), (xr, .inr (1, [.ref xa, .int sz2_30])), (xa, .inl (G.2.1 0, 1000, .inl f2_31)), (tr, .inr (1, [.ref ta, .int tsz])), (ta, .inl (G.2.1 0, 1000, .inl tf))] := hD
    refine lv_aload_n hx hb d_Reader_name_66 rfl (lv_at hl 1 rfl) ?_
    refine lv_dup hx hb d_Reader_name_67 rfl ?_
    refine va_get (D := G.1) (ci := 3) (v := .int y_1) (C := R_Reader) (T := F_Reader) (N := 3) hx hb hw i_Reader hown hE.1 hP 0 rfl rfl 2 (by decide) (hw _ m_117) (fun _ h9 => h9) rfl d_Reader_name_68 ?_
    refine lv_iload_n hx hb d_Reader_name_71 rfl (lv_at hl 0 rfl) ?_
    refine lv_iadd hx hb d_Reader_name_72 ?_
    refine lv_topi (fun y_33 ey_33 => ?_)
    refine va_put (D := G.1) (ci := 3) (v := .int y_33) (ty := .int) (C := R_Reader) (T := F_Reader) (N := 3) hx hb hw i_Reader t_Reader t_Reader_ok n_Reader hown hE.1 hP hD hS 0 rfl rfl 2 (by decide) (hw _ m_117) (fun _ h9 => h9) rfl (by decide +kernel) rfl rfl (Nat.le_of_ble_eq_true rfl) d_Reader_name_73 (fun H locs hP hD hS => ?_)
    have hP : va_P G.1 vwCl [(rd, .inr (3, [.ref tr, .ref t, .int y_33])), (t, .inr (2, [.ref ka, .ref na, .ref ga, .ref sa, .ref xr, .int size2_21])), (ka, .inl (G.2.1 0, 1000, .inl kf2_17)), (na, .inl (G.2.1 1, 1000, .inl nf2_18)), (ga, .inl (G.2.1 1, 1000, .inl gf2_19)), (sa, .inl (G.2.1 1, 1000, .inl sf2_20)), (xr, .inr (1, [.ref xa, .int sz2_30])), (xa, .inl (G.2.1 0, 1000, .inl f2_31)), (tr, .inr (1, [.ref ta, .int tsz])), (ta, .inl (G.2.1 0, 1000, .inl tf))] H := hP
    have hD : va_D A [(rd, .inr (3, [.ref tr, .ref t, .int y_33])), (t, .inr (2, [.ref ka, .ref na, .ref ga, .ref sa, .ref xr, .int size2_21])), (ka, .inl (G.2.1 0, 1000, .inl kf2_17)), (na, .inl (G.2.1 1, 1000, .inl nf2_18)), (ga, .inl (G.2.1 1, 1000, .inl gf2_19)), (sa, .inl (G.2.1 1, 1000, .inl sf2_20)), (xr, .inr (1, [.ref xa, .int sz2_30])), (xa, .inl (G.2.1 0, 1000, .inl f2_31)), (tr, .inr (1, [.ref ta, .int tsz])), (ta, .inl (G.2.1 0, 1000, .inl tf))] := hD
    refine lv_iconst (v := 1) hx hb d_Reader_name_76 (by decide) ?_
    exact ret 1 (y_33, kf2_17, nf2_18, gf2_19, sf2_20, size2_21, sz2_30, f2_31) (Nat.le_of_ble_eq_true rfl) (Nat.le_of_ble_eq_true rfl) d_Reader_name_77 rfl ⟨h_22, h_32, (by first | assumption | decide)⟩ (hP.sub [0, 8, 9, 1, 2, 3, 4, 5, 6, 7] rfl) (hD.sub [0, 8, 9, 1, 2, 3, 4, 5, 6, 7] (by decide) rfl) hS
  · refine lv_iconst (v := 0) hx hb d_Reader_name_25 (by decide) ?_
    exact ret 0 (y_1, kf, nf, gf, sf, size, xsz, xf) (Nat.le_of_ble_eq_true rfl) (Nat.le_of_ble_eq_true rfl) d_Reader_name_26 rfl ⟨hs, hxs, (by first | assumption | decide)⟩ (hP.sub [7, 8, 9, 0, 1, 2, 3, 4, 5, 6] rfl) (hD.sub [7, 8, 9, 0, 1, 2, 3, 4, 5, 6] (by decide) rfl) hS
def rm_Reader_plainString : Room := { frames := 3, cells := 0, slots := 0, locals := 67 }
set_option maxHeartbeats 4000000 in
set_option maxRecDepth 100000 in
theorem c_Reader_plainString (l : Launch) (G : GG) (rd : Nat) (at0 : Int32) (tr : Nat) (ta : Nat) (tsz : Int32) (tf : Nat → Int32) (t : Nat) (ka : Nat) (na : Nat) (ga : Nat) (sa : Nat) (xr : Nat) (xa : Nat) (kf : Nat → Int32) (nf : Nat → Int32) (gf : Nat → Int32) (sf : Nat → Int32) (size : Int32) (xsz : Int32) (xf : Nat → Int32) (htp : RowOk 1000 tsz) (hs : RowOk 1000 size) (hxs : RowOk 1000 xsz) : MI l y_Reader_plainString b_Reader_plainString 4 .boolean rm_Reader_plainString G [.ref rd] [(rd, .inr (3, [.ref tr, .ref t, .int at0])), (tr, .inr (1, [.ref ta, .int tsz])), (ta, .inl (G.2.1 0, 1000, .inl tf)), (t, .inr (2, [.ref ka, .ref na, .ref ga, .ref sa, .ref xr, .int size])), (ka, .inl (G.2.1 0, 1000, .inl kf)), (na, .inl (G.2.1 1, 1000, .inl nf)), (ga, .inl (G.2.1 1, 1000, .inl gf)), (sa, .inl (G.2.1 1, 1000, .inl sf)), (xr, .inr (1, [.ref xa, .int xsz])), (xa, .inl (G.2.1 0, 1000, .inl xf))] (fun (v : Int32) (u : Int32 × (Nat → Int32) × (Nat → Int32) × (Nat → Int32) × (Nat → Int32) × Int32 × Int32 × (Nat → Int32)) => (RowOk 1000 u.2.2.2.2.2.1) ∧ (RowOk 1000 u.2.2.2.2.2.2.1) ∧ (v = 0 ∨ v = 1)) (fun (u : Int32 × (Nat → Int32) × (Nat → Int32) × (Nat → Int32) × (Nat → Int32) × Int32 × Int32 × (Nat → Int32)) => [(rd, .inr (3, [.ref tr, .ref t, .int u.1])), (tr, .inr (1, [.ref ta, .int tsz])), (ta, .inl (G.2.1 0, 1000, .inl tf)), (t, .inr (2, [.ref ka, .ref na, .ref ga, .ref sa, .ref xr, .int u.2.2.2.2.2.1])), (ka, .inl (G.2.1 0, 1000, .inl u.2.1)), (na, .inl (G.2.1 1, 1000, .inl u.2.2.1)), (ga, .inl (G.2.1 1, 1000, .inl u.2.2.2.1)), (sa, .inl (G.2.1 1, 1000, .inl u.2.2.2.2.1)), (xr, .inr (1, [.ref xa, .int u.2.2.2.2.2.2.1])), (xa, .inl (G.2.1 0, 1000, .inl u.2.2.2.2.2.2.2))]) 0 0 := by
  refine MI.of (cc := b_Reader_plainString) (maxL := 4) (ty := .boolean) (C := R_Reader) (by decide +kernel) rfl (Nat.le_of_ble_eq_true rfl) ?_
  intro p e s m args below meth c A Q H ls hx hb hml hown hw hE hA hP hD hS ret hl
  have hl : lv_has ls 4 [(0, .ref rd)] := hl
  have J_23 : ∀ (fu : Nat) (x2_23 : Int32) (at2_23 : Int32) (kf2_23 : Nat → Int32) (nf2_23 : Nat → Int32) (gf2_23 : Nat → Int32) (sf2_23 : Nat → Int32) (size2_23 : Int32) (xsz2_23 : Int32) (xf2_23 : Nat → Int32) (hj0_23 : RowOk 1000 size2_23) (hj1_23 : RowOk 1000 xsz2_23), ((100 : Int32).toInt + 1 - x2_23.toInt).toNat < fu → ∀ (H : Heap) (locs : List Loc), va_P G.1 vwCl [(rd, .inr (3, [.ref tr, .ref t, .int at2_23])), (tr, .inr (1, [.ref ta, .int tsz])), (ta, .inl (G.2.1 0, 1000, .inl tf)), (t, .inr (2, [.ref ka, .ref na, .ref ga, .ref sa, .ref xr, .int size2_23])), (ka, .inl (G.2.1 0, 1000, .inl kf2_23)), (na, .inl (G.2.1 1, 1000, .inl nf2_23)), (ga, .inl (G.2.1 1, 1000, .inl gf2_23)), (sa, .inl (G.2.1 1, 1000, .inl sf2_23)), (xr, .inr (1, [.ref xa, .int xsz2_23])), (xa, .inl (G.2.1 0, 1000, .inl xf2_23))] H → va_D A [(rd, .inr (3, [.ref tr, .ref t, .int at2_23])), (tr, .inr (1, [.ref ta, .int tsz])), (ta, .inl (G.2.1 0, 1000, .inl tf)), (t, .inr (2, [.ref ka, .ref na, .ref ga, .ref sa, .ref xr, .int size2_23])), (ka, .inl (G.2.1 0, 1000, .inl kf2_23)), (na, .inl (G.2.1 1, 1000, .inl nf2_23)), (ga, .inl (G.2.1 1, 1000, .inl gf2_23)), (sa, .inl (G.2.1 1, 1000, .inl sf2_23)), (xr, .inr (1, [.ref xa, .int xsz2_23])), (xa, .inl (G.2.1 0, 1000, .inl xf2_23))] → va_S A s.heap H locs → ∀ ls : Array Slot, lv_has ls 4 [(2, .int x2_23), (1, .int xsz), (0, .ref rd)] → W p l e rm_Reader_plainString s m args below meth c H locs 0 0 Q (F0 m 23 ls []) := by
    intro fu
    induction fu with
    | zero =>
      intro x2_23 at2_23 kf2_23 nf2_23 gf2_23 sf2_23 size2_23 xsz2_23 xf2_23 hj0_23 hj1_23 hm
      exact absurd hm (Nat.not_lt_zero _)
    | succ fu ih_23 =>
      intro x2_23 at2_23 kf2_23 nf2_23 gf2_23 sf2_23 size2_23 xsz2_23 xf2_23 hj0_23 hj1_23 hm_23 H locs hP hD hS ls hl
      have J_92 : ∀ (x3_92 : Int32) (at2_92 : Int32) (kf2_92 : Nat → Int32) (nf2_92 : Nat → Int32) (gf2_92 : Nat → Int32) (sf2_92 : Nat → Int32) (size2_92 : Int32) (xsz2_92 : Int32) (xf2_92 : Nat → Int32) (hj0_92 : RowOk 1000 size2_92) (hj1_92 : RowOk 1000 xsz2_92) (hk0_92 : ¬ 100 < x2_23) (H : Heap) (locs : List Loc), va_P G.1 vwCl [(rd, .inr (3, [.ref tr, .ref t, .int at2_92])), (tr, .inr (1, [.ref ta, .int tsz])), (ta, .inl (G.2.1 0, 1000, .inl tf)), (t, .inr (2, [.ref ka, .ref na, .ref ga, .ref sa, .ref xr, .int size2_92])), (ka, .inl (G.2.1 0, 1000, .inl kf2_92)), (na, .inl (G.2.1 1, 1000, .inl nf2_92)), (ga, .inl (G.2.1 1, 1000, .inl gf2_92)), (sa, .inl (G.2.1 1, 1000, .inl sf2_92)), (xr, .inr (1, [.ref xa, .int xsz2_92])), (xa, .inl (G.2.1 0, 1000, .inl xf2_92))] H → va_D A [(rd, .inr (3, [.ref tr, .ref t, .int at2_92])), (tr, .inr (1, [.ref ta, .int tsz])), (ta, .inl (G.2.1 0, 1000, .inl tf)), (t, .inr (2, [.ref ka, .ref na, .ref ga, .ref sa, .ref xr, .int size2_92])), (ka, .inl (G.2.1 0, 1000, .inl kf2_92)), (na, .inl (G.2.1 1, 1000, .inl nf2_92)), (ga, .inl (G.2.1 1, 1000, .inl gf2_92)), (sa, .inl (G.2.1 1, 1000, .inl sf2_92)), (xr, .inr (1, [.ref xa, .int xsz2_92])), (xa, .inl (G.2.1 0, 1000, .inl xf2_92))] → va_S A s.heap H locs → ∀ ls : Array Slot, lv_has ls 4 [(3, .int x3_92), (2, .int x2_23), (1, .int xsz), (0, .ref rd)] → W p l e rm_Reader_plainString s m args below meth c H locs 0 0 Q (F0 m 92 ls []) := by
        intro x3_92 at2_92 kf2_92 nf2_92 gf2_92 sf2_92 size2_92 xsz2_92 xf2_92 hj0_92 hj1_92 hk0_92 H locs hP hD hS ls hl
        refine lv_iload_n hx hb d_Reader_plainString_92 rfl (lv_at hl 0 rfl) ?_
        refine lv_if_ge (tgt := 98) hx hb d_Reader_plainString_93 (by decide) (fun c_1 => ?_) (fun c_1 => ?_)
        · refine lv_aload_n hx hb d_Reader_plainString_98 rfl (lv_at hl 3 rfl) ?_
          refine va_get (D := G.1) (ci := 3) (v := .ref t) (C := R_Reader) (T := F_Reader) (N := 3) hx hb hw i_Reader hown hE.1 hP 0 rfl rfl 1 (by decide) (hw _ m_116) (fun _ h9 => h9) rfl d_Reader_plainString_99 ?_
          refine gc_r (wr := [(rd, .inr (3, [.ref tr, .ref t, .int at2_92])), (tr, .inr (1, [.ref ta, .int tsz])), (ta, .inl (G.2.1 0, 1000, .inl tf))]) (gc_V (wc := [(t, .inr (2, [.ref ka, .ref na, .ref ga, .ref sa, .ref xr, .int size2_92])), (ka, .inl (G.2.1 0, 1000, .inl kf2_92)), (na, .inl (G.2.1 1, 1000, .inl nf2_92)), (ga, .inl (G.2.1 1, 1000, .inl gf2_92)), (sa, .inl (G.2.1 1, 1000, .inl sf2_92)), (xr, .inr (1, [.ref xa, .int xsz2_92])), (xa, .inl (G.2.1 0, 1000, .inl xf2_92))]) (As := []) (rest := []) ⟨hx, hb, hml, hown, hw⟩ (c_Tree_text l G t ka na ga sa xr xa kf2_92 nf2_92 gf2_92 sf2_92 size2_92 xsz2_92 xf2_92 hj0_92 hj1_92 H.size) (cwV 0 hw (good_V m_161 m_162 m_163 m_3 m_164) rfl rfl rfl hy_Tree_text ⟨Nat.le_of_ble_eq_true rfl, Nat.le_of_ble_eq_true rfl⟩) hE hP hD hS hA (va_recv hE.1 hP (ci := 2) (q0 := 3) rfl rfl) [3, 4, 5, 6, 7, 8, 9] rfl (by decide) rfl hl rfl (Nat.le_of_ble_eq_true rfl) d_Reader_plainString_102 ⟨Nat.le_of_ble_eq_true rfl, Nat.le_of_ble_eq_true rfl⟩) hP hD hS hA [3, 4, 5, 6, 7, 8, 9] [0, 1, 2] rfl rfl (by decide) (by decide) (fun r_2 u_3 H locs hw_4 hP hD hS => ?_)
          try dsimp only at hw_4
          have h_5 := hw_4
          subst h_5
          have hP : va_P G.1 vwCl [(rd, .inr (3, [.ref tr, .ref t, .int at2_92])), (tr, .inr (1, [.ref ta, .int tsz])), (ta, .inl (G.2.1 0, 1000, .inl tf)), (t, .inr (2, [.ref ka, .ref na, .ref ga, .ref sa, .ref xr, .int size2_92])), (ka, .inl (G.2.1 0, 1000, .inl kf2_92)), (na, .inl (G.2.1 1, 1000, .inl nf2_92)), (ga, .inl (G.2.1 1, 1000, .inl gf2_92)), (sa, .inl (G.2.1 1, 1000, .inl sf2_92)), (xr, .inr (1, [.ref xa, .int xsz2_92])), (xa, .inl (G.2.1 0, 1000, .inl xf2_92))] H := hP
          have hD : va_D A [(rd, .inr (3, [.ref tr, .ref t, .int at2_92])), (tr, .inr (1, [.ref ta, .int tsz])), (ta, .inl (G.2.1 0, 1000, .inl tf)), (t, .inr (2, [.ref ka, .ref na, .ref ga, .ref sa, .ref xr, .int size2_92])), (ka, .inl (G.2.1 0, 1000, .inl kf2_92)), (na, .inl (G.2.1 1, 1000, .inl nf2_92)), (ga, .inl (G.2.1 1, 1000, .inl gf2_92)), (sa, .inl (G.2.1 1, 1000, .inl sf2_92)), (xr, .inr (1, [.ref xa, .int xsz2_92])), (xa, .inl (G.2.1 0, 1000, .inl xf2_92))] := hD
          refine lv_iload_n hx hb d_Reader_plainString_105 rfl (lv_at hl 0 rfl) ?_
          refine gc_v (wr := [(rd, .inr (3, [.ref tr, .ref t, .int at2_92])), (tr, .inr (1, [.ref ta, .int tsz])), (ta, .inl (G.2.1 0, 1000, .inl tf)), (t, .inr (2, [.ref ka, .ref na, .ref ga, .ref sa, .ref xr, .int size2_92])), (ka, .inl (G.2.1 0, 1000, .inl kf2_92)), (na, .inl (G.2.1 1, 1000, .inl nf2_92)), (ga, .inl (G.2.1 1, 1000, .inl gf2_92)), (sa, .inl (G.2.1 1, 1000, .inl sf2_92))]) (gc_V (wc := [(xr, .inr (1, [.ref xa, .int xsz2_92])), (xa, .inl (G.2.1 0, 1000, .inl xf2_92))]) (As := [.int x3_92]) (rest := []) ⟨hx, hb, hml, hown, hw⟩ (c_Row_add l G xr xa 1000 xsz2_92 xf2_92 x3_92 (by decide) hj1_92 H.size) (cwV 1 hw (good_V m_186 m_94 m_95 m_2 m_96) rfl rfl rfl hy_Row_add ⟨Nat.le_of_ble_eq_true rfl, Nat.le_of_ble_eq_true rfl⟩) hE hP hD hS hA (va_recv hE.1 hP (ci := 1) (q0 := 8) rfl rfl) [8, 9] rfl (by decide) rfl hl rfl (Nat.le_of_ble_eq_true rfl) d_Reader_plainString_106 ⟨Nat.le_of_ble_eq_true rfl, Nat.le_of_ble_eq_true rfl⟩) hP hD hS hA [8, 9] [0, 1, 2, 3, 4, 5, 6, 7] rfl rfl (by decide) (by decide) (fun u_7 H locs hw_8 hP hD hS => ?_)
          obtain ⟨sz2_9, f2_10⟩ := u_7
          try dsimp only at hw_8
          obtain ⟨h_11, h_12⟩ := hw_8
          have hP : va_P G.1 vwCl [(rd, .inr (3, [.ref tr, .ref t, .int at2_92])), (tr, .inr (1, [.ref ta, .int tsz])), (ta, .inl (G.2.1 0, 1000, .inl tf)), (t, .inr (2, [.ref ka, .ref na, .ref ga, .ref sa, .ref xr, .int size2_92])), (ka, .inl (G.2.1 0, 1000, .inl kf2_92)), (na, .inl (G.2.1 1, 1000, .inl nf2_92)), (ga, .inl (G.2.1 1, 1000, .inl gf2_92)), (sa, .inl (G.2.1 1, 1000, .inl sf2_92)), (xr, .inr (1, [.ref xa, .int sz2_9])), (xa, .inl (G.2.1 0, 1000, .inl f2_10))] H := hP
          have hD : va_D A [(rd, .inr (3, [.ref tr, .ref t, .int at2_92])), (tr, .inr (1, [.ref ta, .int tsz])), (ta, .inl (G.2.1 0, 1000, .inl tf)), (t, .inr (2, [.ref ka, .ref na, .ref ga, .ref sa, .ref xr, .int size2_92])), (ka, .inl (G.2.1 0, 1000, .inl kf2_92)), (na, .inl (G.2.1 1, 1000, .inl nf2_92)), (ga, .inl (G.2.1 1, 1000, .inl gf2_92)), (sa, .inl (G.2.1 1, 1000, .inl sf2_92)), (xr, .inr (1, [.ref xa, .int sz2_9])), (xa, .inl (G.2.1 0, 1000, .inl f2_10))] := hD
          obtain ⟨y_13, ey_13⟩ : ∃ y : Int32, y = x2_23 + 1 := ⟨_, rfl⟩
          refine lv_iinc (v := y_13) (lv' := [(2, .int y_13), (3, .int x3_92), (1, .int xsz), (0, .ref rd)]) hx hb d_Reader_plainString_109 hl (k := 1) rfl (by rw [ey_13]; rfl) (by decide) rfl (fun ls hl => ?_)
          refine lv_goto (tgt := 23) hx hb d_Reader_plainString_112 (by decide) ?_
          exact ih_23 y_13 at2_92 kf2_92 nf2_92 gf2_92 sf2_92 size2_92 sz2_9 f2_10 hj0_92 h_11 (ms_upe (B := 100) (by assumption) (by assumption) (by decide) hm_23) _ _ (hP.sub [0, 1, 2, 3, 4, 5, 6, 7, 8, 9] rfl) (hD.sub [0, 1, 2, 3, 4, 5, 6, 7, 8, 9] (by decide) rfl) hS _ (lv_sub hl [0, 2, 3] rfl)
        · refine lv_iconst (v := 0) hx hb d_Reader_plainString_96 (by decide) ?_
          exact ret 0 (at2_92, kf2_92, nf2_92, gf2_92, sf2_92, size2_92, xsz2_92, xf2_92) (Nat.le_of_ble_eq_true rfl) (Nat.le_of_ble_eq_true rfl) d_Reader_plainString_97 rfl ⟨hj0_92, hj1_92, (by first | assumption | decide)⟩ (hP.sub [0, 1, 2, 3, 4, 5, 6, 7, 8, 9] rfl) (hD.sub [0, 1, 2, 3, 4, 5, 6, 7, 8, 9] (by decide) rfl) hS
      refine lv_iload_n hx hb d_Reader_plainString_23 rfl (lv_at hl 0 rfl) ?_
      refine lv_bipush (v := 100) hx hb d_Reader_plainString_24 (by decide) ?_
      refine lv_icmp_gt (tgt := 115) hx hb d_Reader_plainString_26 (by decide) (fun c_14 => ?_) (fun c_14 => ?_)
      · refine lv_iconst (v := 0) hx hb d_Reader_plainString_115 (by decide) ?_
        exact ret 0 (at2_23, kf2_23, nf2_23, gf2_23, sf2_23, size2_23, xsz2_23, xf2_23) (Nat.le_of_ble_eq_true rfl) (Nat.le_of_ble_eq_true rfl) d_Reader_plainString_116 rfl ⟨hj0_23, hj1_23, (by first | assumption | decide)⟩ (hP.sub [0, 1, 2, 3, 4, 5, 6, 7, 8, 9] rfl) (hD.sub [0, 1, 2, 3, 4, 5, 6, 7, 8, 9] (by decide) rfl) hS
      · refine lv_aload_n hx hb d_Reader_plainString_29 rfl (lv_at hl 2 rfl) ?_
        refine va_get (D := G.1) (ci := 3) (v := .ref tr) (C := R_Reader) (T := F_Reader) (N := 3) hx hb hw i_Reader hown hE.1 hP 0 rfl rfl 0 (by decide) (hw _ m_115) (fun _ h9 => h9) rfl d_Reader_plainString_30 ?_
        refine lv_aload_n hx hb d_Reader_plainString_33 rfl (lv_at hl 2 rfl) ?_
        refine va_get (D := G.1) (ci := 3) (v := .int at2_23) (C := R_Reader) (T := F_Reader) (N := 3) hx hb hw i_Reader hown hE.1 hP 0 rfl rfl 2 (by decide) (hw _ m_117) (fun _ h9 => h9) rfl d_Reader_plainString_34 ?_
        refine gc_i (wr := [(rd, .inr (3, [.ref tr, .ref t, .int at2_23])), (t, .inr (2, [.ref ka, .ref na, .ref ga, .ref sa, .ref xr, .int size2_23])), (ka, .inl (G.2.1 0, 1000, .inl kf2_23)), (na, .inl (G.2.1 1, 1000, .inl nf2_23)), (ga, .inl (G.2.1 1, 1000, .inl gf2_23)), (sa, .inl (G.2.1 1, 1000, .inl sf2_23)), (xr, .inr (1, [.ref xa, .int xsz2_23])), (xa, .inl (G.2.1 0, 1000, .inl xf2_23))]) (gc_V (wc := [(tr, .inr (1, [.ref ta, .int tsz])), (ta, .inl (G.2.1 0, 1000, .inl tf))]) (As := [.int at2_23]) (rest := []) ⟨hx, hb, hml, hown, hw⟩ (c_Row_get l G tr ta 1000 tsz tf at2_23 (by decide) htp H.size) (cwV 1 hw (good_V m_143 m_144 m_145 m_2 m_146) rfl rfl rfl hy_Row_get ⟨Nat.le_of_ble_eq_true rfl, Nat.le_of_ble_eq_true rfl⟩) hE hP hD hS hA (va_recv hE.1 hP (ci := 1) (q0 := 1) rfl rfl) [1, 2] rfl (by decide) rfl hl rfl (Nat.le_of_ble_eq_true rfl) d_Reader_plainString_37 ⟨Nat.le_of_ble_eq_true rfl, Nat.le_of_ble_eq_true rfl⟩) hP hD hS hA [1, 2] [0, 3, 4, 5, 6, 7, 8, 9] rfl rfl (by decide) (by decide) (fun r_15 u_16 H locs hw_17 hP hD hS => ?_)
        have hP : va_P G.1 vwCl [(rd, .inr (3, [.ref tr, .ref t, .int at2_23])), (t, .inr (2, [.ref ka, .ref na, .ref ga, .ref sa, .ref xr, .int size2_23])), (ka, .inl (G.2.1 0, 1000, .inl kf2_23)), (na, .inl (G.2.1 1, 1000, .inl nf2_23)), (ga, .inl (G.2.1 1, 1000, .inl gf2_23)), (sa, .inl (G.2.1 1, 1000, .inl sf2_23)), (xr, .inr (1, [.ref xa, .int xsz2_23])), (xa, .inl (G.2.1 0, 1000, .inl xf2_23)), (tr, .inr (1, [.ref ta, .int tsz])), (ta, .inl (G.2.1 0, 1000, .inl tf))] H := hP
        have hD : va_D A [(rd, .inr (3, [.ref tr, .ref t, .int at2_23])), (t, .inr (2, [.ref ka, .ref na, .ref ga, .ref sa, .ref xr, .int size2_23])), (ka, .inl (G.2.1 0, 1000, .inl kf2_23)), (na, .inl (G.2.1 1, 1000, .inl nf2_23)), (ga, .inl (G.2.1 1, 1000, .inl gf2_23)), (sa, .inl (G.2.1 1, 1000, .inl sf2_23)), (xr, .inr (1, [.ref xa, .int xsz2_23])), (xa, .inl (G.2.1 0, 1000, .inl xf2_23)), (tr, .inr (1, [.ref ta, .int tsz])), (ta, .inl (G.2.1 0, 1000, .inl tf))] := hD
        refine lv_istore_n (lv' := [(3, .int r_15), (2, .int x2_23), (1, .int xsz), (0, .ref rd)]) hx hb d_Reader_plainString_40 rfl hl (by decide) rfl (fun ls hl => ?_)
        refine lv_aload_n hx hb d_Reader_plainString_41 rfl (lv_at hl 3 rfl) ?_
        refine lv_dup hx hb d_Reader_plainString_42 rfl ?_
        refine va_get (D := G.1) (ci := 3) (v := .int at2_23) (C := R_Reader) (T := F_Reader) (N := 3) hx hb hw i_Reader hown hE.1 hP 0 rfl rfl 2 (by decide) (hw _ m_117) (fun _ h9 => h9) rfl d_Reader_plainString_43 ?_
        refine lv_iconst (v := 1) hx hb d_Reader_plainString_46 (by decide) ?_
        refine lv_iadd hx hb d_Reader_plainString_47 ?_
        refine lv_topi (fun y_18 ey_18 => ?_)
        refine va_put (D := G.1) (ci := 3) (v := .int y_18) (ty := .int) (C := R_Reader) (T := F_Reader) (N := 3) hx hb hw i_Reader t_Reader t_Reader_ok n_Reader hown hE.1 hP hD hS 0 rfl rfl 2 (by decide) (hw _ m_117) (fun _ h9 => h9) rfl (by decide +kernel) rfl rfl (Nat.le_of_ble_eq_true rfl) d_Reader_plainString_48 (fun H locs hP hD hS => ?_)
        have hP : va_P G.1 vwCl [(rd, .inr (3, [.ref tr, .ref t, .int y_18])), (t, .inr (2, [.ref ka, .ref na, .ref ga, .ref sa, .ref xr, .int size2_23])), (ka, .inl (G.2.1 0, 1000, .inl kf2_23)), (na, .inl (G.2.1 1, 1000, .inl nf2_23)), (ga, .inl (G.2.1 1, 1000, .inl gf2_23)), (sa, .inl (G.2.1 1, 1000, .inl sf2_23)), (xr, .inr (1, [.ref xa, .int xsz2_23])), (xa, .inl (G.2.1 0, 1000, .inl xf2_23)), (tr, .inr (1, [.ref ta, .int tsz])), (ta, .inl (G.2.1 0, 1000, .inl tf))] H := hP
        have hD : va_D A [(rd, .inr (3, [.ref tr, .ref t, .int y_18])), (t, .inr (2, [.ref ka, .ref na, .ref ga, .ref sa, .ref xr, .int size2_23])), (ka, .inl (G.2.1 0, 1000, .inl kf2_23)), (na, .inl (G.2.1 1, 1000, .inl nf2_23)), (ga, .inl (G.2.1 1, 1000, .inl gf2_23)), (sa, .inl (G.2.1 1, 1000, .inl sf2_23)), (xr, .inr (1, [.ref xa, .int xsz2_23])), (xa, .inl (G.2.1 0, 1000, .inl xf2_23)), (tr, .inr (1, [.ref ta, .int tsz])), (ta, .inl (G.2.1 0, 1000, .inl tf))] := hD
        refine lv_iload_n hx hb d_Reader_plainString_51 rfl (lv_at hl 0 rfl) ?_
        refine lv_bipush (v := 41) hx hb d_Reader_plainString_52 (by decide) ?_
        refine lv_icmp_ne (tgt := 70) hx hb d_Reader_plainString_54 (by decide) (fun c_19 => ?_) (fun c_19 => ?_)
        · refine lv_iload_n hx hb d_Reader_plainString_70 rfl (lv_at hl 0 rfl) ?_
          refine lv_bipush (v := 92) hx hb d_Reader_plainString_71 (by decide) ?_
          refine lv_icmp_ne (tgt := 84) hx hb d_Reader_plainString_73 (by decide) (fun c_20 => ?_) (fun c_20 => ?_)
          · refine lv_iload_n hx hb d_Reader_plainString_84 rfl (lv_at hl 0 rfl) ?_
            refine lv_bipush (v := 40) hx hb d_Reader_plainString_85 (by decide) ?_
            refine lv_icmp_ne (tgt := 92) hx hb d_Reader_plainString_87 (by decide) (fun c_21 => ?_) (fun c_21 => ?_)
            · exact J_92 r_15 y_18 kf2_23 nf2_23 gf2_23 sf2_23 size2_23 xsz2_23 xf2_23 hj0_23 hj1_23 (by first | assumption | trivial | (try dsimp only; omega)) _ _ (hP.sub [0, 8, 9, 1, 2, 3, 4, 5, 6, 7] rfl) (hD.sub [0, 8, 9, 1, 2, 3, 4, 5, 6, 7] (by decide) rfl) hS _ (lv_sub hl [0, 1, 2, 3] rfl)
            · refine lv_iconst (v := 0) hx hb d_Reader_plainString_90 (by decide) ?_
              exact ret 0 (y_18, kf2_23, nf2_23, gf2_23, sf2_23, size2_23, xsz2_23, xf2_23) (Nat.le_of_ble_eq_true rfl) (Nat.le_of_ble_eq_true rfl) d_Reader_plainString_91 rfl ⟨hj0_23, hj1_23, (by first | assumption | decide)⟩ (hP.sub [0, 8, 9, 1, 2, 3, 4, 5, 6, 7] rfl) (hD.sub [0, 8, 9, 1, 2, 3, 4, 5, 6, 7] (by decide) rfl) hS
          · refine lv_aload_n hx hb d_Reader_plainString_76 rfl (lv_at hl 3 rfl) ?_
            refine gc_i (wr := [(t, .inr (2, [.ref ka, .ref na, .ref ga, .ref sa, .ref xr, .int size2_23])), (ka, .inl (G.2.1 0, 1000, .inl kf2_23)), (na, .inl (G.2.1 1, 1000, .inl nf2_23)), (ga, .inl (G.2.1 1, 1000, .inl gf2_23)), (sa, .inl (G.2.1 1, 1000, .inl sf2_23)), (xr, .inr (1, [.ref xa, .int xsz2_23])), (xa, .inl (G.2.1 0, 1000, .inl xf2_23))]) (gc_V (wc := [(rd, .inr (3, [.ref tr, .ref t, .int y_18])), (tr, .inr (1, [.ref ta, .int tsz])), (ta, .inl (G.2.1 0, 1000, .inl tf))]) (As := []) (rest := []) ⟨hx, hb, hml, hown, hw⟩ (c_Reader_escaped l G rd t y_18 tr ta tsz tf htp H.size) (cwV 0 hw (good_V m_178 m_180 ms_5 m_5 m_181) rfl rfl rfl hy_Reader_escaped ⟨Nat.le_of_ble_eq_true rfl, Nat.le_of_ble_eq_true rfl⟩) hE hP hD hS hA (va_recv hE.1 hP (ci := 3) (q0 := 0) rfl rfl) [0, 8, 9] rfl (by decide) rfl hl rfl (Nat.le_of_ble_eq_true rfl) d_Reader_plainString_77 ⟨Nat.le_of_ble_eq_true rfl, Nat.le_of_ble_eq_true rfl⟩) hP hD hS hA [0, 8, 9] [1, 2, 3, 4, 5, 6, 7] rfl rfl (by decide) (by decide) (fun r_22 u_23 H locs hw_24 hP hD hS => ?_)
            obtain ⟨at2_25, rfl⟩ : ∃ z, z = u_23 := ⟨_, rfl⟩
            have hP : va_P G.1 vwCl [(t, .inr (2, [.ref ka, .ref na, .ref ga, .ref sa, .ref xr, .int size2_23])), (ka, .inl (G.2.1 0, 1000, .inl kf2_23)), (na, .inl (G.2.1 1, 1000, .inl nf2_23)), (ga, .inl (G.2.1 1, 1000, .inl gf2_23)), (sa, .inl (G.2.1 1, 1000, .inl sf2_23)), (xr, .inr (1, [.ref xa, .int xsz2_23])), (xa, .inl (G.2.1 0, 1000, .inl xf2_23)), (rd, .inr (3, [.ref tr, .ref t, .int at2_25])), (tr, .inr (1, [.ref ta, .int tsz])), (ta, .inl (G.2.1 0, 1000, .inl tf))] H := hP
            have hD : va_D A [(t, .inr (2, [.ref ka, .ref na, .ref ga, .ref sa, .ref xr, .int size2_23])), (ka, .inl (G.2.1 0, 1000, .inl kf2_23)), (na, .inl (G.2.1 1, 1000, .inl nf2_23)), (ga, .inl (G.2.1 1, 1000, .inl gf2_23)), (sa, .inl (G.2.1 1, 1000, .inl sf2_23)), (xr, .inr (1, [.ref xa, .int xsz2_23])), (xa, .inl (G.2.1 0, 1000, .inl xf2_23)), (rd, .inr (3, [.ref tr, .ref t, .int at2_25])), (tr, .inr (1, [.ref ta, .int tsz])), (ta, .inl (G.2.1 0, 1000, .inl tf))] := hD
            refine lv_istore_n (lv' := [(3, .int r_22), (2, .int x2_23), (1, .int xsz), (0, .ref rd)]) hx hb d_Reader_plainString_80 rfl hl (by decide) rfl (fun ls hl => ?_)
            refine lv_goto (tgt := 92) hx hb d_Reader_plainString_81 (by decide) ?_
            exact J_92 r_22 at2_25 kf2_23 nf2_23 gf2_23 sf2_23 size2_23 xsz2_23 xf2_23 hj0_23 hj1_23 (by first | assumption | trivial | (try dsimp only; omega)) _ _ (hP.sub [7, 8, 9, 0, 1, 2, 3, 4, 5, 6] rfl) (hD.sub [7, 8, 9, 0, 1, 2, 3, 4, 5, 6] (by decide) rfl) hS _ (lv_sub hl [0, 1, 2, 3] rfl)
        · refine lv_aload_n hx hb d_Reader_plainString_57 rfl (lv_at hl 3 rfl) ?_
          refine va_get (D := G.1) (ci := 3) (v := .ref t) (C := R_Reader) (T := F_Reader) (N := 3) hx hb hw i_Reader hown hE.1 hP 0 rfl rfl 1 (by decide) (hw _ m_116) (fun _ h9 => h9) rfl d_Reader_plainString_58 ?_
          refine lv_iconst (v := 5) hx hb d_Reader_plainString_61 (by decide) ?_
          refine lv_iload_n hx hb d_Reader_plainString_62 rfl (lv_at hl 1 rfl) ?_
          refine lv_iload_n hx hb d_Reader_plainString_63 rfl (lv_at hl 2 rfl) ?_
          refine gc_i (wr := [(rd, .inr (3, [.ref tr, .ref t, .int y_18])), (tr, .inr (1, [.ref ta, .int tsz])), (ta, .inl (G.2.1 0, 1000, .inl tf))]) (gc_V (wc := [(t, .inr (2, [.ref ka, .ref na, .ref ga, .ref sa, .ref xr, .int size2_23])), (ka, .inl (G.2.1 0, 1000, .inl kf2_23)), (na, .inl (G.2.1 1, 1000, .inl nf2_23)), (ga, .inl (G.2.1 1, 1000, .inl gf2_23)), (sa, .inl (G.2.1 1, 1000, .inl sf2_23)), (xr, .inr (1, [.ref xa, .int xsz2_23])), (xa, .inl (G.2.1 0, 1000, .inl xf2_23))]) (As := [.int 5, .int x2_23, .int xsz]) (rest := []) ⟨hx, hb, hml, hown, hw⟩ (c_Tree_add l G t ka na ga sa xr xa kf2_23 nf2_23 gf2_23 sf2_23 size2_23 xsz2_23 xf2_23 5 x2_23 xsz hj0_23 hj1_23 H.size) (cwV 3 hw (good_V m_165 m_166 m_167 m_3 m_168) rfl rfl rfl hy_Tree_add ⟨Nat.le_of_ble_eq_true rfl, Nat.le_of_ble_eq_true rfl⟩) hE hP hD hS hA (va_recv hE.1 hP (ci := 2) (q0 := 1) rfl rfl) [1, 2, 3, 4, 5, 6, 7] rfl (by decide) rfl hl rfl (Nat.le_of_ble_eq_true rfl) d_Reader_plainString_64 ⟨Nat.le_of_ble_eq_true rfl, Nat.le_of_ble_eq_true rfl⟩) hP hD hS hA [1, 2, 3, 4, 5, 6, 7] [0, 8, 9] rfl rfl (by decide) (by decide) (fun r_26 u_27 H locs hw_28 hP hD hS => ?_)
          obtain ⟨kf2_29, nf2_30, gf2_31, sf2_32, size2_33⟩ := u_27
          try dsimp only at hw_28
          have h_34 := hw_28
          have hP : va_P G.1 vwCl [(rd, .inr (3, [.ref tr, .ref t, .int y_18])), (tr, .inr (1, [.ref ta, .int tsz])), (ta, .inl (G.2.1 0, 1000, .inl tf)), (t, .inr (2, [.ref ka, .ref na, .ref ga, .ref sa, .ref xr, .int size2_33])), (ka, .inl (G.2.1 0, 1000, .inl kf2_29)), (na, .inl (G.2.1 1, 1000, .inl nf2_30)), (ga, .inl (G.2.1 1, 1000, .inl gf2_31)), (sa, .inl (G.2.1 1, 1000, .inl sf2_32)), (xr, .inr (1, [.ref xa, .int xsz2_23])), (xa, .inl (G.2.1 0, 1000, .inl xf2_23))] H := hP
          have hD : va_D A [(rd, .inr (3, [.ref tr, .ref t, .int y_18])), (tr, .inr (1, [.ref ta, .int tsz])), (ta, .inl (G.2.1 0, 1000, .inl tf)), (t, .inr (2, [.ref ka, .ref na, .ref ga, .ref sa, .ref xr, .int size2_33])), (ka, .inl (G.2.1 0, 1000, .inl kf2_29)), (na, .inl (G.2.1 1, 1000, .inl nf2_30)), (ga, .inl (G.2.1 1, 1000, .inl gf2_31)), (sa, .inl (G.2.1 1, 1000, .inl sf2_32)), (xr, .inr (1, [.ref xa, .int xsz2_23])), (xa, .inl (G.2.1 0, 1000, .inl xf2_23))] := hD
          refine lv_pop hx hb d_Reader_plainString_67 rfl ?_
          refine lv_iconst (v := 1) hx hb d_Reader_plainString_68 (by decide) ?_
          exact ret 1 (y_18, kf2_29, nf2_30, gf2_31, sf2_32, size2_33, xsz2_23, xf2_23) (Nat.le_of_ble_eq_true rfl) (Nat.le_of_ble_eq_true rfl) d_Reader_plainString_69 rfl ⟨h_34, hj1_23, (by first | assumption | decide)⟩ (hP.sub [0, 1, 2, 3, 4, 5, 6, 7, 8, 9] rfl) (hD.sub [0, 1, 2, 3, 4, 5, 6, 7, 8, 9] (by decide) rfl) hS
  refine lv_aload_n hx hb d_Reader_plainString_0 rfl (lv_at hl 0 rfl) ?_
  refine lv_dup hx hb d_Reader_plainString_1 rfl ?_
  refine va_get (D := G.1) (ci := 3) (v := .int at0) (C := R_Reader) (T := F_Reader) (N := 3) hx hb hw i_Reader hown hE.1 hP 0 rfl rfl 2 (by decide) (hw _ m_117) (fun _ h9 => h9) rfl d_Reader_plainString_2 ?_
  refine lv_iconst (v := 1) hx hb d_Reader_plainString_5 (by decide) ?_
  refine lv_iadd hx hb d_Reader_plainString_6 ?_
  refine lv_topi (fun y_35 ey_35 => ?_)
  refine va_put (D := G.1) (ci := 3) (v := .int y_35) (ty := .int) (C := R_Reader) (T := F_Reader) (N := 3) hx hb hw i_Reader t_Reader t_Reader_ok n_Reader hown hE.1 hP hD hS 0 rfl rfl 2 (by decide) (hw _ m_117) (fun _ h9 => h9) rfl (by decide +kernel) rfl rfl (Nat.le_of_ble_eq_true rfl) d_Reader_plainString_7 (fun H locs hP hD hS => ?_)
  have hP : va_P G.1 vwCl [(rd, .inr (3, [.ref tr, .ref t, .int y_35])), (tr, .inr (1, [.ref ta, .int tsz])), (ta, .inl (G.2.1 0, 1000, .inl tf)), (t, .inr (2, [.ref ka, .ref na, .ref ga, .ref sa, .ref xr, .int size])), (ka, .inl (G.2.1 0, 1000, .inl kf)), (na, .inl (G.2.1 1, 1000, .inl nf)), (ga, .inl (G.2.1 1, 1000, .inl gf)), (sa, .inl (G.2.1 1, 1000, .inl sf)), (xr, .inr (1, [.ref xa, .int xsz])), (xa, .inl (G.2.1 0, 1000, .inl xf))] H := hP
  have hD : va_D A [(rd, .inr (3, [.ref tr, .ref t, .int y_35])), (tr, .inr (1, [.ref ta, .int tsz])), (ta, .inl (G.2.1 0, 1000, .inl tf)), (t, .inr (2, [.ref ka, .ref na, .ref ga, .ref sa, .ref xr, .int size])), (ka, .inl (G.2.1 0, 1000, .inl kf)), (na, .inl (G.2.1 1, 1000, .inl nf)), (ga, .inl (G.2.1 1, 1000, .inl gf)), (sa, .inl (G.2.1 1, 1000, .inl sf)), (xr, .inr (1, [.ref xa, .int xsz])), (xa, .inl (G.2.1 0, 1000, .inl xf))] := hD
  refine lv_aload_n hx hb d_Reader_plainString_10 rfl (lv_at hl 0 rfl) ?_
  refine va_get (D := G.1) (ci := 3) (v := .ref t) (C := R_Reader) (T := F_Reader) (N := 3) hx hb hw i_Reader hown hE.1 hP 0 rfl rfl 1 (by decide) (hw _ m_116) (fun _ h9 => h9) rfl d_Reader_plainString_11 ?_
  refine gc_r (wr := [(rd, .inr (3, [.ref tr, .ref t, .int y_35])), (tr, .inr (1, [.ref ta, .int tsz])), (ta, .inl (G.2.1 0, 1000, .inl tf))]) (gc_V (wc := [(t, .inr (2, [.ref ka, .ref na, .ref ga, .ref sa, .ref xr, .int size])), (ka, .inl (G.2.1 0, 1000, .inl kf)), (na, .inl (G.2.1 1, 1000, .inl nf)), (ga, .inl (G.2.1 1, 1000, .inl gf)), (sa, .inl (G.2.1 1, 1000, .inl sf)), (xr, .inr (1, [.ref xa, .int xsz])), (xa, .inl (G.2.1 0, 1000, .inl xf))]) (As := []) (rest := []) ⟨hx, hb, hml, hown, hw⟩ (c_Tree_text l G t ka na ga sa xr xa kf nf gf sf size xsz xf hs hxs H.size) (cwV 0 hw (good_V m_161 m_162 m_163 m_3 m_164) rfl rfl rfl hy_Tree_text ⟨Nat.le_of_ble_eq_true rfl, Nat.le_of_ble_eq_true rfl⟩) hE hP hD hS hA (va_recv hE.1 hP (ci := 2) (q0 := 3) rfl rfl) [3, 4, 5, 6, 7, 8, 9] rfl (by decide) rfl hl rfl (Nat.le_of_ble_eq_true rfl) d_Reader_plainString_14 ⟨Nat.le_of_ble_eq_true rfl, Nat.le_of_ble_eq_true rfl⟩) hP hD hS hA [3, 4, 5, 6, 7, 8, 9] [0, 1, 2] rfl rfl (by decide) (by decide) (fun r_36 u_37 H locs hw_38 hP hD hS => ?_)
  try dsimp only at hw_38
  have h_39 := hw_38
  subst h_39
  have hP : va_P G.1 vwCl [(rd, .inr (3, [.ref tr, .ref t, .int y_35])), (tr, .inr (1, [.ref ta, .int tsz])), (ta, .inl (G.2.1 0, 1000, .inl tf)), (t, .inr (2, [.ref ka, .ref na, .ref ga, .ref sa, .ref xr, .int size])), (ka, .inl (G.2.1 0, 1000, .inl kf)), (na, .inl (G.2.1 1, 1000, .inl nf)), (ga, .inl (G.2.1 1, 1000, .inl gf)), (sa, .inl (G.2.1 1, 1000, .inl sf)), (xr, .inr (1, [.ref xa, .int xsz])), (xa, .inl (G.2.1 0, 1000, .inl xf))] H := hP
  have hD : va_D A [(rd, .inr (3, [.ref tr, .ref t, .int y_35])), (tr, .inr (1, [.ref ta, .int tsz])), (ta, .inl (G.2.1 0, 1000, .inl tf)), (t, .inr (2, [.ref ka, .ref na, .ref ga, .ref sa, .ref xr, .int size])), (ka, .inl (G.2.1 0, 1000, .inl kf)), (na, .inl (G.2.1 1, 1000, .inl nf)), (ga, .inl (G.2.1 1, 1000, .inl gf)), (sa, .inl (G.2.1 1, 1000, .inl sf)), (xr, .inr (1, [.ref xa, .int xsz])), (xa, .inl (G.2.1 0, 1000, .inl xf))] := hD
  refine gc_i (wr := [(rd, .inr (3, [.ref tr, .ref t, .int y_35])), (tr, .inr (1, [.ref ta, .int tsz])), (ta, .inl (G.2.1 0, 1000, .inl tf)), (t, .inr (2, [.ref ka, .ref na, .ref ga, .ref sa, .ref xr, .int size])), (ka, .inl (G.2.1 0, 1000, .inl kf)), (na, .inl (G.2.1 1, 1000, .inl nf)), (ga, .inl (G.2.1 1, 1000, .inl gf)), (sa, .inl (G.2.1 1, 1000, .inl sf))]) (gc_V (wc := [(xr, .inr (1, [.ref xa, .int xsz])), (xa, .inl (G.2.1 0, 1000, .inl xf))]) (As := []) (rest := []) ⟨hx, hb, hml, hown, hw⟩ (c_Row_size l G xr xa 1000 xsz xf (by decide) hxs H.size) (cwV 0 hw (good_V m_142 m_86 m_87 m_2 m_88) rfl rfl rfl hy_Row_size ⟨Nat.le_of_ble_eq_true rfl, Nat.le_of_ble_eq_true rfl⟩) hE hP hD hS hA (va_recv hE.1 hP (ci := 1) (q0 := 8) rfl rfl) [8, 9] rfl (by decide) rfl hl rfl (Nat.le_of_ble_eq_true rfl) d_Reader_plainString_17 ⟨Nat.le_of_ble_eq_true rfl, Nat.le_of_ble_eq_true rfl⟩) hP hD hS hA [8, 9] [0, 1, 2, 3, 4, 5, 6, 7] rfl rfl (by decide) (by decide) (fun r_40 u_41 H locs hw_42 hP hD hS => ?_)
  try dsimp only at hw_42
  have h_43 := hw_42
  subst h_43
  have hP : va_P G.1 vwCl [(rd, .inr (3, [.ref tr, .ref t, .int y_35])), (tr, .inr (1, [.ref ta, .int tsz])), (ta, .inl (G.2.1 0, 1000, .inl tf)), (t, .inr (2, [.ref ka, .ref na, .ref ga, .ref sa, .ref xr, .int size])), (ka, .inl (G.2.1 0, 1000, .inl kf)), (na, .inl (G.2.1 1, 1000, .inl nf)), (ga, .inl (G.2.1 1, 1000, .inl gf)), (sa, .inl (G.2.1 1, 1000, .inl sf)), (xr, .inr (1, [.ref xa, .int xsz])), (xa, .inl (G.2.1 0, 1000, .inl xf))] H := hP
  have hD : va_D A [(rd, .inr (3, [.ref tr, .ref t, .int y_35])), (tr, .inr (1, [.ref ta, .int tsz])), (ta, .inl (G.2.1 0, 1000, .inl tf)), (t, .inr (2, [.ref ka, .ref na, .ref ga, .ref sa, .ref xr, .int size])), (ka, .inl (G.2.1 0, 1000, .inl kf)), (na, .inl (G.2.1 1, 1000, .inl nf)), (ga, .inl (G.2.1 1, 1000, .inl gf)), (sa, .inl (G.2.1 1, 1000, .inl sf)), (xr, .inr (1, [.ref xa, .int xsz])), (xa, .inl (G.2.1 0, 1000, .inl xf))] := hD
  refine lv_istore_n (lv' := [(1, .int xsz), (0, .ref rd)]) hx hb d_Reader_plainString_20 rfl hl (by decide) rfl (fun ls hl => ?_)
  refine lv_iconst (v := 0) hx hb d_Reader_plainString_21 (by decide) ?_
  refine lv_istore_n (lv' := [(2, .int 0), (1, .int xsz), (0, .ref rd)]) hx hb d_Reader_plainString_22 rfl hl (by decide) rfl (fun ls hl => ?_)
  exact J_23 _ 0 y_35 kf nf gf sf size xsz xf hs hxs (Nat.lt_succ_self _) _ _ (hP.sub [0, 1, 2, 3, 4, 5, 6, 7, 8, 9] rfl) (hD.sub [0, 1, 2, 3, 4, 5, 6, 7, 8, 9] (by decide) rfl) hS _ (lv_sub hl [0, 1, 2] rfl)
def rm_Reader_hexString : Room := { frames := 2, cells := 0, slots := 0, locals := 43 }
set_option maxHeartbeats 4000000 in
set_option maxRecDepth 100000 in
theorem c_Reader_hexString (l : Launch) (G : GG) (rd : Nat) (at0 : Int32) (tr : Nat) (ta : Nat) (tsz : Int32) (tf : Nat → Int32) (t : Nat) (ka : Nat) (na : Nat) (ga : Nat) (sa : Nat) (xr : Nat) (xa : Nat) (kf : Nat → Int32) (nf : Nat → Int32) (gf : Nat → Int32) (sf : Nat → Int32) (size : Int32) (xsz : Int32) (xf : Nat → Int32) (htp : RowOk 1000 tsz) (hs : RowOk 1000 size) (hxs : RowOk 1000 xsz) : MI l y_Reader_hexString b_Reader_hexString 5 .boolean rm_Reader_hexString G [.ref rd] [(rd, .inr (3, [.ref tr, .ref t, .int at0])), (tr, .inr (1, [.ref ta, .int tsz])), (ta, .inl (G.2.1 0, 1000, .inl tf)), (t, .inr (2, [.ref ka, .ref na, .ref ga, .ref sa, .ref xr, .int size])), (ka, .inl (G.2.1 0, 1000, .inl kf)), (na, .inl (G.2.1 1, 1000, .inl nf)), (ga, .inl (G.2.1 1, 1000, .inl gf)), (sa, .inl (G.2.1 1, 1000, .inl sf)), (xr, .inr (1, [.ref xa, .int xsz])), (xa, .inl (G.2.1 0, 1000, .inl xf))] (fun (v : Int32) (u : Int32 × (Nat → Int32) × (Nat → Int32) × (Nat → Int32) × (Nat → Int32) × Int32 × Int32 × (Nat → Int32)) => (RowOk 1000 u.2.2.2.2.2.1) ∧ (RowOk 1000 u.2.2.2.2.2.2.1) ∧ (v = 0 ∨ v = 1)) (fun (u : Int32 × (Nat → Int32) × (Nat → Int32) × (Nat → Int32) × (Nat → Int32) × Int32 × Int32 × (Nat → Int32)) => [(rd, .inr (3, [.ref tr, .ref t, .int u.1])), (tr, .inr (1, [.ref ta, .int tsz])), (ta, .inl (G.2.1 0, 1000, .inl tf)), (t, .inr (2, [.ref ka, .ref na, .ref ga, .ref sa, .ref xr, .int u.2.2.2.2.2.1])), (ka, .inl (G.2.1 0, 1000, .inl u.2.1)), (na, .inl (G.2.1 1, 1000, .inl u.2.2.1)), (ga, .inl (G.2.1 1, 1000, .inl u.2.2.2.1)), (sa, .inl (G.2.1 1, 1000, .inl u.2.2.2.2.1)), (xr, .inr (1, [.ref xa, .int u.2.2.2.2.2.2.1])), (xa, .inl (G.2.1 0, 1000, .inl u.2.2.2.2.2.2.2))]) 0 0 := by
  refine MI.of (cc := b_Reader_hexString) (maxL := 5) (ty := .boolean) (C := R_Reader) (by decide +kernel) rfl (Nat.le_of_ble_eq_true rfl) ?_
  intro p e s m args below meth c A Q H ls hx hb hml hown hw hE hA hP hD hS ret hl
  have hl : lv_has ls 5 [(0, .ref rd)] := hl
  have J_23 : ∀ (fu : Nat) (x2_23 : Int32) (at2_23 : Int32) (kf2_23 : Nat → Int32) (nf2_23 : Nat → Int32) (gf2_23 : Nat → Int32) (sf2_23 : Nat → Int32) (size2_23 : Int32) (xsz2_23 : Int32) (xf2_23 : Nat → Int32) (hj0_23 : RowOk 1000 size2_23) (hj1_23 : RowOk 1000 xsz2_23), ((100 : Int32).toInt + 1 - x2_23.toInt).toNat < fu → ∀ (H : Heap) (locs : List Loc), va_P G.1 vwCl [(rd, .inr (3, [.ref tr, .ref t, .int at2_23])), (tr, .inr (1, [.ref ta, .int tsz])), (ta, .inl (G.2.1 0, 1000, .inl tf)), (t, .inr (2, [.ref ka, .ref na, .ref ga, .ref sa, .ref xr, .int size2_23])), (ka, .inl (G.2.1 0, 1000, .inl kf2_23)), (na, .inl (G.2.1 1, 1000, .inl nf2_23)), (ga, .inl (G.2.1 1, 1000, .inl gf2_23)), (sa, .inl (G.2.1 1, 1000, .inl sf2_23)), (xr, .inr (1, [.ref xa, .int xsz2_23])), (xa, .inl (G.2.1 0, 1000, .inl xf2_23))] H → va_D A [(rd, .inr (3, [.ref tr, .ref t, .int at2_23])), (tr, .inr (1, [.ref ta, .int tsz])), (ta, .inl (G.2.1 0, 1000, .inl tf)), (t, .inr (2, [.ref ka, .ref na, .ref ga, .ref sa, .ref xr, .int size2_23])), (ka, .inl (G.2.1 0, 1000, .inl kf2_23)), (na, .inl (G.2.1 1, 1000, .inl nf2_23)), (ga, .inl (G.2.1 1, 1000, .inl gf2_23)), (sa, .inl (G.2.1 1, 1000, .inl sf2_23)), (xr, .inr (1, [.ref xa, .int xsz2_23])), (xa, .inl (G.2.1 0, 1000, .inl xf2_23))] → va_S A s.heap H locs → ∀ ls : Array Slot, lv_has ls 5 [(2, .int x2_23), (1, .int xsz), (0, .ref rd)] → W p l e rm_Reader_hexString s m args below meth c H locs 0 0 Q (F0 m 23 ls []) := by
    intro fu
    induction fu with
    | zero =>
      intro x2_23 at2_23 kf2_23 nf2_23 gf2_23 sf2_23 size2_23 xsz2_23 xf2_23 hj0_23 hj1_23 hm
      exact absurd hm (Nat.not_lt_zero _)
    | succ fu ih_23 =>
      intro x2_23 at2_23 kf2_23 nf2_23 gf2_23 sf2_23 size2_23 xsz2_23 xf2_23 hj0_23 hj1_23 hm_23 H locs hP hD hS ls hl
      refine lv_iload_n hx hb d_Reader_hexString_23 rfl (lv_at hl 0 rfl) ?_
      refine lv_bipush (v := 100) hx hb d_Reader_hexString_24 (by decide) ?_
      refine lv_icmp_gt (tgt := 133) hx hb d_Reader_hexString_26 (by decide) (fun c_1 => ?_) (fun c_1 => ?_)
      · refine lv_iconst (v := 0) hx hb d_Reader_hexString_133 (by decide) ?_
        exact ret 0 (at2_23, kf2_23, nf2_23, gf2_23, sf2_23, size2_23, xsz2_23, xf2_23) (Nat.le_of_ble_eq_true rfl) (Nat.le_of_ble_eq_true rfl) d_Reader_hexString_134 rfl ⟨hj0_23, hj1_23, (by first | assumption | decide)⟩ (hP.sub [0, 1, 2, 3, 4, 5, 6, 7, 8, 9] rfl) (hD.sub [0, 1, 2, 3, 4, 5, 6, 7, 8, 9] (by decide) rfl) hS
      · refine lv_aload_n hx hb d_Reader_hexString_29 rfl (lv_at hl 2 rfl) ?_
        refine va_get (D := G.1) (ci := 3) (v := .ref tr) (C := R_Reader) (T := F_Reader) (N := 3) hx hb hw i_Reader hown hE.1 hP 0 rfl rfl 0 (by decide) (hw _ m_115) (fun _ h9 => h9) rfl d_Reader_hexString_30 ?_
        refine lv_aload_n hx hb d_Reader_hexString_33 rfl (lv_at hl 2 rfl) ?_
        refine va_get (D := G.1) (ci := 3) (v := .int at2_23) (C := R_Reader) (T := F_Reader) (N := 3) hx hb hw i_Reader hown hE.1 hP 0 rfl rfl 2 (by decide) (hw _ m_117) (fun _ h9 => h9) rfl d_Reader_hexString_34 ?_
        refine gc_i (wr := [(rd, .inr (3, [.ref tr, .ref t, .int at2_23])), (t, .inr (2, [.ref ka, .ref na, .ref ga, .ref sa, .ref xr, .int size2_23])), (ka, .inl (G.2.1 0, 1000, .inl kf2_23)), (na, .inl (G.2.1 1, 1000, .inl nf2_23)), (ga, .inl (G.2.1 1, 1000, .inl gf2_23)), (sa, .inl (G.2.1 1, 1000, .inl sf2_23)), (xr, .inr (1, [.ref xa, .int xsz2_23])), (xa, .inl (G.2.1 0, 1000, .inl xf2_23))]) (gc_V (wc := [(tr, .inr (1, [.ref ta, .int tsz])), (ta, .inl (G.2.1 0, 1000, .inl tf))]) (As := [.int at2_23]) (rest := []) ⟨hx, hb, hml, hown, hw⟩ (c_Row_get l G tr ta 1000 tsz tf at2_23 (by decide) htp H.size) (cwV 1 hw (good_V m_143 m_144 m_145 m_2 m_146) rfl rfl rfl hy_Row_get ⟨Nat.le_of_ble_eq_true rfl, Nat.le_of_ble_eq_true rfl⟩) hE hP hD hS hA (va_recv hE.1 hP (ci := 1) (q0 := 1) rfl rfl) [1, 2] rfl (by decide) rfl hl rfl (Nat.le_of_ble_eq_true rfl) d_Reader_hexString_37 ⟨Nat.le_of_ble_eq_true rfl, Nat.le_of_ble_eq_true rfl⟩) hP hD hS hA [1, 2] [0, 3, 4, 5, 6, 7, 8, 9] rfl rfl (by decide) (by decide) (fun r_2 u_3 H locs hw_4 hP hD hS => ?_)
        have hP : va_P G.1 vwCl [(rd, .inr (3, [.ref tr, .ref t, .int at2_23])), (t, .inr (2, [.ref ka, .ref na, .ref ga, .ref sa, .ref xr, .int size2_23])), (ka, .inl (G.2.1 0, 1000, .inl kf2_23)), (na, .inl (G.2.1 1, 1000, .inl nf2_23)), (ga, .inl (G.2.1 1, 1000, .inl gf2_23)), (sa, .inl (G.2.1 1, 1000, .inl sf2_23)), (xr, .inr (1, [.ref xa, .int xsz2_23])), (xa, .inl (G.2.1 0, 1000, .inl xf2_23)), (tr, .inr (1, [.ref ta, .int tsz])), (ta, .inl (G.2.1 0, 1000, .inl tf))] H := hP
        have hD : va_D A [(rd, .inr (3, [.ref tr, .ref t, .int at2_23])), (t, .inr (2, [.ref ka, .ref na, .ref ga, .ref sa, .ref xr, .int size2_23])), (ka, .inl (G.2.1 0, 1000, .inl kf2_23)), (na, .inl (G.2.1 1, 1000, .inl nf2_23)), (ga, .inl (G.2.1 1, 1000, .inl gf2_23)), (sa, .inl (G.2.1 1, 1000, .inl sf2_23)), (xr, .inr (1, [.ref xa, .int xsz2_23])), (xa, .inl (G.2.1 0, 1000, .inl xf2_23)), (tr, .inr (1, [.ref ta, .int tsz])), (ta, .inl (G.2.1 0, 1000, .inl tf))] := hD
        refine lv_bipush (v := 62) hx hb d_Reader_hexString_40 (by decide) ?_
        refine lv_icmp_ne (tgt := 68) hx hb d_Reader_hexString_42 (by decide) (fun c_5 => ?_) (fun c_5 => ?_)
        · refine lv_aload_n hx hb d_Reader_hexString_68 rfl (lv_at hl 2 rfl) ?_
          refine lv_aload_n hx hb d_Reader_hexString_69 rfl (lv_at hl 2 rfl) ?_
          refine va_get (D := G.1) (ci := 3) (v := .int at2_23) (C := R_Reader) (T := F_Reader) (N := 3) hx hb hw i_Reader hown hE.1 hP 0 rfl rfl 2 (by decide) (hw _ m_117) (fun _ h9 => h9) rfl d_Reader_hexString_70 ?_
          refine gc_i (wr := [(t, .inr (2, [.ref ka, .ref na, .ref ga, .ref sa, .ref xr, .int size2_23])), (ka, .inl (G.2.1 0, 1000, .inl kf2_23)), (na, .inl (G.2.1 1, 1000, .inl nf2_23)), (ga, .inl (G.2.1 1, 1000, .inl gf2_23)), (sa, .inl (G.2.1 1, 1000, .inl sf2_23)), (xr, .inr (1, [.ref xa, .int xsz2_23])), (xa, .inl (G.2.1 0, 1000, .inl xf2_23))]) (gc_V (wc := [(rd, .inr (3, [.ref tr, .ref t, .int at2_23])), (tr, .inr (1, [.ref ta, .int tsz])), (ta, .inl (G.2.1 0, 1000, .inl tf))]) (As := [.int at2_23]) (rest := []) ⟨hx, hb, hml, hown, hw⟩ (c_Reader_hexDigit l G rd t at2_23 tr ta tsz tf at2_23 htp H.size) (cwV 1 hw (good_V m_227 m_229 ms_10 m_5 m_230) rfl rfl rfl hy_Reader_hexDigit ⟨Nat.le_of_ble_eq_true rfl, Nat.le_of_ble_eq_true rfl⟩) hE hP hD hS hA (va_recv hE.1 hP (ci := 3) (q0 := 0) rfl rfl) [0, 8, 9] rfl (by decide) rfl hl rfl (Nat.le_of_ble_eq_true rfl) d_Reader_hexString_73 ⟨Nat.le_of_ble_eq_true rfl, Nat.le_of_ble_eq_true rfl⟩) hP hD hS hA [0, 8, 9] [1, 2, 3, 4, 5, 6, 7] rfl rfl (by decide) (by decide) (fun r_6 u_7 H locs hw_8 hP hD hS => ?_)
          have hP : va_P G.1 vwCl [(t, .inr (2, [.ref ka, .ref na, .ref ga, .ref sa, .ref xr, .int size2_23])), (ka, .inl (G.2.1 0, 1000, .inl kf2_23)), (na, .inl (G.2.1 1, 1000, .inl nf2_23)), (ga, .inl (G.2.1 1, 1000, .inl gf2_23)), (sa, .inl (G.2.1 1, 1000, .inl sf2_23)), (xr, .inr (1, [.ref xa, .int xsz2_23])), (xa, .inl (G.2.1 0, 1000, .inl xf2_23)), (rd, .inr (3, [.ref tr, .ref t, .int at2_23])), (tr, .inr (1, [.ref ta, .int tsz])), (ta, .inl (G.2.1 0, 1000, .inl tf))] H := hP
          have hD : va_D A [(t, .inr (2, [.ref ka, .ref na, .ref ga, .ref sa, .ref xr, .int size2_23])), (ka, .inl (G.2.1 0, 1000, .inl kf2_23)), (na, .inl (G.2.1 1, 1000, .inl nf2_23)), (ga, .inl (G.2.1 1, 1000, .inl gf2_23)), (sa, .inl (G.2.1 1, 1000, .inl sf2_23)), (xr, .inr (1, [.ref xa, .int xsz2_23])), (xa, .inl (G.2.1 0, 1000, .inl xf2_23)), (rd, .inr (3, [.ref tr, .ref t, .int at2_23])), (tr, .inr (1, [.ref ta, .int tsz])), (ta, .inl (G.2.1 0, 1000, .inl tf))] := hD
          refine lv_istore_n (lv' := [(3, .int r_6), (2, .int x2_23), (1, .int xsz), (0, .ref rd)]) hx hb d_Reader_hexString_76 rfl hl (by decide) rfl (fun ls hl => ?_)
          refine lv_aload_n hx hb d_Reader_hexString_77 rfl (lv_at hl 3 rfl) ?_
          refine lv_aload_n hx hb d_Reader_hexString_78 rfl (lv_at hl 3 rfl) ?_
          refine va_get (D := G.1) (ci := 3) (v := .int at2_23) (C := R_Reader) (T := F_Reader) (N := 3) hx hb hw i_Reader hown hE.1 hP 7 rfl rfl 2 (by decide) (hw _ m_117) (fun _ h9 => h9) rfl d_Reader_hexString_79 ?_
          refine lv_iconst (v := 1) hx hb d_Reader_hexString_82 (by decide) ?_
          refine lv_iadd hx hb d_Reader_hexString_83 ?_
          refine lv_topi (fun y_9 ey_9 => ?_)
          refine gc_i (wr := [(t, .inr (2, [.ref ka, .ref na, .ref ga, .ref sa, .ref xr, .int size2_23])), (ka, .inl (G.2.1 0, 1000, .inl kf2_23)), (na, .inl (G.2.1 1, 1000, .inl nf2_23)), (ga, .inl (G.2.1 1, 1000, .inl gf2_23)), (sa, .inl (G.2.1 1, 1000, .inl sf2_23)), (xr, .inr (1, [.ref xa, .int xsz2_23])), (xa, .inl (G.2.1 0, 1000, .inl xf2_23))]) (gc_V (wc := [(rd, .inr (3, [.ref tr, .ref t, .int at2_23])), (tr, .inr (1, [.ref ta, .int tsz])), (ta, .inl (G.2.1 0, 1000, .inl tf))]) (As := [.int y_9]) (rest := []) ⟨hx, hb, hml, hown, hw⟩ (c_Reader_hexDigit l G rd t at2_23 tr ta tsz tf y_9 htp H.size) (cwV 1 hw (good_V m_227 m_229 ms_10 m_5 m_230) rfl rfl rfl hy_Reader_hexDigit ⟨Nat.le_of_ble_eq_true rfl, Nat.le_of_ble_eq_true rfl⟩) hE hP hD hS hA (va_recv hE.1 hP (ci := 3) (q0 := 7) rfl rfl) [7, 8, 9] rfl (by decide) rfl hl rfl (Nat.le_of_ble_eq_true rfl) d_Reader_hexString_84 ⟨Nat.le_of_ble_eq_true rfl, Nat.le_of_ble_eq_true rfl⟩) hP hD hS hA [7, 8, 9] [0, 1, 2, 3, 4, 5, 6] rfl rfl (by decide) (by decide) (fun r_10 u_11 H locs hw_12 hP hD hS => ?_)
          have hP : va_P G.1 vwCl [(t, .inr (2, [.ref ka, .ref na, .ref ga, .ref sa, .ref xr, .int size2_23])), (ka, .inl (G.2.1 0, 1000, .inl kf2_23)), (na, .inl (G.2.1 1, 1000, .inl nf2_23)), (ga, .inl (G.2.1 1, 1000, .inl gf2_23)), (sa, .inl (G.2.1 1, 1000, .inl sf2_23)), (xr, .inr (1, [.ref xa, .int xsz2_23])), (xa, .inl (G.2.1 0, 1000, .inl xf2_23)), (rd, .inr (3, [.ref tr, .ref t, .int at2_23])), (tr, .inr (1, [.ref ta, .int tsz])), (ta, .inl (G.2.1 0, 1000, .inl tf))] H := hP
          have hD : va_D A [(t, .inr (2, [.ref ka, .ref na, .ref ga, .ref sa, .ref xr, .int size2_23])), (ka, .inl (G.2.1 0, 1000, .inl kf2_23)), (na, .inl (G.2.1 1, 1000, .inl nf2_23)), (ga, .inl (G.2.1 1, 1000, .inl gf2_23)), (sa, .inl (G.2.1 1, 1000, .inl sf2_23)), (xr, .inr (1, [.ref xa, .int xsz2_23])), (xa, .inl (G.2.1 0, 1000, .inl xf2_23)), (rd, .inr (3, [.ref tr, .ref t, .int at2_23])), (tr, .inr (1, [.ref ta, .int tsz])), (ta, .inl (G.2.1 0, 1000, .inl tf))] := hD
          refine lv_istore (lv' := [(4, .int r_10), (3, .int r_6), (2, .int x2_23), (1, .int xsz), (0, .ref rd)]) hx hb d_Reader_hexString_87 hl (by decide) rfl (fun ls hl => ?_)
          refine lv_iload_n hx hb d_Reader_hexString_89 rfl (lv_at hl 1 rfl) ?_
          refine lv_if_lt (tgt := 98) hx hb d_Reader_hexString_90 (by decide) (fun c_13 => ?_) (fun c_13 => ?_)
          · refine lv_iconst (v := 0) hx hb d_Reader_hexString_98 (by decide) ?_
            exact ret 0 (at2_23, kf2_23, nf2_23, gf2_23, sf2_23, size2_23, xsz2_23, xf2_23) (Nat.le_of_ble_eq_true rfl) (Nat.le_of_ble_eq_true rfl) d_Reader_hexString_99 rfl ⟨hj0_23, hj1_23, (by first | assumption | decide)⟩ (hP.sub [7, 8, 9, 0, 1, 2, 3, 4, 5, 6] rfl) (hD.sub [7, 8, 9, 0, 1, 2, 3, 4, 5, 6] (by decide) rfl) hS
          · refine lv_iload hx hb d_Reader_hexString_93 (lv_at hl 0 rfl) ?_
            refine lv_if_ge (tgt := 100) hx hb d_Reader_hexString_95 (by decide) (fun c_14 => ?_) (fun c_14 => ?_)
            · refine lv_aload_n hx hb d_Reader_hexString_100 rfl (lv_at hl 4 rfl) ?_
              refine lv_dup hx hb d_Reader_hexString_101 rfl ?_
              refine va_get (D := G.1) (ci := 3) (v := .int at2_23) (C := R_Reader) (T := F_Reader) (N := 3) hx hb hw i_Reader hown hE.1 hP 7 rfl rfl 2 (by decide) (hw _ m_117) (fun _ h9 => h9) rfl d_Reader_hexString_102 ?_
              refine lv_iconst (v := 2) hx hb d_Reader_hexString_105 (by decide) ?_
              refine lv_iadd hx hb d_Reader_hexString_106 ?_
              refine lv_topi (fun y_15 ey_15 => ?_)
              refine va_put (D := G.1) (ci := 3) (v := .int y_15) (ty := .int) (C := R_Reader) (T := F_Reader) (N := 3) hx hb hw i_Reader t_Reader t_Reader_ok n_Reader hown hE.1 hP hD hS 7 rfl rfl 2 (by decide) (hw _ m_117) (fun _ h9 => h9) rfl (by decide +kernel) rfl rfl (Nat.le_of_ble_eq_true rfl) d_Reader_hexString_107 (fun H locs hP hD hS => ?_)
              have hP : va_P G.1 vwCl [(t, .inr (2, [.ref ka, .ref na, .ref ga, .ref sa, .ref xr, .int size2_23])), (ka, .inl (G.2.1 0, 1000, .inl kf2_23)), (na, .inl (G.2.1 1, 1000, .inl nf2_23)), (ga, .inl (G.2.1 1, 1000, .inl gf2_23)), (sa, .inl (G.2.1 1, 1000, .inl sf2_23)), (xr, .inr (1, [.ref xa, .int xsz2_23])), (xa, .inl (G.2.1 0, 1000, .inl xf2_23)), (rd, .inr (3, [.ref tr, .ref t, .int y_15])), (tr, .inr (1, [.ref ta, .int tsz])), (ta, .inl (G.2.1 0, 1000, .inl tf))] H := hP
              have hD : va_D A [(t, .inr (2, [.ref ka, .ref na, .ref ga, .ref sa, .ref xr, .int size2_23])), (ka, .inl (G.2.1 0, 1000, .inl kf2_23)), (na, .inl (G.2.1 1, 1000, .inl nf2_23)), (ga, .inl (G.2.1 1, 1000, .inl gf2_23)), (sa, .inl (G.2.1 1, 1000, .inl sf2_23)), (xr, .inr (1, [.ref xa, .int xsz2_23])), (xa, .inl (G.2.1 0, 1000, .inl xf2_23)), (rd, .inr (3, [.ref tr, .ref t, .int y_15])), (tr, .inr (1, [.ref ta, .int tsz])), (ta, .inl (G.2.1 0, 1000, .inl tf))] := hD
              refine lv_aload_n hx hb d_Reader_hexString_110 rfl (lv_at hl 4 rfl) ?_
              refine va_get (D := G.1) (ci := 3) (v := .ref t) (C := R_Reader) (T := F_Reader) (N := 3) hx hb hw i_Reader hown hE.1 hP 7 rfl rfl 1 (by decide) (hw _ m_116) (fun _ h9 => h9) rfl d_Reader_hexString_111 ?_
              refine gc_r (wr := [(rd, .inr (3, [.ref tr, .ref t, .int y_15])), (tr, .inr (1, [.ref ta, .int tsz])), (ta, .inl (G.2.1 0, 1000, .inl tf))]) (gc_V (wc := [(t, .inr (2, [.ref ka, .ref na, .ref ga, .ref sa, .ref xr, .int size2_23])), (ka, .inl (G.2.1 0, 1000, .inl kf2_23)), (na, .inl (G.2.1 1, 1000, .inl nf2_23)), (ga, .inl (G.2.1 1, 1000, .inl gf2_23)), (sa, .inl (G.2.1 1, 1000, .inl sf2_23)), (xr, .inr (1, [.ref xa, .int xsz2_23])), (xa, .inl (G.2.1 0, 1000, .inl xf2_23))]) (As := []) (rest := []) ⟨hx, hb, hml, hown, hw⟩ (c_Tree_text l G t ka na ga sa xr xa kf2_23 nf2_23 gf2_23 sf2_23 size2_23 xsz2_23 xf2_23 hj0_23 hj1_23 H.size) (cwV 0 hw (good_V m_161 m_162 m_163 m_3 m_164) rfl rfl rfl hy_Tree_text ⟨Nat.le_of_ble_eq_true rfl, Nat.le_of_ble_eq_true rfl⟩) hE hP hD hS hA (va_recv hE.1 hP (ci := 2) (q0 := 0) rfl rfl) [0, 1, 2, 3, 4, 5, 6] rfl (by decide) rfl hl rfl (Nat.le_of_ble_eq_true rfl) d_Reader_hexString_114 ⟨Nat.le_of_ble_eq_true rfl, Nat.le_of_ble_eq_true rfl⟩) hP hD hS hA [0, 1, 2, 3, 4, 5, 6] [7, 8, 9] rfl rfl (by decide) (by decide) (fun r_16 u_17 H locs hw_18 hP hD hS => ?_)
              try dsimp only at hw_18
              have h_19 := hw_18
              subst h_19
              have hP : va_P G.1 vwCl [(rd, .inr (3, [.ref tr, .ref t, .int y_15])), (tr, .inr (1, [.ref ta, .int tsz])), (ta, .inl (G.2.1 0, 1000, .inl tf)), (t, .inr (2, [.ref ka, .ref na, .ref ga, .ref sa, .ref xr, .int size2_23])), (ka, .inl (G.2.1 0, 1000, .inl kf2_23)), (na, .inl (G.2.1 1, 1000, .inl nf2_23)), (ga, .inl (G.2.1 1, 1000, .inl gf2_23)), (sa, .inl (G.2.1 1, 1000, .inl sf2_23)), (xr, .inr (1, [.ref xa, .int xsz2_23])), (xa, .inl (G.2.1 0, 1000, .inl xf2_23))] H := hP
              have hD : va_D A [(rd, .inr (3, [.ref tr, .ref t, .int y_15])), (tr, .inr (1, [.ref ta, .int tsz])), (ta, .inl (G.2.1 0, 1000, .inl tf)), (t, .inr (2, [.ref ka, .ref na, .ref ga, .ref sa, .ref xr, .int size2_23])), (ka, .inl (G.2.1 0, 1000, .inl kf2_23)), (na, .inl (G.2.1 1, 1000, .inl nf2_23)), (ga, .inl (G.2.1 1, 1000, .inl gf2_23)), (sa, .inl (G.2.1 1, 1000, .inl sf2_23)), (xr, .inr (1, [.ref xa, .int xsz2_23])), (xa, .inl (G.2.1 0, 1000, .inl xf2_23))] := hD
              refine lv_iload_n hx hb d_Reader_hexString_117 rfl (lv_at hl 1 rfl) ?_
              refine lv_bipush (v := 16) hx hb d_Reader_hexString_118 (by decide) ?_
              refine lv_imul hx hb d_Reader_hexString_120 ?_
              refine lv_topi (fun y_20 ey_20 => ?_)
              refine lv_iload hx hb d_Reader_hexString_121 (lv_at hl 0 rfl) ?_
              refine lv_iadd hx hb d_Reader_hexString_123 ?_
              refine lv_topi (fun y_21 ey_21 => ?_)
              refine gc_v (wr := [(rd, .inr (3, [.ref tr, .ref t, .int y_15])), (tr, .inr (1, [.ref ta, .int tsz])), (ta, .inl (G.2.1 0, 1000, .inl tf)), (t, .inr (2, [.ref ka, .ref na, .ref ga, .ref sa, .ref xr, .int size2_23])), (ka, .inl (G.2.1 0, 1000, .inl kf2_23)), (na, .inl (G.2.1 1, 1000, .inl nf2_23)), (ga, .inl (G.2.1 1, 1000, .inl gf2_23)), (sa, .inl (G.2.1 1, 1000, .inl sf2_23))]) (gc_V (wc := [(xr, .inr (1, [.ref xa, .int xsz2_23])), (xa, .inl (G.2.1 0, 1000, .inl xf2_23))]) (As := [.int y_21]) (rest := []) ⟨hx, hb, hml, hown, hw⟩ (c_Row_add l G xr xa 1000 xsz2_23 xf2_23 y_21 (by decide) hj1_23 H.size) (cwV 1 hw (good_V m_186 m_94 m_95 m_2 m_96) rfl rfl rfl hy_Row_add ⟨Nat.le_of_ble_eq_true rfl, Nat.le_of_ble_eq_true rfl⟩) hE hP hD hS hA (va_recv hE.1 hP (ci := 1) (q0 := 8) rfl rfl) [8, 9] rfl (by decide) rfl hl rfl (Nat.le_of_ble_eq_true rfl) d_Reader_hexString_124 ⟨Nat.le_of_ble_eq_true rfl, Nat.le_of_ble_eq_true rfl⟩) hP hD hS hA [8, 9] [0, 1, 2, 3, 4, 5, 6, 7] rfl rfl (by decide) (by decide) (fun u_23 H locs hw_24 hP hD hS => ?_)
              obtain ⟨sz2_25, f2_26⟩ := u_23
              try dsimp only at hw_24
              obtain ⟨h_27, h_28⟩ := hw_24
              have hP : va_P G.1 vwCl [(rd, .inr (3, [.ref tr, .ref t, .int y_15])), (tr, .inr (1, [.ref ta, .int tsz])), (ta, .inl (G.2.1 0, 1000, .inl tf)), (t, .inr (2, [.ref ka, .ref na, .ref ga, .ref sa, .ref xr, .int size2_23])), (ka, .inl (G.2.1 0, 1000, .inl kf2_23)), (na, .inl (G.2.1 1, 1000, .inl nf2_23)), (ga, .inl (G.2.1 1, 1000, .inl gf2_23)), (sa, .inl (G.2.1 1, 1000, .inl sf2_23)), (xr, .inr (1, [.ref xa, .int sz2_25])), (xa, .inl (G.2.1 0, 1000, .inl f2_26))] H := hP
              have hD : va_D A [(rd, .inr (3, [.ref tr, .ref t, .int y_15])), (tr, .inr (1, [.ref ta, .int tsz])), (ta, .inl (G.2.1 0, 1000, .inl tf)), (t, .inr (2, [.ref ka, .ref na, .ref ga, .ref sa, .ref xr, .int size2_23])), (ka, .inl (G.2.1 0, 1000, .inl kf2_23)), (na, .inl (G.2.1 1, 1000, .inl nf2_23)), (ga, .inl (G.2.1 1, 1000, .inl gf2_23)), (sa, .inl (G.2.1 1, 1000, .inl sf2_23)), (xr, .inr (1, [.ref xa, .int sz2_25])), (xa, .inl (G.2.1 0, 1000, .inl f2_26))] := hD
              obtain ⟨y_29, ey_29⟩ : ∃ y : Int32, y = x2_23 + 1 := ⟨_, rfl⟩
              refine lv_iinc (v := y_29) (lv' := [(2, .int y_29), (4, .int r_10), (3, .int r_6), (1, .int xsz), (0, .ref rd)]) hx hb d_Reader_hexString_127 hl (k := 2) rfl (by rw [ey_29]; rfl) (by decide) rfl (fun ls hl => ?_)
              refine lv_goto (tgt := 23) hx hb d_Reader_hexString_130 (by decide) ?_
              exact ih_23 y_29 y_15 kf2_23 nf2_23 gf2_23 sf2_23 size2_23 sz2_25 f2_26 hj0_23 h_27 (ms_upe (B := 100) (by assumption) (by assumption) (by decide) hm_23) _ _ (hP.sub [0, 1, 2, 3, 4, 5, 6, 7, 8, 9] rfl) (hD.sub [0, 1, 2, 3, 4, 5, 6, 7, 8, 9] (by decide) rfl) hS _ (lv_sub hl [0, 3, 4] rfl)
            · refine lv_iconst (v := 0) hx hb d_Reader_hexString_98 (by decide) ?_
              exact ret 0 (at2_23, kf2_23, nf2_23, gf2_23, sf2_23, size2_23, xsz2_23, xf2_23) (Nat.le_of_ble_eq_true rfl) (Nat.le_of_ble_eq_true rfl) d_Reader_hexString_99 rfl ⟨hj0_23, hj1_23, (by first | assumption | decide)⟩ (hP.sub [7, 8, 9, 0, 1, 2, 3, 4, 5, 6] rfl) (hD.sub [7, 8, 9, 0, 1, 2, 3, 4, 5, 6] (by decide) rfl) hS
        · refine lv_aload_n hx hb d_Reader_hexString_45 rfl (lv_at hl 2 rfl) ?_
          refine lv_dup hx hb d_Reader_hexString_46 rfl ?_
          refine va_get (D := G.1) (ci := 3) (v := .int at2_23) (C := R_Reader) (T := F_Reader) (N := 3) hx hb hw i_Reader hown hE.1 hP 0 rfl rfl 2 (by decide) (hw _ m_117) (fun _ h9 => h9) rfl d_Reader_hexString_47 ?_
          refine lv_iconst (v := 1) hx hb d_Reader_hexString_50 (by decide) ?_
          refine lv_iadd hx hb d_Reader_hexString_51 ?_
          refine lv_topi (fun y_30 ey_30 => ?_)
          refine va_put (D := G.1) (ci := 3) (v := .int y_30) (ty := .int) (C := R_Reader) (T := F_Reader) (N := 3) hx hb hw i_Reader t_Reader t_Reader_ok n_Reader hown hE.1 hP hD hS 0 rfl rfl 2 (by decide) (hw _ m_117) (fun _ h9 => h9) rfl (by decide +kernel) rfl rfl (Nat.le_of_ble_eq_true rfl) d_Reader_hexString_52 (fun H locs hP hD hS => ?_)
          have hP : va_P G.1 vwCl [(rd, .inr (3, [.ref tr, .ref t, .int y_30])), (t, .inr (2, [.ref ka, .ref na, .ref ga, .ref sa, .ref xr, .int size2_23])), (ka, .inl (G.2.1 0, 1000, .inl kf2_23)), (na, .inl (G.2.1 1, 1000, .inl nf2_23)), (ga, .inl (G.2.1 1, 1000, .inl gf2_23)), (sa, .inl (G.2.1 1, 1000, .inl sf2_23)), (xr, .inr (1, [.ref xa, .int xsz2_23])), (xa, .inl (G.2.1 0, 1000, .inl xf2_23)), (tr, .inr (1, [.ref ta, .int tsz])), (ta, .inl (G.2.1 0, 1000, .inl tf))] H := hP
          have hD : va_D A [(rd, .inr (3, [.ref tr, .ref t, .int y_30])), (t, .inr (2, [.ref ka, .ref na, .ref ga, .ref sa, .ref xr, .int size2_23])), (ka, .inl (G.2.1 0, 1000, .inl kf2_23)), (na, .inl (G.2.1 1, 1000, .inl nf2_23)), (ga, .inl (G.2.1 1, 1000, .inl gf2_23)), (sa, .inl (G.2.1 1, 1000, .inl sf2_23)), (xr, .inr (1, [.ref xa, .int xsz2_23])), (xa, .inl (G.2.1 0, 1000, .inl xf2_23)), (tr, .inr (1, [.ref ta, .int tsz])), (ta, .inl (G.2.1 0, 1000, .inl tf))] := hD
          refine lv_aload_n hx hb d_Reader_hexString_55 rfl (lv_at hl 2 rfl) ?_
          refine va_get (D := G.1) (ci := 3) (v := .ref t) (C := R_Reader) (T := F_Reader) (N := 3) hx hb hw i_Reader hown hE.1 hP 0 rfl rfl 1 (by decide) (hw _ m_116) (fun _ h9 => h9) rfl d_Reader_hexString_56 ?_
          refine lv_iconst (v := 5) hx hb d_Reader_hexString_59 (by decide) ?_
          refine lv_iload_n hx hb d_Reader_hexString_60 rfl (lv_at hl 0 rfl) ?_
          refine lv_iload_n hx hb d_Reader_hexString_61 rfl (lv_at hl 1 rfl) ?_
          refine gc_i (wr := [(rd, .inr (3, [.ref tr, .ref t, .int y_30])), (tr, .inr (1, [.ref ta, .int tsz])), (ta, .inl (G.2.1 0, 1000, .inl tf))]) (gc_V (wc := [(t, .inr (2, [.ref ka, .ref na, .ref ga, .ref sa, .ref xr, .int size2_23])), (ka, .inl (G.2.1 0, 1000, .inl kf2_23)), (na, .inl (G.2.1 1, 1000, .inl nf2_23)), (ga, .inl (G.2.1 1, 1000, .inl gf2_23)), (sa, .inl (G.2.1 1, 1000, .inl sf2_23)), (xr, .inr (1, [.ref xa, .int xsz2_23])), (xa, .inl (G.2.1 0, 1000, .inl xf2_23))]) (As := [.int 5, .int x2_23, .int xsz]) (rest := []) ⟨hx, hb, hml, hown, hw⟩ (c_Tree_add l G t ka na ga sa xr xa kf2_23 nf2_23 gf2_23 sf2_23 size2_23 xsz2_23 xf2_23 5 x2_23 xsz hj0_23 hj1_23 H.size) (cwV 3 hw (good_V m_165 m_166 m_167 m_3 m_168) rfl rfl rfl hy_Tree_add ⟨Nat.le_of_ble_eq_true rfl, Nat.le_of_ble_eq_true rfl⟩) hE hP hD hS hA (va_recv hE.1 hP (ci := 2) (q0 := 1) rfl rfl) [1, 2, 3, 4, 5, 6, 7] rfl (by decide) rfl hl rfl (Nat.le_of_ble_eq_true rfl) d_Reader_hexString_62 ⟨Nat.le_of_ble_eq_true rfl, Nat.le_of_ble_eq_true rfl⟩) hP hD hS hA [1, 2, 3, 4, 5, 6, 7] [0, 8, 9] rfl rfl (by decide) (by decide) (fun r_31 u_32 H locs hw_33 hP hD hS => ?_)
          obtain ⟨kf2_34, nf2_35, gf2_36, sf2_37, size2_38⟩ := u_32
          try dsimp only at hw_33
          have h_39 := hw_33
          have hP : va_P G.1 vwCl [(rd, .inr (3, [.ref tr, .ref t, .int y_30])), (tr, .inr (1, [.ref ta, .int tsz])), (ta, .inl (G.2.1 0, 1000, .inl tf)), (t, .inr (2, [.ref ka, .ref na, .ref ga, .ref sa, .ref xr, .int size2_38])), (ka, .inl (G.2.1 0, 1000, .inl kf2_34)), (na, .inl (G.2.1 1, 1000, .inl nf2_35)), (ga, .inl (G.2.1 1, 1000, .inl gf2_36)), (sa, .inl (G.2.1 1, 1000, .inl sf2_37)), (xr, .inr (1, [.ref xa, .int xsz2_23])), (xa, .inl (G.2.1 0, 1000, .inl xf2_23))] H := hP
          have hD : va_D A [(rd, .inr (3, [.ref tr, .ref t, .int y_30])), (tr, .inr (1, [.ref ta, .int tsz])), (ta, .inl (G.2.1 0, 1000, .inl tf)), (t, .inr (2, [.ref ka, .ref na, .ref ga, .ref sa, .ref xr, .int size2_38])), (ka, .inl (G.2.1 0, 1000, .inl kf2_34)), (na, .inl (G.2.1 1, 1000, .inl nf2_35)), (ga, .inl (G.2.1 1, 1000, .inl gf2_36)), (sa, .inl (G.2.1 1, 1000, .inl sf2_37)), (xr, .inr (1, [.ref xa, .int xsz2_23])), (xa, .inl (G.2.1 0, 1000, .inl xf2_23))] := hD
          refine lv_pop hx hb d_Reader_hexString_65 rfl ?_
          refine lv_iconst (v := 1) hx hb d_Reader_hexString_66 (by decide) ?_
          exact ret 1 (y_30, kf2_34, nf2_35, gf2_36, sf2_37, size2_38, xsz2_23, xf2_23) (Nat.le_of_ble_eq_true rfl) (Nat.le_of_ble_eq_true rfl) d_Reader_hexString_67 rfl ⟨h_39, hj1_23, (by first | assumption | decide)⟩ (hP.sub [0, 1, 2, 3, 4, 5, 6, 7, 8, 9] rfl) (hD.sub [0, 1, 2, 3, 4, 5, 6, 7, 8, 9] (by decide) rfl) hS
  refine lv_aload_n hx hb d_Reader_hexString_0 rfl (lv_at hl 0 rfl) ?_
  refine lv_dup hx hb d_Reader_hexString_1 rfl ?_
  refine va_get (D := G.1) (ci := 3) (v := .int at0) (C := R_Reader) (T := F_Reader) (N := 3) hx hb hw i_Reader hown hE.1 hP 0 rfl rfl 2 (by decide) (hw _ m_117) (fun _ h9 => h9) rfl d_Reader_hexString_2 ?_
  refine lv_iconst (v := 1) hx hb d_Reader_hexString_5 (by decide) ?_
  refine lv_iadd hx hb d_Reader_hexString_6 ?_
  refine lv_topi (fun y_40 ey_40 => ?_)
  refine va_put (D := G.1) (ci := 3) (v := .int y_40) (ty := .int) (C := R_Reader) (T := F_Reader) (N := 3) hx hb hw i_Reader t_Reader t_Reader_ok n_Reader hown hE.1 hP hD hS 0 rfl rfl 2 (by decide) (hw _ m_117) (fun _ h9 => h9) rfl (by decide +kernel) rfl rfl (Nat.le_of_ble_eq_true rfl) d_Reader_hexString_7 (fun H locs hP hD hS => ?_)
  have hP : va_P G.1 vwCl [(rd, .inr (3, [.ref tr, .ref t, .int y_40])), (tr, .inr (1, [.ref ta, .int tsz])), (ta, .inl (G.2.1 0, 1000, .inl tf)), (t, .inr (2, [.ref ka, .ref na, .ref ga, .ref sa, .ref xr, .int size])), (ka, .inl (G.2.1 0, 1000, .inl kf)), (na, .inl (G.2.1 1, 1000, .inl nf)), (ga, .inl (G.2.1 1, 1000, .inl gf)), (sa, .inl (G.2.1 1, 1000, .inl sf)), (xr, .inr (1, [.ref xa, .int xsz])), (xa, .inl (G.2.1 0, 1000, .inl xf))] H := hP
  have hD : va_D A [(rd, .inr (3, [.ref tr, .ref t, .int y_40])), (tr, .inr (1, [.ref ta, .int tsz])), (ta, .inl (G.2.1 0, 1000, .inl tf)), (t, .inr (2, [.ref ka, .ref na, .ref ga, .ref sa, .ref xr, .int size])), (ka, .inl (G.2.1 0, 1000, .inl kf)), (na, .inl (G.2.1 1, 1000, .inl nf)), (ga, .inl (G.2.1 1, 1000, .inl gf)), (sa, .inl (G.2.1 1, 1000, .inl sf)), (xr, .inr (1, [.ref xa, .int xsz])), (xa, .inl (G.2.1 0, 1000, .inl xf))] := hD
  refine lv_aload_n hx hb d_Reader_hexString_10 rfl (lv_at hl 0 rfl) ?_
  refine va_get (D := G.1) (ci := 3) (v := .ref t) (C := R_Reader) (T := F_Reader) (N := 3) hx hb hw i_Reader hown hE.1 hP 0 rfl rfl 1 (by decide) (hw _ m_116) (fun _ h9 => h9) rfl d_Reader_hexString_11 ?_
  refine gc_r (wr := [(rd, .inr (3, [.ref tr, .ref t, .int y_40])), (tr, .inr (1, [.ref ta, .int tsz])), (ta, .inl (G.2.1 0, 1000, .inl tf))]) (gc_V (wc := [(t, .inr (2, [.ref ka, .ref na, .ref ga, .ref sa, .ref xr, .int size])), (ka, .inl (G.2.1 0, 1000, .inl kf)), (na, .inl (G.2.1 1, 1000, .inl nf)), (ga, .inl (G.2.1 1, 1000, .inl gf)), (sa, .inl (G.2.1 1, 1000, .inl sf)), (xr, .inr (1, [.ref xa, .int xsz])), (xa, .inl (G.2.1 0, 1000, .inl xf))]) (As := []) (rest := []) ⟨hx, hb, hml, hown, hw⟩ (c_Tree_text l G t ka na ga sa xr xa kf nf gf sf size xsz xf hs hxs H.size) (cwV 0 hw (good_V m_161 m_162 m_163 m_3 m_164) rfl rfl rfl hy_Tree_text ⟨Nat.le_of_ble_eq_true rfl, Nat.le_of_ble_eq_true rfl⟩) hE hP hD hS hA (va_recv hE.1 hP (ci := 2) (q0 := 3) rfl rfl) [3, 4, 5, 6, 7, 8, 9] rfl (by decide) rfl hl rfl (Nat.le_of_ble_eq_true rfl) d_Reader_hexString_14 ⟨Nat.le_of_ble_eq_true rfl, Nat.le_of_ble_eq_true rfl⟩) hP hD hS hA [3, 4, 5, 6, 7, 8, 9] [0, 1, 2] rfl rfl (by decide) (by decide) (fun r_41 u_42 H locs hw_43 hP hD hS => ?_)
  try dsimp only at hw_43
  have h_44 := hw_43
  subst h_44
  have hP : va_P G.1 vwCl [(rd, .inr (3, [.ref tr, .ref t, .int y_40])), (tr, .inr (1, [.ref ta, .int tsz])), (ta, .inl (G.2.1 0, 1000, .inl tf)), (t, .inr (2, [.ref ka, .ref na, .ref ga, .ref sa, .ref xr, .int size])), (ka, .inl (G.2.1 0, 1000, .inl kf)), (na, .inl (G.2.1 1, 1000, .inl nf)), (ga, .inl (G.2.1 1, 1000, .inl gf)), (sa, .inl (G.2.1 1, 1000, .inl sf)), (xr, .inr (1, [.ref xa, .int xsz])), (xa, .inl (G.2.1 0, 1000, .inl xf))] H := hP
  have hD : va_D A [(rd, .inr (3, [.ref tr, .ref t, .int y_40])), (tr, .inr (1, [.ref ta, .int tsz])), (ta, .inl (G.2.1 0, 1000, .inl tf)), (t, .inr (2, [.ref ka, .ref na, .ref ga, .ref sa, .ref xr, .int size])), (ka, .inl (G.2.1 0, 1000, .inl kf)), (na, .inl (G.2.1 1, 1000, .inl nf)), (ga, .inl (G.2.1 1, 1000, .inl gf)), (sa, .inl (G.2.1 1, 1000, .inl sf)), (xr, .inr (1, [.ref xa, .int xsz])), (xa, .inl (G.2.1 0, 1000, .inl xf))] := hD
  refine gc_i (wr := [(rd, .inr (3, [.ref tr, .ref t, .int y_40])), (tr, .inr (1, [.ref ta, .int tsz])), (ta, .inl (G.2.1 0, 1000, .inl tf)), (t, .inr (2, [.ref ka, .ref na, .ref ga, .ref sa, .ref xr, .int size])), (ka, .inl (G.2.1 0, 1000, .inl kf)), (na, .inl (G.2.1 1, 1000, .inl nf)), (ga, .inl (G.2.1 1, 1000, .inl gf)), (sa, .inl (G.2.1 1, 1000, .inl sf))]) (gc_V (wc := [(xr, .inr (1, [.ref xa, .int xsz])), (xa, .inl (G.2.1 0, 1000, .inl xf))]) (As := []) (rest := []) ⟨hx, hb, hml, hown, hw⟩ (c_Row_size l G xr xa 1000 xsz xf (by decide) hxs H.size) (cwV 0 hw (good_V m_142 m_86 m_87 m_2 m_88) rfl rfl rfl hy_Row_size ⟨Nat.le_of_ble_eq_true rfl, Nat.le_of_ble_eq_true rfl⟩) hE hP hD hS hA (va_recv hE.1 hP (ci := 1) (q0 := 8) rfl rfl) [8, 9] rfl (by decide) rfl hl rfl (Nat.le_of_ble_eq_true rfl) d_Reader_hexString_17 ⟨Nat.le_of_ble_eq_true rfl, Nat.le_of_ble_eq_true rfl⟩) hP hD hS hA [8, 9] [0, 1, 2, 3, 4, 5, 6, 7] rfl rfl (by decide) (by decide) (fun r_45 u_46 H locs hw_47 hP hD hS => ?_)
  try dsimp only at hw_47
  have h_48 := hw_47
  subst h_48
  have hP : va_P G.1 vwCl [(rd, .inr (3, [.ref tr, .ref t, .int y_40])), (tr, .inr (1, [.ref ta, .int tsz])), (ta, .inl (G.2.1 0, 1000, .inl tf)), (t, .inr (2, [.ref ka, .ref na, .ref ga, .ref sa, .ref xr, .int size])), (ka, .inl (G.2.1 0, 1000, .inl kf)), (na, .inl (G.2.1 1, 1000, .inl nf)), (ga, .inl (G.2.1 1, 1000, .inl gf)), (sa, .inl (G.2.1 1, 1000, .inl sf)), (xr, .inr (1, [.ref xa, .int xsz])), (xa, .inl (G.2.1 0, 1000, .inl xf))] H := hP
  have hD : va_D A [(rd, .inr (3, [.ref tr, .ref t, .int y_40])), (tr, .inr (1, [.ref ta, .int tsz])), (ta, .inl (G.2.1 0, 1000, .inl tf)), (t, .inr (2, [.ref ka, .ref na, .ref ga, .ref sa, .ref xr, .int size])), (ka, .inl (G.2.1 0, 1000, .inl kf)), (na, .inl (G.2.1 1, 1000, .inl nf)), (ga, .inl (G.2.1 1, 1000, .inl gf)), (sa, .inl (G.2.1 1, 1000, .inl sf)), (xr, .inr (1, [.ref xa, .int xsz])), (xa, .inl (G.2.1 0, 1000, .inl xf))] := hD
  refine lv_istore_n (lv' := [(1, .int xsz), (0, .ref rd)]) hx hb d_Reader_hexString_20 rfl hl (by decide) rfl (fun ls hl => ?_)
  refine lv_iconst (v := 0) hx hb d_Reader_hexString_21 (by decide) ?_
  refine lv_istore_n (lv' := [(2, .int 0), (1, .int xsz), (0, .ref rd)]) hx hb d_Reader_hexString_22 rfl hl (by decide) rfl (fun ls hl => ?_)
  exact J_23 _ 0 y_40 kf nf gf sf size xsz xf hs hxs (Nat.lt_succ_self _) _ _ (hP.sub [0, 1, 2, 3, 4, 5, 6, 7, 8, 9] rfl) (hD.sub [0, 1, 2, 3, 4, 5, 6, 7, 8, 9] (by decide) rfl) hS _ (lv_sub hl [0, 1, 2] rfl)
def rm_Reader_word : Room := { frames := 6, cells := 0, slots := 0, locals := 129 }
set_option maxHeartbeats 4000000 in
set_option maxRecDepth 100000 in
theorem c_Reader_word (l : Launch) (G : GG) (rd : Nat) (at0 : Int32) (tr : Nat) (ta : Nat) (tsz : Int32) (tf : Nat → Int32) (t : Nat) (ka : Nat) (na : Nat) (ga : Nat) (sa : Nat) (xr : Nat) (xa : Nat) (kf : Nat → Int32) (nf : Nat → Int32) (gf : Nat → Int32) (sf : Nat → Int32) (size : Int32) (xsz : Int32) (xf : Nat → Int32) (htp : RowOk 1000 tsz) (hs : RowOk 1000 size) (hxs : RowOk 1000 xsz) : MI l y_Reader_word b_Reader_word 3 .boolean rm_Reader_word G [.ref rd] [(rd, .inr (3, [.ref tr, .ref t, .int at0])), (tr, .inr (1, [.ref ta, .int tsz])), (ta, .inl (G.2.1 0, 1000, .inl tf)), (t, .inr (2, [.ref ka, .ref na, .ref ga, .ref sa, .ref xr, .int size])), (ka, .inl (G.2.1 0, 1000, .inl kf)), (na, .inl (G.2.1 1, 1000, .inl nf)), (ga, .inl (G.2.1 1, 1000, .inl gf)), (sa, .inl (G.2.1 1, 1000, .inl sf)), (xr, .inr (1, [.ref xa, .int xsz])), (xa, .inl (G.2.1 0, 1000, .inl xf))] (fun (v : Int32) (u : Int32 × (Nat → Int32) × (Nat → Int32) × (Nat → Int32) × (Nat → Int32) × Int32 × Int32 × (Nat → Int32)) => (RowOk 1000 u.2.2.2.2.2.1) ∧ (RowOk 1000 u.2.2.2.2.2.2.1) ∧ (v = 0 ∨ v = 1)) (fun (u : Int32 × (Nat → Int32) × (Nat → Int32) × (Nat → Int32) × (Nat → Int32) × Int32 × Int32 × (Nat → Int32)) => [(rd, .inr (3, [.ref tr, .ref t, .int u.1])), (tr, .inr (1, [.ref ta, .int tsz])), (ta, .inl (G.2.1 0, 1000, .inl tf)), (t, .inr (2, [.ref ka, .ref na, .ref ga, .ref sa, .ref xr, .int u.2.2.2.2.2.1])), (ka, .inl (G.2.1 0, 1000, .inl u.2.1)), (na, .inl (G.2.1 1, 1000, .inl u.2.2.1)), (ga, .inl (G.2.1 1, 1000, .inl u.2.2.2.1)), (sa, .inl (G.2.1 1, 1000, .inl u.2.2.2.2.1)), (xr, .inr (1, [.ref xa, .int u.2.2.2.2.2.2.1])), (xa, .inl (G.2.1 0, 1000, .inl u.2.2.2.2.2.2.2))]) 0 0 := by
  refine MI.of (cc := b_Reader_word) (maxL := 3) (ty := .boolean) (C := R_Reader) (by decide +kernel) rfl (Nat.le_of_ble_eq_true rfl) ?_
  intro p e s m args below meth c A Q H ls hx hb hml hown hw hE hA hP hD hS ret hl
  have hl : lv_has ls 3 [(0, .ref rd)] := hl
  refine lv_aload_n hx hb d_Reader_word_0 rfl (lv_at hl 0 rfl) ?_
  refine lv_aload_n hx hb d_Reader_word_1 rfl (lv_at hl 0 rfl) ?_
  refine va_get (D := G.1) (ci := 3) (v := .int at0) (C := R_Reader) (T := F_Reader) (N := 3) hx hb hw i_Reader hown hE.1 hP 0 rfl rfl 2 (by decide) (hw _ m_117) (fun _ h9 => h9) rfl d_Reader_word_2 ?_
  refine gc_i (wr := [(t, .inr (2, [.ref ka, .ref na, .ref ga, .ref sa, .ref xr, .int size])), (ka, .inl (G.2.1 0, 1000, .inl kf)), (na, .inl (G.2.1 1, 1000, .inl nf)), (ga, .inl (G.2.1 1, 1000, .inl gf)), (sa, .inl (G.2.1 1, 1000, .inl sf)), (xr, .inr (1, [.ref xa, .int xsz])), (xa, .inl (G.2.1 0, 1000, .inl xf))]) (gc_V (wc := [(rd, .inr (3, [.ref tr, .ref t, .int at0])), (tr, .inr (1, [.ref ta, .int tsz])), (ta, .inl (G.2.1 0, 1000, .inl tf))]) (As := [.int at0]) (rest := []) ⟨hx, hb, hml, hown, hw⟩ (c_Reader_wordLength l G rd t at0 tr ta tsz tf at0 htp H.size) (cwV 1 hw (good_V m_154 m_156 ms_3 m_5 m_157) rfl rfl rfl hy_Reader_wordLength ⟨Nat.le_of_ble_eq_true rfl, Nat.le_of_ble_eq_true rfl⟩) hE hP hD hS hA (va_recv hE.1 hP (ci := 3) (q0 := 0) rfl rfl) [0, 1, 2] rfl (by decide) rfl hl rfl (Nat.le_of_ble_eq_true rfl) d_Reader_word_5 ⟨Nat.le_of_ble_eq_true rfl, Nat.le_of_ble_eq_true rfl⟩) hP hD hS hA [0, 1, 2] [3, 4, 5, 6, 7, 8, 9] rfl rfl (by decide) (by decide) (fun r_1 u_2 H locs hw_3 hP hD hS => ?_)
  have hP : va_P G.1 vwCl [(t, .inr (2, [.ref ka, .ref na, .ref ga, .ref sa, .ref xr, .int size])), (ka, .inl (G.2.1 0, 1000, .inl kf)), (na, .inl (G.2.1 1, 1000, .inl nf)), (ga, .inl (G.2.1 1, 1000, .inl gf)), (sa, .inl (G.2.1 1, 1000, .inl sf)), (xr, .inr (1, [.ref xa, .int xsz])), (xa, .inl (G.2.1 0, 1000, .inl xf)), (rd, .inr (3, [.ref tr, .ref t, .int at0])), (tr, .inr (1, [.ref ta, .int tsz])), (ta, .inl (G.2.1 0, 1000, .inl tf))] H := hP
  have hD : va_D A [(t, .inr (2, [.ref ka, .ref na, .ref ga, .ref sa, .ref xr, .int size])), (ka, .inl (G.2.1 0, 1000, .inl kf)), (na, .inl (G.2.1 1, 1000, .inl nf)), (ga, .inl (G.2.1 1, 1000, .inl gf)), (sa, .inl (G.2.1 1, 1000, .inl sf)), (xr, .inr (1, [.ref xa, .int xsz])), (xa, .inl (G.2.1 0, 1000, .inl xf)), (rd, .inr (3, [.ref tr, .ref t, .int at0])), (tr, .inr (1, [.ref ta, .int tsz])), (ta, .inl (G.2.1 0, 1000, .inl tf))] := hD
  refine lv_istore_n (lv' := [(1, .int r_1), (0, .ref rd)]) hx hb d_Reader_word_8 rfl hl (by decide) rfl (fun ls hl => ?_)
  refine lv_aload_n hx hb d_Reader_word_9 rfl (lv_at hl 1 rfl) ?_
  refine lv_iload_n hx hb d_Reader_word_10 rfl (lv_at hl 0 rfl) ?_
  refine gc_i (wr := [(t, .inr (2, [.ref ka, .ref na, .ref ga, .ref sa, .ref xr, .int size])), (ka, .inl (G.2.1 0, 1000, .inl kf)), (na, .inl (G.2.1 1, 1000, .inl nf)), (ga, .inl (G.2.1 1, 1000, .inl gf)), (sa, .inl (G.2.1 1, 1000, .inl sf)), (xr, .inr (1, [.ref xa, .int xsz])), (xa, .inl (G.2.1 0, 1000, .inl xf))]) (gc_V (wc := [(rd, .inr (3, [.ref tr, .ref t, .int at0])), (tr, .inr (1, [.ref ta, .int tsz])), (ta, .inl (G.2.1 0, 1000, .inl tf))]) (As := [.int r_1]) (rest := []) ⟨hx, hb, hml, hown, hw⟩ (c_Reader_kindOfWord l G rd t at0 tr ta tsz tf r_1 htp H.size) (cwV 1 hw (good_V m_256 m_258 ms_17 m_5 m_259) rfl rfl rfl hy_Reader_kindOfWord ⟨Nat.le_of_ble_eq_true rfl, Nat.le_of_ble_eq_true rfl⟩) hE hP hD hS hA (va_recv hE.1 hP (ci := 3) (q0 := 7) rfl rfl) [7, 8, 9] rfl (by decide) rfl hl rfl (Nat.le_of_ble_eq_true rfl) d_Reader_word_11 ⟨Nat.le_of_ble_eq_true rfl, Nat.le_of_ble_eq_true rfl⟩) hP hD hS hA [7, 8, 9] [0, 1, 2, 3, 4, 5, 6] rfl rfl (by decide) (by decide) (fun r_4 u_5 H locs hw_6 hP hD hS => ?_)
  have hP : va_P G.1 vwCl [(t, .inr (2, [.ref ka, .ref na, .ref ga, .ref sa, .ref xr, .int size])), (ka, .inl (G.2.1 0, 1000, .inl kf)), (na, .inl (G.2.1 1, 1000, .inl nf)), (ga, .inl (G.2.1 1, 1000, .inl gf)), (sa, .inl (G.2.1 1, 1000, .inl sf)), (xr, .inr (1, [.ref xa, .int xsz])), (xa, .inl (G.2.1 0, 1000, .inl xf)), (rd, .inr (3, [.ref tr, .ref t, .int at0])), (tr, .inr (1, [.ref ta, .int tsz])), (ta, .inl (G.2.1 0, 1000, .inl tf))] H := hP
  have hD : va_D A [(t, .inr (2, [.ref ka, .ref na, .ref ga, .ref sa, .ref xr, .int size])), (ka, .inl (G.2.1 0, 1000, .inl kf)), (na, .inl (G.2.1 1, 1000, .inl nf)), (ga, .inl (G.2.1 1, 1000, .inl gf)), (sa, .inl (G.2.1 1, 1000, .inl sf)), (xr, .inr (1, [.ref xa, .int xsz])), (xa, .inl (G.2.1 0, 1000, .inl xf)), (rd, .inr (3, [.ref tr, .ref t, .int at0])), (tr, .inr (1, [.ref ta, .int tsz])), (ta, .inl (G.2.1 0, 1000, .inl tf))] := hD
  refine lv_istore_n (lv' := [(2, .int r_4), (1, .int r_1), (0, .ref rd)]) hx hb d_Reader_word_14 rfl hl (by decide) rfl (fun ls hl => ?_)
  refine lv_iload_n hx hb d_Reader_word_15 rfl (lv_at hl 0 rfl) ?_
  refine lv_bipush (v := (-2)) hx hb d_Reader_word_16 (by decide) ?_
  refine lv_icmp_ne (tgt := 23) hx hb d_Reader_word_18 (by decide) (fun c_7 => ?_) (fun c_7 => ?_)
  · refine lv_aload_n hx hb d_Reader_word_23 rfl (lv_at hl 2 rfl) ?_
    refine va_get (D := G.1) (ci := 3) (v := .ref t) (C := R_Reader) (T := F_Reader) (N := 3) hx hb hw i_Reader hown hE.1 hP 7 rfl rfl 1 (by decide) (hw _ m_116) (fun _ h9 => h9) rfl d_Reader_word_24 ?_
    refine lv_iload_n hx hb d_Reader_word_27 rfl (lv_at hl 0 rfl) ?_
    refine lv_iconst (v := 0) hx hb d_Reader_word_28 (by decide) ?_
    refine lv_iconst (v := 0) hx hb d_Reader_word_29 (by decide) ?_
    refine gc_i (wr := [(rd, .inr (3, [.ref tr, .ref t, .int at0])), (tr, .inr (1, [.ref ta, .int tsz])), (ta, .inl (G.2.1 0, 1000, .inl tf))]) (gc_V (wc := [(t, .inr (2, [.ref ka, .ref na, .ref ga, .ref sa, .ref xr, .int size])), (ka, .inl (G.2.1 0, 1000, .inl kf)), (na, .inl (G.2.1 1, 1000, .inl nf)), (ga, .inl (G.2.1 1, 1000, .inl gf)), (sa, .inl (G.2.1 1, 1000, .inl sf)), (xr, .inr (1, [.ref xa, .int xsz])), (xa, .inl (G.2.1 0, 1000, .inl xf))]) (As := [.int r_4, .int 0, .int 0]) (rest := []) ⟨hx, hb, hml, hown, hw⟩ (c_Tree_add l G t ka na ga sa xr xa kf nf gf sf size xsz xf r_4 0 0 hs hxs H.size) (cwV 3 hw (good_V m_165 m_166 m_167 m_3 m_168) rfl rfl rfl hy_Tree_add ⟨Nat.le_of_ble_eq_true rfl, Nat.le_of_ble_eq_true rfl⟩) hE hP hD hS hA (va_recv hE.1 hP (ci := 2) (q0 := 0) rfl rfl) [0, 1, 2, 3, 4, 5, 6] rfl (by decide) rfl hl rfl (Nat.le_of_ble_eq_true rfl) d_Reader_word_30 ⟨Nat.le_of_ble_eq_true rfl, Nat.le_of_ble_eq_true rfl⟩) hP hD hS hA [0, 1, 2, 3, 4, 5, 6] [7, 8, 9] rfl rfl (by decide) (by decide) (fun r_8 u_9 H locs hw_10 hP hD hS => ?_)
    obtain ⟨kf2_11, nf2_12, gf2_13, sf2_14, size2_15⟩ := u_9
    try dsimp only at hw_10
    have h_16 := hw_10
    have hP : va_P G.1 vwCl [(rd, .inr (3, [.ref tr, .ref t, .int at0])), (tr, .inr (1, [.ref ta, .int tsz])), (ta, .inl (G.2.1 0, 1000, .inl tf)), (t, .inr (2, [.ref ka, .ref na, .ref ga, .ref sa, .ref xr, .int size2_15])), (ka, .inl (G.2.1 0, 1000, .inl kf2_11)), (na, .inl (G.2.1 1, 1000, .inl nf2_12)), (ga, .inl (G.2.1 1, 1000, .inl gf2_13)), (sa, .inl (G.2.1 1, 1000, .inl sf2_14)), (xr, .inr (1, [.ref xa, .int xsz])), (xa, .inl (G.2.1 0, 1000, .inl xf))] H := hP
    have hD : va_D A [(rd, .inr (3, [.ref tr, .ref t, .int at0])), (tr, .inr (1, [.ref ta, .int tsz])), (ta, .inl (G.2.1 0, 1000, .inl tf)), (t, .inr (2, [.ref ka, .ref na, .ref ga, .ref sa, .ref xr, .int size2_15])), (ka, .inl (G.2.1 0, 1000, .inl kf2_11)), (na, .inl (G.2.1 1, 1000, .inl nf2_12)), (ga, .inl (G.2.1 1, 1000, .inl gf2_13)), (sa, .inl (G.2.1 1, 1000, .inl sf2_14)), (xr, .inr (1, [.ref xa, .int xsz])), (xa, .inl (G.2.1 0, 1000, .inl xf))] := hD
    refine lv_pop hx hb d_Reader_word_33 rfl ?_
    refine lv_aload_n hx hb d_Reader_word_34 rfl (lv_at hl 2 rfl) ?_
    refine lv_dup hx hb d_Reader_word_35 rfl ?_
    refine va_get (D := G.1) (ci := 3) (v := .int at0) (C := R_Reader) (T := F_Reader) (N := 3) hx hb hw i_Reader hown hE.1 hP 0 rfl rfl 2 (by decide) (hw _ m_117) (fun _ h9 => h9) rfl d_Reader_word_36 ?_
    refine lv_iload_n hx hb d_Reader_word_39 rfl (lv_at hl 1 rfl) ?_
    refine lv_iadd hx hb d_Reader_word_40 ?_
    refine lv_topi (fun y_17 ey_17 => ?_)
    refine va_put (D := G.1) (ci := 3) (v := .int y_17) (ty := .int) (C := R_Reader) (T := F_Reader) (N := 3) hx hb hw i_Reader t_Reader t_Reader_ok n_Reader hown hE.1 hP hD hS 0 rfl rfl 2 (by decide) (hw _ m_117) (fun _ h9 => h9) rfl (by decide +kernel) rfl rfl (Nat.le_of_ble_eq_true rfl) d_Reader_word_41 (fun H locs hP hD hS => ?_)
    have hP : va_P G.1 vwCl [(rd, .inr (3, [.ref tr, .ref t, .int y_17])), (tr, .inr (1, [.ref ta, .int tsz])), (ta, .inl (G.2.1 0, 1000, .inl tf)), (t, .inr (2, [.ref ka, .ref na, .ref ga, .ref sa, .ref xr, .int size2_15])), (ka, .inl (G.2.1 0, 1000, .inl kf2_11)), (na, .inl (G.2.1 1, 1000, .inl nf2_12)), (ga, .inl (G.2.1 1, 1000, .inl gf2_13)), (sa, .inl (G.2.1 1, 1000, .inl sf2_14)), (xr, .inr (1, [.ref xa, .int xsz])), (xa, .inl (G.2.1 0, 1000, .inl xf))] H := hP
    have hD : va_D A [(rd, .inr (3, [.ref tr, .ref t, .int y_17])), (tr, .inr (1, [.ref ta, .int tsz])), (ta, .inl (G.2.1 0, 1000, .inl tf)), (t, .inr (2, [.ref ka, .ref na, .ref ga, .ref sa, .ref xr, .int size2_15])), (ka, .inl (G.2.1 0, 1000, .inl kf2_11)), (na, .inl (G.2.1 1, 1000, .inl nf2_12)), (ga, .inl (G.2.1 1, 1000, .inl gf2_13)), (sa, .inl (G.2.1 1, 1000, .inl sf2_14)), (xr, .inr (1, [.ref xa, .int xsz])), (xa, .inl (G.2.1 0, 1000, .inl xf))] := hD
    refine lv_iconst (v := 1) hx hb d_Reader_word_44 (by decide) ?_
    exact ret 1 (y_17, kf2_11, nf2_12, gf2_13, sf2_14, size2_15, xsz, xf) (Nat.le_of_ble_eq_true rfl) (Nat.le_of_ble_eq_true rfl) d_Reader_word_45 rfl ⟨h_16, hxs, (by first | assumption | decide)⟩ (hP.sub [0, 1, 2, 3, 4, 5, 6, 7, 8, 9] rfl) (hD.sub [0, 1, 2, 3, 4, 5, 6, 7, 8, 9] (by decide) rfl) hS
  · refine lv_iconst (v := 0) hx hb d_Reader_word_21 (by decide) ?_
    exact ret 0 (at0, kf, nf, gf, sf, size, xsz, xf) (Nat.le_of_ble_eq_true rfl) (Nat.le_of_ble_eq_true rfl) d_Reader_word_22 rfl ⟨hs, hxs, (by first | assumption | decide)⟩ (hP.sub [7, 8, 9, 0, 1, 2, 3, 4, 5, 6] rfl) (hD.sub [7, 8, 9, 0, 1, 2, 3, 4, 5, 6] (by decide) rfl) hS
def rm_Reader_number : Room := { frames := 3, cells := 0, slots := 0, locals := 70 }
set_option maxHeartbeats 4000000 in
set_option maxRecDepth 100000 in
theorem c_Reader_number (l : Launch) (G : GG) (rd : Nat) (at0 : Int32) (tr : Nat) (ta : Nat) (tsz : Int32) (tf : Nat → Int32) (t : Nat) (ka : Nat) (na : Nat) (ga : Nat) (sa : Nat) (xr : Nat) (xa : Nat) (kf : Nat → Int32) (nf : Nat → Int32) (gf : Nat → Int32) (sf : Nat → Int32) (size : Int32) (xsz : Int32) (xf : Nat → Int32) (htp : RowOk 1000 tsz) (hs : RowOk 1000 size) (hxs : RowOk 1000 xsz) : MI l y_Reader_number b_Reader_number 6 .boolean rm_Reader_number G [.ref rd] [(rd, .inr (3, [.ref tr, .ref t, .int at0])), (tr, .inr (1, [.ref ta, .int tsz])), (ta, .inl (G.2.1 0, 1000, .inl tf)), (t, .inr (2, [.ref ka, .ref na, .ref ga, .ref sa, .ref xr, .int size])), (ka, .inl (G.2.1 0, 1000, .inl kf)), (na, .inl (G.2.1 1, 1000, .inl nf)), (ga, .inl (G.2.1 1, 1000, .inl gf)), (sa, .inl (G.2.1 1, 1000, .inl sf)), (xr, .inr (1, [.ref xa, .int xsz])), (xa, .inl (G.2.1 0, 1000, .inl xf))] (fun (v : Int32) (u : Int32 × (Nat → Int32) × (Nat → Int32) × (Nat → Int32) × (Nat → Int32) × Int32 × Int32 × (Nat → Int32)) => (RowOk 1000 u.2.2.2.2.2.1) ∧ (RowOk 1000 u.2.2.2.2.2.2.1) ∧ (v = 0 ∨ v = 1)) (fun (u : Int32 × (Nat → Int32) × (Nat → Int32) × (Nat → Int32) × (Nat → Int32) × Int32 × Int32 × (Nat → Int32)) => [(rd, .inr (3, [.ref tr, .ref t, .int u.1])), (tr, .inr (1, [.ref ta, .int tsz])), (ta, .inl (G.2.1 0, 1000, .inl tf)), (t, .inr (2, [.ref ka, .ref na, .ref ga, .ref sa, .ref xr, .int u.2.2.2.2.2.1])), (ka, .inl (G.2.1 0, 1000, .inl u.2.1)), (na, .inl (G.2.1 1, 1000, .inl u.2.2.1)), (ga, .inl (G.2.1 1, 1000, .inl u.2.2.2.1)), (sa, .inl (G.2.1 1, 1000, .inl u.2.2.2.2.1)), (xr, .inr (1, [.ref xa, .int u.2.2.2.2.2.2.1])), (xa, .inl (G.2.1 0, 1000, .inl u.2.2.2.2.2.2.2))]) 0 0 := by
  refine MI.of (cc := b_Reader_number) (maxL := 6) (ty := .boolean) (C := R_Reader) (by decide +kernel) rfl (Nat.le_of_ble_eq_true rfl) ?_
  intro p e s m args below meth c A Q H ls hx hb hml hown hw hE hA hP hD hS ret hl
  have hl : lv_has ls 6 [(0, .ref rd)] := hl
  have J_147 : ∀ (x5_147 : Int32) (x4_147 : Int32) (x3_147 : Int32) (x2_147 : Int32) (x1_147 : Int32) (at2_147 : Int32) (kf2_147 : Nat → Int32) (nf2_147 : Nat → Int32) (gf2_147 : Nat → Int32) (sf2_147 : Nat → Int32) (size2_147 : Int32) (xsz2_147 : Int32) (xf2_147 : Nat → Int32) (hj0_147 : RowOk 1000 size2_147) (hj1_147 : RowOk 1000 xsz2_147) (H : Heap) (locs : List Loc), va_P G.1 vwCl [(rd, .inr (3, [.ref tr, .ref t, .int at2_147])), (tr, .inr (1, [.ref ta, .int tsz])), (ta, .inl (G.2.1 0, 1000, .inl tf)), (t, .inr (2, [.ref ka, .ref na, .ref ga, .ref sa, .ref xr, .int size2_147])), (ka, .inl (G.2.1 0, 1000, .inl kf2_147)), (na, .inl (G.2.1 1, 1000, .inl nf2_147)), (ga, .inl (G.2.1 1, 1000, .inl gf2_147)), (sa, .inl (G.2.1 1, 1000, .inl sf2_147)), (xr, .inr (1, [.ref xa, .int xsz2_147])), (xa, .inl (G.2.1 0, 1000, .inl xf2_147))] H → va_D A [(rd, .inr (3, [.ref tr, .ref t, .int at2_147])), (tr, .inr (1, [.ref ta, .int tsz])), (ta, .inl (G.2.1 0, 1000, .inl tf)), (t, .inr (2, [.ref ka, .ref na, .ref ga, .ref sa, .ref xr, .int size2_147])), (ka, .inl (G.2.1 0, 1000, .inl kf2_147)), (na, .inl (G.2.1 1, 1000, .inl nf2_147)), (ga, .inl (G.2.1 1, 1000, .inl gf2_147)), (sa, .inl (G.2.1 1, 1000, .inl sf2_147)), (xr, .inr (1, [.ref xa, .int xsz2_147])), (xa, .inl (G.2.1 0, 1000, .inl xf2_147))] → va_S A s.heap H locs → ∀ ls : Array Slot, lv_has ls 6 [(5, .int x5_147), (4, .int x4_147), (3, .int x3_147), (2, .int x2_147), (1, .int x1_147), (0, .ref rd)] → W p l e rm_Reader_number s m args below meth c H locs 0 0 Q (F0 m 147 ls []) := by
    intro x5_147 x4_147 x3_147 x2_147 x1_147 at2_147 kf2_147 nf2_147 gf2_147 sf2_147 size2_147 xsz2_147 xf2_147 hj0_147 hj1_147 H locs hP hD hS ls hl
    refine lv_aload_n hx hb d_Reader_number_147 rfl (lv_at hl 5 rfl) ?_
    refine va_get (D := G.1) (ci := 3) (v := .ref t) (C := R_Reader) (T := F_Reader) (N := 3) hx hb hw i_Reader hown hE.1 hP 0 rfl rfl 1 (by decide) (hw _ m_116) (fun _ h9 => h9) rfl d_Reader_number_148 ?_
    refine lv_iconst (v := 3) hx hb d_Reader_number_151 (by decide) ?_
    refine lv_aload_n hx hb d_Reader_number_152 rfl (lv_at hl 5 rfl) ?_
    refine lv_aload_n hx hb d_Reader_number_153 rfl (lv_at hl 5 rfl) ?_
    refine va_get (D := G.1) (ci := 3) (v := .int at2_147) (C := R_Reader) (T := F_Reader) (N := 3) hx hb hw i_Reader hown hE.1 hP 0 rfl rfl 2 (by decide) (hw _ m_117) (fun _ h9 => h9) rfl d_Reader_number_154 ?_
    refine lv_iload_n hx hb d_Reader_number_157 rfl (lv_at hl 4 rfl) ?_
    refine gc_i (wr := [(t, .inr (2, [.ref ka, .ref na, .ref ga, .ref sa, .ref xr, .int size2_147])), (ka, .inl (G.2.1 0, 1000, .inl kf2_147)), (na, .inl (G.2.1 1, 1000, .inl nf2_147)), (ga, .inl (G.2.1 1, 1000, .inl gf2_147)), (sa, .inl (G.2.1 1, 1000, .inl sf2_147)), (xr, .inr (1, [.ref xa, .int xsz2_147])), (xa, .inl (G.2.1 0, 1000, .inl xf2_147))]) (gc_V (wc := [(rd, .inr (3, [.ref tr, .ref t, .int at2_147])), (tr, .inr (1, [.ref ta, .int tsz])), (ta, .inl (G.2.1 0, 1000, .inl tf))]) (As := [.int at2_147, .int x1_147]) (rest := [.int 3, .ref t]) ⟨hx, hb, hml, hown, hw⟩ (c_Reader_numberAt l G rd t at2_147 tr ta tsz tf at2_147 x1_147 htp H.size) (cwV 2 hw (good_V m_247 m_249 ms_15 m_5 m_250) rfl rfl rfl hy_Reader_numberAt ⟨Nat.le_of_ble_eq_true rfl, Nat.le_of_ble_eq_true rfl⟩) hE hP hD hS hA (va_recv hE.1 hP (ci := 3) (q0 := 0) rfl rfl) [0, 1, 2] rfl (by decide) rfl hl rfl (Nat.le_of_ble_eq_true rfl) d_Reader_number_158 ⟨Nat.le_of_ble_eq_true rfl, Nat.le_of_ble_eq_true rfl⟩) hP hD hS hA [0, 1, 2] [3, 4, 5, 6, 7, 8, 9] rfl rfl (by decide) (by decide) (fun r_1 u_2 H locs hw_3 hP hD hS => ?_)
    have hP : va_P G.1 vwCl [(t, .inr (2, [.ref ka, .ref na, .ref ga, .ref sa, .ref xr, .int size2_147])), (ka, .inl (G.2.1 0, 1000, .inl kf2_147)), (na, .inl (G.2.1 1, 1000, .inl nf2_147)), (ga, .inl (G.2.1 1, 1000, .inl gf2_147)), (sa, .inl (G.2.1 1, 1000, .inl sf2_147)), (xr, .inr (1, [.ref xa, .int xsz2_147])), (xa, .inl (G.2.1 0, 1000, .inl xf2_147)), (rd, .inr (3, [.ref tr, .ref t, .int at2_147])), (tr, .inr (1, [.ref ta, .int tsz])), (ta, .inl (G.2.1 0, 1000, .inl tf))] H := hP
    have hD : va_D A [(t, .inr (2, [.ref ka, .ref na, .ref ga, .ref sa, .ref xr, .int size2_147])), (ka, .inl (G.2.1 0, 1000, .inl kf2_147)), (na, .inl (G.2.1 1, 1000, .inl nf2_147)), (ga, .inl (G.2.1 1, 1000, .inl gf2_147)), (sa, .inl (G.2.1 1, 1000, .inl sf2_147)), (xr, .inr (1, [.ref xa, .int xsz2_147])), (xa, .inl (G.2.1 0, 1000, .inl xf2_147)), (rd, .inr (3, [.ref tr, .ref t, .int at2_147])), (tr, .inr (1, [.ref ta, .int tsz])), (ta, .inl (G.2.1 0, 1000, .inl tf))] := hD
    refine lv_iconst (v := 0) hx hb d_Reader_number_161 (by decide) ?_
    refine gc_i (wr := [(rd, .inr (3, [.ref tr, .ref t, .int at2_147])), (tr, .inr (1, [.ref ta, .int tsz])), (ta, .inl (G.2.1 0, 1000, .inl tf))]) (gc_V (wc := [(t, .inr (2, [.ref ka, .ref na, .ref ga, .ref sa, .ref xr, .int size2_147])), (ka, .inl (G.2.1 0, 1000, .inl kf2_147)), (na, .inl (G.2.1 1, 1000, .inl nf2_147)), (ga, .inl (G.2.1 1, 1000, .inl gf2_147)), (sa, .inl (G.2.1 1, 1000, .inl sf2_147)), (xr, .inr (1, [.ref xa, .int xsz2_147])), (xa, .inl (G.2.1 0, 1000, .inl xf2_147))]) (As := [.int 3, .int r_1, .int 0]) (rest := []) ⟨hx, hb, hml, hown, hw⟩ (c_Tree_add l G t ka na ga sa xr xa kf2_147 nf2_147 gf2_147 sf2_147 size2_147 xsz2_147 xf2_147 3 r_1 0 hj0_147 hj1_147 H.size) (cwV 3 hw (good_V m_165 m_166 m_167 m_3 m_168) rfl rfl rfl hy_Tree_add ⟨Nat.le_of_ble_eq_true rfl, Nat.le_of_ble_eq_true rfl⟩) hE hP hD hS hA (va_recv hE.1 hP (ci := 2) (q0 := 0) rfl rfl) [0, 1, 2, 3, 4, 5, 6] rfl (by decide) rfl hl rfl (Nat.le_of_ble_eq_true rfl) d_Reader_number_162 ⟨Nat.le_of_ble_eq_true rfl, Nat.le_of_ble_eq_true rfl⟩) hP hD hS hA [0, 1, 2, 3, 4, 5, 6] [7, 8, 9] rfl rfl (by decide) (by decide) (fun r_4 u_5 H locs hw_6 hP hD hS => ?_)
    obtain ⟨kf2_7, nf2_8, gf2_9, sf2_10, size2_11⟩ := u_5
    try dsimp only at hw_6
    have h_12 := hw_6
    have hP : va_P G.1 vwCl [(rd, .inr (3, [.ref tr, .ref t, .int at2_147])), (tr, .inr (1, [.ref ta, .int tsz])), (ta, .inl (G.2.1 0, 1000, .inl tf)), (t, .inr (2, [.ref ka, .ref na, .ref ga, .ref sa, .ref xr, .int size2_11])), (ka, .inl (G.2.1 0, 1000, .inl kf2_7)), (na, .inl (G.2.1 1, 1000, .inl nf2_8)), (ga, .inl (G.2.1 1, 1000, .inl gf2_9)), (sa, .inl (G.2.1 1, 1000, .inl sf2_10)), (xr, .inr (1, [.ref xa, .int xsz2_147])), (xa, .inl (G.2.1 0, 1000, .inl xf2_147))] H := hP
    have hD : va_D A [(rd, .inr (3, [.ref tr, .ref t, .int at2_147])), (tr, .inr (1, [.ref ta, .int tsz])), (ta, .inl (G.2.1 0, 1000, .inl tf)), (t, .inr (2, [.ref ka, .ref na, .ref ga, .ref sa, .ref xr, .int size2_11])), (ka, .inl (G.2.1 0, 1000, .inl kf2_7)), (na, .inl (G.2.1 1, 1000, .inl nf2_8)), (ga, .inl (G.2.1 1, 1000, .inl gf2_9)), (sa, .inl (G.2.1 1, 1000, .inl sf2_10)), (xr, .inr (1, [.ref xa, .int xsz2_147])), (xa, .inl (G.2.1 0, 1000, .inl xf2_147))] := hD
    refine lv_pop hx hb d_Reader_number_165 rfl ?_
    refine lv_aload_n hx hb d_Reader_number_166 rfl (lv_at hl 5 rfl) ?_
    refine lv_dup hx hb d_Reader_number_167 rfl ?_
    refine va_get (D := G.1) (ci := 3) (v := .int at2_147) (C := R_Reader) (T := F_Reader) (N := 3) hx hb hw i_Reader hown hE.1 hP 0 rfl rfl 2 (by decide) (hw _ m_117) (fun _ h9 => h9) rfl d_Reader_number_168 ?_
    refine lv_iload_n hx hb d_Reader_number_171 rfl (lv_at hl 4 rfl) ?_
    refine lv_iadd hx hb d_Reader_number_172 ?_
    refine lv_topi (fun y_13 ey_13 => ?_)
    refine va_put (D := G.1) (ci := 3) (v := .int y_13) (ty := .int) (C := R_Reader) (T := F_Reader) (N := 3) hx hb hw i_Reader t_Reader t_Reader_ok n_Reader hown hE.1 hP hD hS 0 rfl rfl 2 (by decide) (hw _ m_117) (fun _ h9 => h9) rfl (by decide +kernel) rfl rfl (Nat.le_of_ble_eq_true rfl) d_Reader_number_173 (fun H locs hP hD hS => ?_)
    have hP : va_P G.1 vwCl [(rd, .inr (3, [.ref tr, .ref t, .int y_13])), (tr, .inr (1, [.ref ta, .int tsz])), (ta, .inl (G.2.1 0, 1000, .inl tf)), (t, .inr (2, [.ref ka, .ref na, .ref ga, .ref sa, .ref xr, .int size2_11])), (ka, .inl (G.2.1 0, 1000, .inl kf2_7)), (na, .inl (G.2.1 1, 1000, .inl nf2_8)), (ga, .inl (G.2.1 1, 1000, .inl gf2_9)), (sa, .inl (G.2.1 1, 1000, .inl sf2_10)), (xr, .inr (1, [.ref xa, .int xsz2_147])), (xa, .inl (G.2.1 0, 1000, .inl xf2_147))] H := hP
    have hD : va_D A [(rd, .inr (3, [.ref tr, .ref t, .int y_13])), (tr, .inr (1, [.ref ta, .int tsz])), (ta, .inl (G.2.1 0, 1000, .inl tf)), (t, .inr (2, [.ref ka, .ref na, .ref ga, .ref sa, .ref xr, .int size2_11])), (ka, .inl (G.2.1 0, 1000, .inl kf2_7)), (na, .inl (G.2.1 1, 1000, .inl nf2_8)), (ga, .inl (G.2.1 1, 1000, .inl gf2_9)), (sa, .inl (G.2.1 1, 1000, .inl sf2_10)), (xr, .inr (1, [.ref xa, .int xsz2_147])), (xa, .inl (G.2.1 0, 1000, .inl xf2_147))] := hD
    refine lv_iconst (v := 1) hx hb d_Reader_number_176 (by decide) ?_
    exact ret 1 (y_13, kf2_7, nf2_8, gf2_9, sf2_10, size2_11, xsz2_147, xf2_147) (Nat.le_of_ble_eq_true rfl) (Nat.le_of_ble_eq_true rfl) d_Reader_number_177 rfl ⟨h_12, hj1_147, (by first | assumption | decide)⟩ (hP.sub [0, 1, 2, 3, 4, 5, 6, 7, 8, 9] rfl) (hD.sub [0, 1, 2, 3, 4, 5, 6, 7, 8, 9] (by decide) rfl) hS
  have J_78 : ∀ (x4_78 : Int32) (x3_78 : Int32) (x2_78 : Int32) (x1_78 : Int32) (k0_78 : Int32) (at2_78 : Int32) (kf2_78 : Nat → Int32) (nf2_78 : Nat → Int32) (gf2_78 : Nat → Int32) (sf2_78 : Nat → Int32) (size2_78 : Int32) (xsz2_78 : Int32) (xf2_78 : Nat → Int32) (hj0_78 : RowOk 1000 size2_78) (hj1_78 : RowOk 1000 xsz2_78) (H : Heap) (locs : List Loc), va_P G.1 vwCl [(rd, .inr (3, [.ref tr, .ref t, .int at2_78])), (tr, .inr (1, [.ref ta, .int tsz])), (ta, .inl (G.2.1 0, 1000, .inl tf)), (t, .inr (2, [.ref ka, .ref na, .ref ga, .ref sa, .ref xr, .int size2_78])), (ka, .inl (G.2.1 0, 1000, .inl kf2_78)), (na, .inl (G.2.1 1, 1000, .inl nf2_78)), (ga, .inl (G.2.1 1, 1000, .inl gf2_78)), (sa, .inl (G.2.1 1, 1000, .inl sf2_78)), (xr, .inr (1, [.ref xa, .int xsz2_78])), (xa, .inl (G.2.1 0, 1000, .inl xf2_78))] H → va_D A [(rd, .inr (3, [.ref tr, .ref t, .int at2_78])), (tr, .inr (1, [.ref ta, .int tsz])), (ta, .inl (G.2.1 0, 1000, .inl tf)), (t, .inr (2, [.ref ka, .ref na, .ref ga, .ref sa, .ref xr, .int size2_78])), (ka, .inl (G.2.1 0, 1000, .inl kf2_78)), (na, .inl (G.2.1 1, 1000, .inl nf2_78)), (ga, .inl (G.2.1 1, 1000, .inl gf2_78)), (sa, .inl (G.2.1 1, 1000, .inl sf2_78)), (xr, .inr (1, [.ref xa, .int xsz2_78])), (xa, .inl (G.2.1 0, 1000, .inl xf2_78))] → va_S A s.heap H locs → ∀ ls : Array Slot, lv_has ls 6 [(4, .int x4_78), (3, .int x3_78), (2, .int x2_78), (1, .int x1_78), (0, .ref rd)] → W p l e rm_Reader_number s m args below meth c H locs 0 0 Q (F0 m 78 ls [.int k0_78]) := by
    intro x4_78 x3_78 x2_78 x1_78 k0_78 at2_78 kf2_78 nf2_78 gf2_78 sf2_78 size2_78 xsz2_78 xf2_78 hj0_78 hj1_78 H locs hP hD hS ls hl
    refine lv_istore (lv' := [(5, .int k0_78), (4, .int x4_78), (3, .int x3_78), (2, .int x2_78), (1, .int x1_78), (0, .ref rd)]) hx hb d_Reader_number_78 hl (by decide) rfl (fun ls hl => ?_)
    refine lv_iload hx hb d_Reader_number_80 (lv_at hl 0 rfl) ?_
    refine lv_if_eq (tgt := 147) hx hb d_Reader_number_82 (by decide) (fun c_14 => ?_) (fun c_14 => ?_)
    · exact J_147 k0_78 x4_78 x3_78 x2_78 x1_78 at2_78 kf2_78 nf2_78 gf2_78 sf2_78 size2_78 xsz2_78 xf2_78 hj0_78 hj1_78 _ _ (hP.sub [0, 1, 2, 3, 4, 5, 6, 7, 8, 9] rfl) (hD.sub [0, 1, 2, 3, 4, 5, 6, 7, 8, 9] (by decide) rfl) hS _ (lv_sub hl [0, 1, 2, 3, 4, 5] rfl)
    · refine lv_aload_n hx hb d_Reader_number_85 rfl (lv_at hl 5 rfl) ?_
      refine lv_sipush (v := 300) hx hb d_Reader_number_86 (by decide) ?_
      refine lv_aload_n hx hb d_Reader_number_89 rfl (lv_at hl 5 rfl) ?_
      refine va_get (D := G.1) (ci := 3) (v := .int at2_78) (C := R_Reader) (T := F_Reader) (N := 3) hx hb hw i_Reader hown hE.1 hP 0 rfl rfl 2 (by decide) (hw _ m_117) (fun _ h9 => h9) rfl d_Reader_number_90 ?_
      refine lv_iload_n hx hb d_Reader_number_93 rfl (lv_at hl 4 rfl) ?_
      refine gc_i (wr := [(t, .inr (2, [.ref ka, .ref na, .ref ga, .ref sa, .ref xr, .int size2_78])), (ka, .inl (G.2.1 0, 1000, .inl kf2_78)), (na, .inl (G.2.1 1, 1000, .inl nf2_78)), (ga, .inl (G.2.1 1, 1000, .inl gf2_78)), (sa, .inl (G.2.1 1, 1000, .inl sf2_78)), (xr, .inr (1, [.ref xa, .int xsz2_78])), (xa, .inl (G.2.1 0, 1000, .inl xf2_78))]) (gc_V (wc := [(rd, .inr (3, [.ref tr, .ref t, .int at2_78])), (tr, .inr (1, [.ref ta, .int tsz])), (ta, .inl (G.2.1 0, 1000, .inl tf))]) (As := [.int 300, .int at2_78, .int x1_78]) (rest := []) ⟨hx, hb, hml, hown, hw⟩ (c_Reader_isBelow l G rd t at2_78 tr ta tsz tf 300 at2_78 x1_78 htp H.size) (cwV 3 hw (good_V m_243 m_245 ms_14 m_5 m_246) rfl rfl rfl hy_Reader_isBelow ⟨Nat.le_of_ble_eq_true rfl, Nat.le_of_ble_eq_true rfl⟩) hE hP hD hS hA (va_recv hE.1 hP (ci := 3) (q0 := 0) rfl rfl) [0, 1, 2] rfl (by decide) rfl hl rfl (Nat.le_of_ble_eq_true rfl) d_Reader_number_94 ⟨Nat.le_of_ble_eq_true rfl, Nat.le_of_ble_eq_true rfl⟩) hP hD hS hA [0, 1, 2] [3, 4, 5, 6, 7, 8, 9] rfl rfl (by decide) (by decide) (fun r_15 u_16 H locs hw_17 hP hD hS => ?_)
      try dsimp only at hw_17
      have h_18 := hw_17
      have hP : va_P G.1 vwCl [(t, .inr (2, [.ref ka, .ref na, .ref ga, .ref sa, .ref xr, .int size2_78])), (ka, .inl (G.2.1 0, 1000, .inl kf2_78)), (na, .inl (G.2.1 1, 1000, .inl nf2_78)), (ga, .inl (G.2.1 1, 1000, .inl gf2_78)), (sa, .inl (G.2.1 1, 1000, .inl sf2_78)), (xr, .inr (1, [.ref xa, .int xsz2_78])), (xa, .inl (G.2.1 0, 1000, .inl xf2_78)), (rd, .inr (3, [.ref tr, .ref t, .int at2_78])), (tr, .inr (1, [.ref ta, .int tsz])), (ta, .inl (G.2.1 0, 1000, .inl tf))] H := hP
      have hD : va_D A [(t, .inr (2, [.ref ka, .ref na, .ref ga, .ref sa, .ref xr, .int size2_78])), (ka, .inl (G.2.1 0, 1000, .inl kf2_78)), (na, .inl (G.2.1 1, 1000, .inl nf2_78)), (ga, .inl (G.2.1 1, 1000, .inl gf2_78)), (sa, .inl (G.2.1 1, 1000, .inl sf2_78)), (xr, .inr (1, [.ref xa, .int xsz2_78])), (xa, .inl (G.2.1 0, 1000, .inl xf2_78)), (rd, .inr (3, [.ref tr, .ref t, .int at2_78])), (tr, .inr (1, [.ref ta, .int tsz])), (ta, .inl (G.2.1 0, 1000, .inl tf))] := hD
      refine lv_if_eq (tgt := 147) hx hb d_Reader_number_97 (by decide) (fun c_19 => ?_) (fun c_19 => ?_)
      · exact J_147 k0_78 x4_78 x3_78 x2_78 x1_78 at2_78 kf2_78 nf2_78 gf2_78 sf2_78 size2_78 xsz2_78 xf2_78 hj0_78 hj1_78 _ _ (hP.sub [7, 8, 9, 0, 1, 2, 3, 4, 5, 6] rfl) (hD.sub [7, 8, 9, 0, 1, 2, 3, 4, 5, 6] (by decide) rfl) hS _ (lv_sub hl [0, 1, 2, 3, 4, 5] rfl)
      · refine lv_aload_n hx hb d_Reader_number_100 rfl (lv_at hl 5 rfl) ?_
        refine lv_ldc (v := 65536) hx hb hown (hw _ m_251) d_Reader_number_101 ?_
        refine lv_iload_n hx hb d_Reader_number_103 rfl (lv_at hl 3 rfl) ?_
        refine lv_iload_n hx hb d_Reader_number_104 rfl (lv_at hl 2 rfl) ?_
        refine gc_i (wr := [(t, .inr (2, [.ref ka, .ref na, .ref ga, .ref sa, .ref xr, .int size2_78])), (ka, .inl (G.2.1 0, 1000, .inl kf2_78)), (na, .inl (G.2.1 1, 1000, .inl nf2_78)), (ga, .inl (G.2.1 1, 1000, .inl gf2_78)), (sa, .inl (G.2.1 1, 1000, .inl sf2_78)), (xr, .inr (1, [.ref xa, .int xsz2_78])), (xa, .inl (G.2.1 0, 1000, .inl xf2_78))]) (gc_V (wc := [(rd, .inr (3, [.ref tr, .ref t, .int at2_78])), (tr, .inr (1, [.ref ta, .int tsz])), (ta, .inl (G.2.1 0, 1000, .inl tf))]) (As := [.int 65536, .int x2_78, .int x3_78]) (rest := []) ⟨hx, hb, hml, hown, hw⟩ (c_Reader_isBelow l G rd t at2_78 tr ta tsz tf 65536 x2_78 x3_78 htp H.size) (cwV 3 hw (good_V m_243 m_245 ms_14 m_5 m_246) rfl rfl rfl hy_Reader_isBelow ⟨Nat.le_of_ble_eq_true rfl, Nat.le_of_ble_eq_true rfl⟩) hE hP hD hS hA (va_recv hE.1 hP (ci := 3) (q0 := 7) rfl rfl) [7, 8, 9] rfl (by decide) rfl hl rfl (Nat.le_of_ble_eq_true rfl) d_Reader_number_105 ⟨Nat.le_of_ble_eq_true rfl, Nat.le_of_ble_eq_true rfl⟩) hP hD hS hA [7, 8, 9] [0, 1, 2, 3, 4, 5, 6] rfl rfl (by decide) (by decide) (fun r_20 u_21 H locs hw_22 hP hD hS => ?_)
        try dsimp only at hw_22
        have h_23 := hw_22
        have hP : va_P G.1 vwCl [(t, .inr (2, [.ref ka, .ref na, .ref ga, .ref sa, .ref xr, .int size2_78])), (ka, .inl (G.2.1 0, 1000, .inl kf2_78)), (na, .inl (G.2.1 1, 1000, .inl nf2_78)), (ga, .inl (G.2.1 1, 1000, .inl gf2_78)), (sa, .inl (G.2.1 1, 1000, .inl sf2_78)), (xr, .inr (1, [.ref xa, .int xsz2_78])), (xa, .inl (G.2.1 0, 1000, .inl xf2_78)), (rd, .inr (3, [.ref tr, .ref t, .int at2_78])), (tr, .inr (1, [.ref ta, .int tsz])), (ta, .inl (G.2.1 0, 1000, .inl tf))] H := hP
        have hD : va_D A [(t, .inr (2, [.ref ka, .ref na, .ref ga, .ref sa, .ref xr, .int size2_78])), (ka, .inl (G.2.1 0, 1000, .inl kf2_78)), (na, .inl (G.2.1 1, 1000, .inl nf2_78)), (ga, .inl (G.2.1 1, 1000, .inl gf2_78)), (sa, .inl (G.2.1 1, 1000, .inl sf2_78)), (xr, .inr (1, [.ref xa, .int xsz2_78])), (xa, .inl (G.2.1 0, 1000, .inl xf2_78)), (rd, .inr (3, [.ref tr, .ref t, .int at2_78])), (tr, .inr (1, [.ref ta, .int tsz])), (ta, .inl (G.2.1 0, 1000, .inl tf))] := hD
        refine lv_if_eq (tgt := 147) hx hb d_Reader_number_108 (by decide) (fun c_24 => ?_) (fun c_24 => ?_)
        · exact J_147 k0_78 x4_78 x3_78 x2_78 x1_78 at2_78 kf2_78 nf2_78 gf2_78 sf2_78 size2_78 xsz2_78 xf2_78 hj0_78 hj1_78 _ _ (hP.sub [7, 8, 9, 0, 1, 2, 3, 4, 5, 6] rfl) (hD.sub [7, 8, 9, 0, 1, 2, 3, 4, 5, 6] (by decide) rfl) hS _ (lv_sub hl [0, 1, 2, 3, 4, 5] rfl)
        · refine lv_aload_n hx hb d_Reader_number_111 rfl (lv_at hl 5 rfl) ?_
          refine va_get (D := G.1) (ci := 3) (v := .ref t) (C := R_Reader) (T := F_Reader) (N := 3) hx hb hw i_Reader hown hE.1 hP 7 rfl rfl 1 (by decide) (hw _ m_116) (fun _ h9 => h9) rfl d_Reader_number_112 ?_
          refine lv_bipush (v := 8) hx hb d_Reader_number_115 (by decide) ?_
          refine lv_aload_n hx hb d_Reader_number_117 rfl (lv_at hl 5 rfl) ?_
          refine lv_aload_n hx hb d_Reader_number_118 rfl (lv_at hl 5 rfl) ?_
          refine va_get (D := G.1) (ci := 3) (v := .int at2_78) (C := R_Reader) (T := F_Reader) (N := 3) hx hb hw i_Reader hown hE.1 hP 7 rfl rfl 2 (by decide) (hw _ m_117) (fun _ h9 => h9) rfl d_Reader_number_119 ?_
          refine lv_iload_n hx hb d_Reader_number_122 rfl (lv_at hl 4 rfl) ?_
          refine gc_i (wr := [(t, .inr (2, [.ref ka, .ref na, .ref ga, .ref sa, .ref xr, .int size2_78])), (ka, .inl (G.2.1 0, 1000, .inl kf2_78)), (na, .inl (G.2.1 1, 1000, .inl nf2_78)), (ga, .inl (G.2.1 1, 1000, .inl gf2_78)), (sa, .inl (G.2.1 1, 1000, .inl sf2_78)), (xr, .inr (1, [.ref xa, .int xsz2_78])), (xa, .inl (G.2.1 0, 1000, .inl xf2_78))]) (gc_V (wc := [(rd, .inr (3, [.ref tr, .ref t, .int at2_78])), (tr, .inr (1, [.ref ta, .int tsz])), (ta, .inl (G.2.1 0, 1000, .inl tf))]) (As := [.int at2_78, .int x1_78]) (rest := [.int 8, .ref t]) ⟨hx, hb, hml, hown, hw⟩ (c_Reader_numberAt l G rd t at2_78 tr ta tsz tf at2_78 x1_78 htp H.size) (cwV 2 hw (good_V m_247 m_249 ms_15 m_5 m_250) rfl rfl rfl hy_Reader_numberAt ⟨Nat.le_of_ble_eq_true rfl, Nat.le_of_ble_eq_true rfl⟩) hE hP hD hS hA (va_recv hE.1 hP (ci := 3) (q0 := 7) rfl rfl) [7, 8, 9] rfl (by decide) rfl hl rfl (Nat.le_of_ble_eq_true rfl) d_Reader_number_123 ⟨Nat.le_of_ble_eq_true rfl, Nat.le_of_ble_eq_true rfl⟩) hP hD hS hA [7, 8, 9] [0, 1, 2, 3, 4, 5, 6] rfl rfl (by decide) (by decide) (fun r_25 u_26 H locs hw_27 hP hD hS => ?_)
          have hP : va_P G.1 vwCl [(t, .inr (2, [.ref ka, .ref na, .ref ga, .ref sa, .ref xr, .int size2_78])), (ka, .inl (G.2.1 0, 1000, .inl kf2_78)), (na, .inl (G.2.1 1, 1000, .inl nf2_78)), (ga, .inl (G.2.1 1, 1000, .inl gf2_78)), (sa, .inl (G.2.1 1, 1000, .inl sf2_78)), (xr, .inr (1, [.ref xa, .int xsz2_78])), (xa, .inl (G.2.1 0, 1000, .inl xf2_78)), (rd, .inr (3, [.ref tr, .ref t, .int at2_78])), (tr, .inr (1, [.ref ta, .int tsz])), (ta, .inl (G.2.1 0, 1000, .inl tf))] H := hP
          have hD : va_D A [(t, .inr (2, [.ref ka, .ref na, .ref ga, .ref sa, .ref xr, .int size2_78])), (ka, .inl (G.2.1 0, 1000, .inl kf2_78)), (na, .inl (G.2.1 1, 1000, .inl nf2_78)), (ga, .inl (G.2.1 1, 1000, .inl gf2_78)), (sa, .inl (G.2.1 1, 1000, .inl sf2_78)), (xr, .inr (1, [.ref xa, .int xsz2_78])), (xa, .inl (G.2.1 0, 1000, .inl xf2_78)), (rd, .inr (3, [.ref tr, .ref t, .int at2_78])), (tr, .inr (1, [.ref ta, .int tsz])), (ta, .inl (G.2.1 0, 1000, .inl tf))] := hD
          refine lv_aload_n hx hb d_Reader_number_126 rfl (lv_at hl 5 rfl) ?_
          refine lv_iload_n hx hb d_Reader_number_127 rfl (lv_at hl 3 rfl) ?_
          refine lv_iload_n hx hb d_Reader_number_128 rfl (lv_at hl 2 rfl) ?_
          refine gc_i (wr := [(t, .inr (2, [.ref ka, .ref na, .ref ga, .ref sa, .ref xr, .int size2_78])), (ka, .inl (G.2.1 0, 1000, .inl kf2_78)), (na, .inl (G.2.1 1, 1000, .inl nf2_78)), (ga, .inl (G.2.1 1, 1000, .inl gf2_78)), (sa, .inl (G.2.1 1, 1000, .inl sf2_78)), (xr, .inr (1, [.ref xa, .int xsz2_78])), (xa, .inl (G.2.1 0, 1000, .inl xf2_78))]) (gc_V (wc := [(rd, .inr (3, [.ref tr, .ref t, .int at2_78])), (tr, .inr (1, [.ref ta, .int tsz])), (ta, .inl (G.2.1 0, 1000, .inl tf))]) (As := [.int x2_78, .int x3_78]) (rest := [.int r_25, .int 8, .ref t]) ⟨hx, hb, hml, hown, hw⟩ (c_Reader_numberAt l G rd t at2_78 tr ta tsz tf x2_78 x3_78 htp H.size) (cwV 2 hw (good_V m_247 m_249 ms_15 m_5 m_250) rfl rfl rfl hy_Reader_numberAt ⟨Nat.le_of_ble_eq_true rfl, Nat.le_of_ble_eq_true rfl⟩) hE hP hD hS hA (va_recv hE.1 hP (ci := 3) (q0 := 7) rfl rfl) [7, 8, 9] rfl (by decide) rfl hl rfl (Nat.le_of_ble_eq_true rfl) d_Reader_number_129 ⟨Nat.le_of_ble_eq_true rfl, Nat.le_of_ble_eq_true rfl⟩) hP hD hS hA [7, 8, 9] [0, 1, 2, 3, 4, 5, 6] rfl rfl (by decide) (by decide) (fun r_28 u_29 H locs hw_30 hP hD hS => ?_)
          have hP : va_P G.1 vwCl [(t, .inr (2, [.ref ka, .ref na, .ref ga, .ref sa, .ref xr, .int size2_78])), (ka, .inl (G.2.1 0, 1000, .inl kf2_78)), (na, .inl (G.2.1 1, 1000, .inl nf2_78)), (ga, .inl (G.2.1 1, 1000, .inl gf2_78)), (sa, .inl (G.2.1 1, 1000, .inl sf2_78)), (xr, .inr (1, [.ref xa, .int xsz2_78])), (xa, .inl (G.2.1 0, 1000, .inl xf2_78)), (rd, .inr (3, [.ref tr, .ref t, .int at2_78])), (tr, .inr (1, [.ref ta, .int tsz])), (ta, .inl (G.2.1 0, 1000, .inl tf))] H := hP
          have hD : va_D A [(t, .inr (2, [.ref ka, .ref na, .ref ga, .ref sa, .ref xr, .int size2_78])), (ka, .inl (G.2.1 0, 1000, .inl kf2_78)), (na, .inl (G.2.1 1, 1000, .inl nf2_78)), (ga, .inl (G.2.1 1, 1000, .inl gf2_78)), (sa, .inl (G.2.1 1, 1000, .inl sf2_78)), (xr, .inr (1, [.ref xa, .int xsz2_78])), (xa, .inl (G.2.1 0, 1000, .inl xf2_78)), (rd, .inr (3, [.ref tr, .ref t, .int at2_78])), (tr, .inr (1, [.ref ta, .int tsz])), (ta, .inl (G.2.1 0, 1000, .inl tf))] := hD
          refine gc_i (wr := [(rd, .inr (3, [.ref tr, .ref t, .int at2_78])), (tr, .inr (1, [.ref ta, .int tsz])), (ta, .inl (G.2.1 0, 1000, .inl tf))]) (gc_V (wc := [(t, .inr (2, [.ref ka, .ref na, .ref ga, .ref sa, .ref xr, .int size2_78])), (ka, .inl (G.2.1 0, 1000, .inl kf2_78)), (na, .inl (G.2.1 1, 1000, .inl nf2_78)), (ga, .inl (G.2.1 1, 1000, .inl gf2_78)), (sa, .inl (G.2.1 1, 1000, .inl sf2_78)), (xr, .inr (1, [.ref xa, .int xsz2_78])), (xa, .inl (G.2.1 0, 1000, .inl xf2_78))]) (As := [.int 8, .int r_25, .int r_28]) (rest := []) ⟨hx, hb, hml, hown, hw⟩ (c_Tree_add l G t ka na ga sa xr xa kf2_78 nf2_78 gf2_78 sf2_78 size2_78 xsz2_78 xf2_78 8 r_25 r_28 hj0_78 hj1_78 H.size) (cwV 3 hw (good_V m_165 m_166 m_167 m_3 m_168) rfl rfl rfl hy_Tree_add ⟨Nat.le_of_ble_eq_true rfl, Nat.le_of_ble_eq_true rfl⟩) hE hP hD hS hA (va_recv hE.1 hP (ci := 2) (q0 := 0) rfl rfl) [0, 1, 2, 3, 4, 5, 6] rfl (by decide) rfl hl rfl (Nat.le_of_ble_eq_true rfl) d_Reader_number_132 ⟨Nat.le_of_ble_eq_true rfl, Nat.le_of_ble_eq_true rfl⟩) hP hD hS hA [0, 1, 2, 3, 4, 5, 6] [7, 8, 9] rfl rfl (by decide) (by decide) (fun r_31 u_32 H locs hw_33 hP hD hS => ?_)
          obtain ⟨kf2_34, nf2_35, gf2_36, sf2_37, size2_38⟩ := u_32
          try dsimp only at hw_33
          have h_39 := hw_33
          have hP : va_P G.1 vwCl [(rd, .inr (3, [.ref tr, .ref t, .int at2_78])), (tr, .inr (1, [.ref ta, .int tsz])), (ta, .inl (G.2.1 0, 1000, .inl tf)), (t, .inr (2, [.ref ka, .ref na, .ref ga, .ref sa, .ref xr, .int size2_38])), (ka, .inl (G.2.1 0, 1000, .inl kf2_34)), (na, .inl (G.2.1 1, 1000, .inl nf2_35)), (ga, .inl (G.2.1 1, 1000, .inl gf2_36)), (sa, .inl (G.2.1 1, 1000, .inl sf2_37)), (xr, .inr (1, [.ref xa, .int xsz2_78])), (xa, .inl (G.2.1 0, 1000, .inl xf2_78))] H := hP
          have hD : va_D A [(rd, .inr (3, [.ref tr, .ref t, .int at2_78])), (tr, .inr (1, [.ref ta, .int tsz])), (ta, .inl (G.2.1 0, 1000, .inl tf)), (t, .inr (2, [.ref ka, .ref na, .ref ga, .ref sa, .ref xr, .int size2_38])), (ka, .inl (G.2.1 0, 1000, .inl kf2_34)), (na, .inl (G.2.1 1, 1000, .inl nf2_35)), (ga, .inl (G.2.1 1, 1000, .inl gf2_36)), (sa, .inl (G.2.1 1, 1000, .inl sf2_37)), (xr, .inr (1, [.ref xa, .int xsz2_78])), (xa, .inl (G.2.1 0, 1000, .inl xf2_78))] := hD
          refine lv_pop hx hb d_Reader_number_135 rfl ?_
          refine lv_aload_n hx hb d_Reader_number_136 rfl (lv_at hl 5 rfl) ?_
          refine lv_iload hx hb d_Reader_number_137 (lv_at hl 1 rfl) ?_
          refine lv_iconst (v := 1) hx hb d_Reader_number_139 (by decide) ?_
          refine lv_iadd hx hb d_Reader_number_140 ?_
          refine lv_topi (fun y_40 ey_40 => ?_)
          refine va_put (D := G.1) (ci := 3) (v := .int y_40) (ty := .int) (C := R_Reader) (T := F_Reader) (N := 3) hx hb hw i_Reader t_Reader t_Reader_ok n_Reader hown hE.1 hP hD hS 0 rfl rfl 2 (by decide) (hw _ m_117) (fun _ h9 => h9) rfl (by decide +kernel) rfl rfl (Nat.le_of_ble_eq_true rfl) d_Reader_number_141 (fun H locs hP hD hS => ?_)
          have hP : va_P G.1 vwCl [(rd, .inr (3, [.ref tr, .ref t, .int y_40])), (tr, .inr (1, [.ref ta, .int tsz])), (ta, .inl (G.2.1 0, 1000, .inl tf)), (t, .inr (2, [.ref ka, .ref na, .ref ga, .ref sa, .ref xr, .int size2_38])), (ka, .inl (G.2.1 0, 1000, .inl kf2_34)), (na, .inl (G.2.1 1, 1000, .inl nf2_35)), (ga, .inl (G.2.1 1, 1000, .inl gf2_36)), (sa, .inl (G.2.1 1, 1000, .inl sf2_37)), (xr, .inr (1, [.ref xa, .int xsz2_78])), (xa, .inl (G.2.1 0, 1000, .inl xf2_78))] H := hP
          have hD : va_D A [(rd, .inr (3, [.ref tr, .ref t, .int y_40])), (tr, .inr (1, [.ref ta, .int tsz])), (ta, .inl (G.2.1 0, 1000, .inl tf)), (t, .inr (2, [.ref ka, .ref na, .ref ga, .ref sa, .ref xr, .int size2_38])), (ka, .inl (G.2.1 0, 1000, .inl kf2_34)), (na, .inl (G.2.1 1, 1000, .inl nf2_35)), (ga, .inl (G.2.1 1, 1000, .inl gf2_36)), (sa, .inl (G.2.1 1, 1000, .inl sf2_37)), (xr, .inr (1, [.ref xa, .int xsz2_78])), (xa, .inl (G.2.1 0, 1000, .inl xf2_78))] := hD
          refine lv_goto (tgt := 176) hx hb d_Reader_number_144 (by decide) ?_
          refine lv_iconst (v := 1) hx hb d_Reader_number_176 (by decide) ?_
          exact ret 1 (y_40, kf2_34, nf2_35, gf2_36, sf2_37, size2_38, xsz2_78, xf2_78) (Nat.le_of_ble_eq_true rfl) (Nat.le_of_ble_eq_true rfl) d_Reader_number_177 rfl ⟨h_39, hj1_78, (by first | assumption | decide)⟩ (hP.sub [0, 1, 2, 3, 4, 5, 6, 7, 8, 9] rfl) (hD.sub [0, 1, 2, 3, 4, 5, 6, 7, 8, 9] (by decide) rfl) hS
  have J_77 : ∀ (x4_77 : Int32) (x3_77 : Int32) (x2_77 : Int32) (x1_77 : Int32) (at2_77 : Int32) (kf2_77 : Nat → Int32) (nf2_77 : Nat → Int32) (gf2_77 : Nat → Int32) (sf2_77 : Nat → Int32) (size2_77 : Int32) (xsz2_77 : Int32) (xf2_77 : Nat → Int32) (hj0_77 : RowOk 1000 size2_77) (hj1_77 : RowOk 1000 xsz2_77) (H : Heap) (locs : List Loc), va_P G.1 vwCl [(rd, .inr (3, [.ref tr, .ref t, .int at2_77])), (tr, .inr (1, [.ref ta, .int tsz])), (ta, .inl (G.2.1 0, 1000, .inl tf)), (t, .inr (2, [.ref ka, .ref na, .ref ga, .ref sa, .ref xr, .int size2_77])), (ka, .inl (G.2.1 0, 1000, .inl kf2_77)), (na, .inl (G.2.1 1, 1000, .inl nf2_77)), (ga, .inl (G.2.1 1, 1000, .inl gf2_77)), (sa, .inl (G.2.1 1, 1000, .inl sf2_77)), (xr, .inr (1, [.ref xa, .int xsz2_77])), (xa, .inl (G.2.1 0, 1000, .inl xf2_77))] H → va_D A [(rd, .inr (3, [.ref tr, .ref t, .int at2_77])), (tr, .inr (1, [.ref ta, .int tsz])), (ta, .inl (G.2.1 0, 1000, .inl tf)), (t, .inr (2, [.ref ka, .ref na, .ref ga, .ref sa, .ref xr, .int size2_77])), (ka, .inl (G.2.1 0, 1000, .inl kf2_77)), (na, .inl (G.2.1 1, 1000, .inl nf2_77)), (ga, .inl (G.2.1 1, 1000, .inl gf2_77)), (sa, .inl (G.2.1 1, 1000, .inl sf2_77)), (xr, .inr (1, [.ref xa, .int xsz2_77])), (xa, .inl (G.2.1 0, 1000, .inl xf2_77))] → va_S A s.heap H locs → ∀ ls : Array Slot, lv_has ls 6 [(4, .int x4_77), (3, .int x3_77), (2, .int x2_77), (1, .int x1_77), (0, .ref rd)] → W p l e rm_Reader_number s m args below meth c H locs 0 0 Q (F0 m 77 ls []) := by
    intro x4_77 x3_77 x2_77 x1_77 at2_77 kf2_77 nf2_77 gf2_77 sf2_77 size2_77 xsz2_77 xf2_77 hj0_77 hj1_77 H locs hP hD hS ls hl
    refine lv_iconst (v := 0) hx hb d_Reader_number_77 (by decide) ?_
    exact J_78 x4_77 x3_77 x2_77 x1_77 0 at2_77 kf2_77 nf2_77 gf2_77 sf2_77 size2_77 xsz2_77 xf2_77 hj0_77 hj1_77 _ _ (hP.sub [0, 1, 2, 3, 4, 5, 6, 7, 8, 9] rfl) (hD.sub [0, 1, 2, 3, 4, 5, 6, 7, 8, 9] (by decide) rfl) hS _ (lv_sub hl [0, 1, 2, 3, 4] rfl)
  refine lv_aload_n hx hb d_Reader_number_0 rfl (lv_at hl 0 rfl) ?_
  refine lv_aload_n hx hb d_Reader_number_1 rfl (lv_at hl 0 rfl) ?_
  refine va_get (D := G.1) (ci := 3) (v := .int at0) (C := R_Reader) (T := F_Reader) (N := 3) hx hb hw i_Reader hown hE.1 hP 0 rfl rfl 2 (by decide) (hw _ m_117) (fun _ h9 => h9) rfl d_Reader_number_2 ?_
  refine gc_i (wr := [(t, .inr (2, [.ref ka, .ref na, .ref ga, .ref sa, .ref xr, .int size])), (ka, .inl (G.2.1 0, 1000, .inl kf)), (na, .inl (G.2.1 1, 1000, .inl nf)), (ga, .inl (G.2.1 1, 1000, .inl gf)), (sa, .inl (G.2.1 1, 1000, .inl sf)), (xr, .inr (1, [.ref xa, .int xsz])), (xa, .inl (G.2.1 0, 1000, .inl xf))]) (gc_V (wc := [(rd, .inr (3, [.ref tr, .ref t, .int at0])), (tr, .inr (1, [.ref ta, .int tsz])), (ta, .inl (G.2.1 0, 1000, .inl tf))]) (As := [.int at0]) (rest := []) ⟨hx, hb, hml, hown, hw⟩ (c_Reader_wordLength l G rd t at0 tr ta tsz tf at0 htp H.size) (cwV 1 hw (good_V m_154 m_156 ms_3 m_5 m_157) rfl rfl rfl hy_Reader_wordLength ⟨Nat.le_of_ble_eq_true rfl, Nat.le_of_ble_eq_true rfl⟩) hE hP hD hS hA (va_recv hE.1 hP (ci := 3) (q0 := 0) rfl rfl) [0, 1, 2] rfl (by decide) rfl hl rfl (Nat.le_of_ble_eq_true rfl) d_Reader_number_5 ⟨Nat.le_of_ble_eq_true rfl, Nat.le_of_ble_eq_true rfl⟩) hP hD hS hA [0, 1, 2] [3, 4, 5, 6, 7, 8, 9] rfl rfl (by decide) (by decide) (fun r_41 u_42 H locs hw_43 hP hD hS => ?_)
  have hP : va_P G.1 vwCl [(t, .inr (2, [.ref ka, .ref na, .ref ga, .ref sa, .ref xr, .int size])), (ka, .inl (G.2.1 0, 1000, .inl kf)), (na, .inl (G.2.1 1, 1000, .inl nf)), (ga, .inl (G.2.1 1, 1000, .inl gf)), (sa, .inl (G.2.1 1, 1000, .inl sf)), (xr, .inr (1, [.ref xa, .int xsz])), (xa, .inl (G.2.1 0, 1000, .inl xf)), (rd, .inr (3, [.ref tr, .ref t, .int at0])), (tr, .inr (1, [.ref ta, .int tsz])), (ta, .inl (G.2.1 0, 1000, .inl tf))] H := hP
  have hD : va_D A [(t, .inr (2, [.ref ka, .ref na, .ref ga, .ref sa, .ref xr, .int size])), (ka, .inl (G.2.1 0, 1000, .inl kf)), (na, .inl (G.2.1 1, 1000, .inl nf)), (ga, .inl (G.2.1 1, 1000, .inl gf)), (sa, .inl (G.2.1 1, 1000, .inl sf)), (xr, .inr (1, [.ref xa, .int xsz])), (xa, .inl (G.2.1 0, 1000, .inl xf)), (rd, .inr (3, [.ref tr, .ref t, .int at0])), (tr, .inr (1, [.ref ta, .int tsz])), (ta, .inl (G.2.1 0, 1000, .inl tf))] := hD
  refine lv_istore_n (lv' := [(1, .int r_41), (0, .ref rd)]) hx hb d_Reader_number_8 rfl hl (by decide) rfl (fun ls hl => ?_)
  refine lv_aload_n hx hb d_Reader_number_9 rfl (lv_at hl 1 rfl) ?_
  refine lv_aload_n hx hb d_Reader_number_10 rfl (lv_at hl 1 rfl) ?_
  refine va_get (D := G.1) (ci := 3) (v := .int at0) (C := R_Reader) (T := F_Reader) (N := 3) hx hb hw i_Reader hown hE.1 hP 7 rfl rfl 2 (by decide) (hw _ m_117) (fun _ h9 => h9) rfl d_Reader_number_11 ?_
  refine lv_iload_n hx hb d_Reader_number_14 rfl (lv_at hl 0 rfl) ?_
  refine gc_i (wr := [(t, .inr (2, [.ref ka, .ref na, .ref ga, .ref sa, .ref xr, .int size])), (ka, .inl (G.2.1 0, 1000, .inl kf)), (na, .inl (G.2.1 1, 1000, .inl nf)), (ga, .inl (G.2.1 1, 1000, .inl gf)), (sa, .inl (G.2.1 1, 1000, .inl sf)), (xr, .inr (1, [.ref xa, .int xsz])), (xa, .inl (G.2.1 0, 1000, .inl xf))]) (gc_V (wc := [(rd, .inr (3, [.ref tr, .ref t, .int at0])), (tr, .inr (1, [.ref ta, .int tsz])), (ta, .inl (G.2.1 0, 1000, .inl tf))]) (As := [.int at0, .int r_41]) (rest := []) ⟨hx, hb, hml, hown, hw⟩ (c_Reader_isInt l G rd t at0 tr ta tsz tf at0 r_41 htp H.size) (cwV 2 hw (good_V m_239 m_241 ms_13 m_5 m_242) rfl rfl rfl hy_Reader_isInt ⟨Nat.le_of_ble_eq_true rfl, Nat.le_of_ble_eq_true rfl⟩) hE hP hD hS hA (va_recv hE.1 hP (ci := 3) (q0 := 7) rfl rfl) [7, 8, 9] rfl (by decide) rfl hl rfl (Nat.le_of_ble_eq_true rfl) d_Reader_number_15 ⟨Nat.le_of_ble_eq_true rfl, Nat.le_of_ble_eq_true rfl⟩) hP hD hS hA [7, 8, 9] [0, 1, 2, 3, 4, 5, 6] rfl rfl (by decide) (by decide) (fun r_44 u_45 H locs hw_46 hP hD hS => ?_)
  try dsimp only at hw_46
  have h_47 := hw_46
  have hP : va_P G.1 vwCl [(t, .inr (2, [.ref ka, .ref na, .ref ga, .ref sa, .ref xr, .int size])), (ka, .inl (G.2.1 0, 1000, .inl kf)), (na, .inl (G.2.1 1, 1000, .inl nf)), (ga, .inl (G.2.1 1, 1000, .inl gf)), (sa, .inl (G.2.1 1, 1000, .inl sf)), (xr, .inr (1, [.ref xa, .int xsz])), (xa, .inl (G.2.1 0, 1000, .inl xf)), (rd, .inr (3, [.ref tr, .ref t, .int at0])), (tr, .inr (1, [.ref ta, .int tsz])), (ta, .inl (G.2.1 0, 1000, .inl tf))] H := hP
  have hD : va_D A [(t, .inr (2, [.ref ka, .ref na, .ref ga, .ref sa, .ref xr, .int size])), (ka, .inl (G.2.1 0, 1000, .inl kf)), (na, .inl (G.2.1 1, 1000, .inl nf)), (ga, .inl (G.2.1 1, 1000, .inl gf)), (sa, .inl (G.2.1 1, 1000, .inl sf)), (xr, .inr (1, [.ref xa, .int xsz])), (xa, .inl (G.2.1 0, 1000, .inl xf)), (rd, .inr (3, [.ref tr, .ref t, .int at0])), (tr, .inr (1, [.ref ta, .int tsz])), (ta, .inl (G.2.1 0, 1000, .inl tf))] := hD
  refine lv_if_ne (tgt := 23) hx hb d_Reader_number_18 (by decide) (fun c_48 => ?_) (fun c_48 => ?_)
  · refine lv_aload_n hx hb d_Reader_number_23 rfl (lv_at hl 1 rfl) ?_
    refine lv_aload_n hx hb d_Reader_number_24 rfl (lv_at hl 1 rfl) ?_
    refine va_get (D := G.1) (ci := 3) (v := .int at0) (C := R_Reader) (T := F_Reader) (N := 3) hx hb hw i_Reader hown hE.1 hP 7 rfl rfl 2 (by decide) (hw _ m_117) (fun _ h9 => h9) rfl d_Reader_number_25 ?_
    refine lv_iload_n hx hb d_Reader_number_28 rfl (lv_at hl 0 rfl) ?_
    refine lv_iadd hx hb d_Reader_number_29 ?_
    refine lv_topi (fun y_49 ey_49 => ?_)
    refine gc_i (wr := [(t, .inr (2, [.ref ka, .ref na, .ref ga, .ref sa, .ref xr, .int size])), (ka, .inl (G.2.1 0, 1000, .inl kf)), (na, .inl (G.2.1 1, 1000, .inl nf)), (ga, .inl (G.2.1 1, 1000, .inl gf)), (sa, .inl (G.2.1 1, 1000, .inl sf)), (xr, .inr (1, [.ref xa, .int xsz])), (xa, .inl (G.2.1 0, 1000, .inl xf))]) (gc_V (wc := [(rd, .inr (3, [.ref tr, .ref t, .int at0])), (tr, .inr (1, [.ref ta, .int tsz])), (ta, .inl (G.2.1 0, 1000, .inl tf))]) (As := [.int y_49]) (rest := []) ⟨hx, hb, hml, hown, hw⟩ (c_Reader_afterWhite l G rd t at0 tr ta tsz tf y_49 htp H.size) (cwV 1 hw (good_V m_138 m_140 ms_1 m_5 m_141) rfl rfl rfl hy_Reader_afterWhite ⟨Nat.le_of_ble_eq_true rfl, Nat.le_of_ble_eq_true rfl⟩) hE hP hD hS hA (va_recv hE.1 hP (ci := 3) (q0 := 7) rfl rfl) [7, 8, 9] rfl (by decide) rfl hl rfl (Nat.le_of_ble_eq_true rfl) d_Reader_number_30 ⟨Nat.le_of_ble_eq_true rfl, Nat.le_of_ble_eq_true rfl⟩) hP hD hS hA [7, 8, 9] [0, 1, 2, 3, 4, 5, 6] rfl rfl (by decide) (by decide) (fun r_50 u_51 H locs hw_52 hP hD hS => ?_)
    have hP : va_P G.1 vwCl [(t, .inr (2, [.ref ka, .ref na, .ref ga, .ref sa, .ref xr, .int size])), (ka, .inl (G.2.1 0, 1000, .inl kf)), (na, .inl (G.2.1 1, 1000, .inl nf)), (ga, .inl (G.2.1 1, 1000, .inl gf)), (sa, .inl (G.2.1 1, 1000, .inl sf)), (xr, .inr (1, [.ref xa, .int xsz])), (xa, .inl (G.2.1 0, 1000, .inl xf)), (rd, .inr (3, [.ref tr, .ref t, .int at0])), (tr, .inr (1, [.ref ta, .int tsz])), (ta, .inl (G.2.1 0, 1000, .inl tf))] H := hP
    have hD : va_D A [(t, .inr (2, [.ref ka, .ref na, .ref ga, .ref sa, .ref xr, .int size])), (ka, .inl (G.2.1 0, 1000, .inl kf)), (na, .inl (G.2.1 1, 1000, .inl nf)), (ga, .inl (G.2.1 1, 1000, .inl gf)), (sa, .inl (G.2.1 1, 1000, .inl sf)), (xr, .inr (1, [.ref xa, .int xsz])), (xa, .inl (G.2.1 0, 1000, .inl xf)), (rd, .inr (3, [.ref tr, .ref t, .int at0])), (tr, .inr (1, [.ref ta, .int tsz])), (ta, .inl (G.2.1 0, 1000, .inl tf))] := hD
    refine lv_istore_n (lv' := [(2, .int r_50), (1, .int r_41), (0, .ref rd)]) hx hb d_Reader_number_33 rfl hl (by decide) rfl (fun ls hl => ?_)
    refine lv_aload_n hx hb d_Reader_number_34 rfl (lv_at hl 2 rfl) ?_
    refine lv_iload_n hx hb d_Reader_number_35 rfl (lv_at hl 0 rfl) ?_
    refine gc_i (wr := [(t, .inr (2, [.ref ka, .ref na, .ref ga, .ref sa, .ref xr, .int size])), (ka, .inl (G.2.1 0, 1000, .inl kf)), (na, .inl (G.2.1 1, 1000, .inl nf)), (ga, .inl (G.2.1 1, 1000, .inl gf)), (sa, .inl (G.2.1 1, 1000, .inl sf)), (xr, .inr (1, [.ref xa, .int xsz])), (xa, .inl (G.2.1 0, 1000, .inl xf))]) (gc_V (wc := [(rd, .inr (3, [.ref tr, .ref t, .int at0])), (tr, .inr (1, [.ref ta, .int tsz])), (ta, .inl (G.2.1 0, 1000, .inl tf))]) (As := [.int r_50]) (rest := []) ⟨hx, hb, hml, hown, hw⟩ (c_Reader_wordLength l G rd t at0 tr ta tsz tf r_50 htp H.size) (cwV 1 hw (good_V m_154 m_156 ms_3 m_5 m_157) rfl rfl rfl hy_Reader_wordLength ⟨Nat.le_of_ble_eq_true rfl, Nat.le_of_ble_eq_true rfl⟩) hE hP hD hS hA (va_recv hE.1 hP (ci := 3) (q0 := 7) rfl rfl) [7, 8, 9] rfl (by decide) rfl hl rfl (Nat.le_of_ble_eq_true rfl) d_Reader_number_36 ⟨Nat.le_of_ble_eq_true rfl, Nat.le_of_ble_eq_true rfl⟩) hP hD hS hA [7, 8, 9] [0, 1, 2, 3, 4, 5, 6] rfl rfl (by decide) (by decide) (fun r_53 u_54 H locs hw_55 hP hD hS => ?_)
    have hP : va_P G.1 vwCl [(t, .inr (2, [.ref ka, .ref na, .ref ga, .ref sa, .ref xr, .int size])), (ka, .inl (G.2.1 0, 1000, .inl kf)), (na, .inl (G.2.1 1, 1000, .inl nf)), (ga, .inl (G.2.1 1, 1000, .inl gf)), (sa, .inl (G.2.1 1, 1000, .inl sf)), (xr, .inr (1, [.ref xa, .int xsz])), (xa, .inl (G.2.1 0, 1000, .inl xf)), (rd, .inr (3, [.ref tr, .ref t, .int at0])), (tr, .inr (1, [.ref ta, .int tsz])), (ta, .inl (G.2.1 0, 1000, .inl tf))] H := hP
    have hD : va_D A [(t, .inr (2, [.ref ka, .ref na, .ref ga, .ref sa, .ref xr, .int size])), (ka, .inl (G.2.1 0, 1000, .inl kf)), (na, .inl (G.2.1 1, 1000, .inl nf)), (ga, .inl (G.2.1 1, 1000, .inl gf)), (sa, .inl (G.2.1 1, 1000, .inl sf)), (xr, .inr (1, [.ref xa, .int xsz])), (xa, .inl (G.2.1 0, 1000, .inl xf)), (rd, .inr (3, [.ref tr, .ref t, .int at0])), (tr, .inr (1, [.ref ta, .int tsz])), (ta, .inl (G.2.1 0, 1000, .inl tf))] := hD
    refine lv_istore_n (lv' := [(3, .int r_53), (2, .int r_50), (1, .int r_41), (0, .ref rd)]) hx hb d_Reader_number_39 rfl hl (by decide) rfl (fun ls hl => ?_)
    refine lv_aload_n hx hb d_Reader_number_40 rfl (lv_at hl 3 rfl) ?_
    refine lv_iload_n hx hb d_Reader_number_41 rfl (lv_at hl 1 rfl) ?_
    refine lv_iload_n hx hb d_Reader_number_42 rfl (lv_at hl 0 rfl) ?_
    refine lv_iadd hx hb d_Reader_number_43 ?_
    refine lv_topi (fun y_56 ey_56 => ?_)
    refine gc_i (wr := [(t, .inr (2, [.ref ka, .ref na, .ref ga, .ref sa, .ref xr, .int size])), (ka, .inl (G.2.1 0, 1000, .inl kf)), (na, .inl (G.2.1 1, 1000, .inl nf)), (ga, .inl (G.2.1 1, 1000, .inl gf)), (sa, .inl (G.2.1 1, 1000, .inl sf)), (xr, .inr (1, [.ref xa, .int xsz])), (xa, .inl (G.2.1 0, 1000, .inl xf))]) (gc_V (wc := [(rd, .inr (3, [.ref tr, .ref t, .int at0])), (tr, .inr (1, [.ref ta, .int tsz])), (ta, .inl (G.2.1 0, 1000, .inl tf))]) (As := [.int y_56]) (rest := []) ⟨hx, hb, hml, hown, hw⟩ (c_Reader_afterWhite l G rd t at0 tr ta tsz tf y_56 htp H.size) (cwV 1 hw (good_V m_138 m_140 ms_1 m_5 m_141) rfl rfl rfl hy_Reader_afterWhite ⟨Nat.le_of_ble_eq_true rfl, Nat.le_of_ble_eq_true rfl⟩) hE hP hD hS hA (va_recv hE.1 hP (ci := 3) (q0 := 7) rfl rfl) [7, 8, 9] rfl (by decide) rfl hl rfl (Nat.le_of_ble_eq_true rfl) d_Reader_number_44 ⟨Nat.le_of_ble_eq_true rfl, Nat.le_of_ble_eq_true rfl⟩) hP hD hS hA [7, 8, 9] [0, 1, 2, 3, 4, 5, 6] rfl rfl (by decide) (by decide) (fun r_57 u_58 H locs hw_59 hP hD hS => ?_)
    have hP : va_P G.1 vwCl [(t, .inr (2, [.ref ka, .ref na, .ref ga, .ref sa, .ref xr, .int size])), (ka, .inl (G.2.1 0, 1000, .inl kf)), (na, .inl (G.2.1 1, 1000, .inl nf)), (ga, .inl (G.2.1 1, 1000, .inl gf)), (sa, .inl (G.2.1 1, 1000, .inl sf)), (xr, .inr (1, [.ref xa, .int xsz])), (xa, .inl (G.2.1 0, 1000, .inl xf)), (rd, .inr (3, [.ref tr, .ref t, .int at0])), (tr, .inr (1, [.ref ta, .int tsz])), (ta, .inl (G.2.1 0, 1000, .inl tf))] H := hP
    have hD : va_D A [(t, .inr (2, [.ref ka, .ref na, .ref ga, .ref sa, .ref xr, .int size])), (ka, .inl (G.2.1 0, 1000, .inl kf)), (na, .inl (G.2.1 1, 1000, .inl nf)), (ga, .inl (G.2.1 1, 1000, .inl gf)), (sa, .inl (G.2.1 1, 1000, .inl sf)), (xr, .inr (1, [.ref xa, .int xsz])), (xa, .inl (G.2.1 0, 1000, .inl xf)), (rd, .inr (3, [.ref tr, .ref t, .int at0])), (tr, .inr (1, [.ref ta, .int tsz])), (ta, .inl (G.2.1 0, 1000, .inl tf))] := hD
    refine lv_istore (lv' := [(4, .int r_57), (3, .int r_53), (2, .int r_50), (1, .int r_41), (0, .ref rd)]) hx hb d_Reader_number_47 hl (by decide) rfl (fun ls hl => ?_)
    refine lv_aload_n hx hb d_Reader_number_49 rfl (lv_at hl 4 rfl) ?_
    refine lv_iload hx hb d_Reader_number_50 (lv_at hl 0 rfl) ?_
    refine gc_i (wr := [(t, .inr (2, [.ref ka, .ref na, .ref ga, .ref sa, .ref xr, .int size])), (ka, .inl (G.2.1 0, 1000, .inl kf)), (na, .inl (G.2.1 1, 1000, .inl nf)), (ga, .inl (G.2.1 1, 1000, .inl gf)), (sa, .inl (G.2.1 1, 1000, .inl sf)), (xr, .inr (1, [.ref xa, .int xsz])), (xa, .inl (G.2.1 0, 1000, .inl xf))]) (gc_V (wc := [(rd, .inr (3, [.ref tr, .ref t, .int at0])), (tr, .inr (1, [.ref ta, .int tsz])), (ta, .inl (G.2.1 0, 1000, .inl tf))]) (As := [.int r_57]) (rest := []) ⟨hx, hb, hml, hown, hw⟩ (c_Reader_wordLength l G rd t at0 tr ta tsz tf r_57 htp H.size) (cwV 1 hw (good_V m_154 m_156 ms_3 m_5 m_157) rfl rfl rfl hy_Reader_wordLength ⟨Nat.le_of_ble_eq_true rfl, Nat.le_of_ble_eq_true rfl⟩) hE hP hD hS hA (va_recv hE.1 hP (ci := 3) (q0 := 7) rfl rfl) [7, 8, 9] rfl (by decide) rfl hl rfl (Nat.le_of_ble_eq_true rfl) d_Reader_number_52 ⟨Nat.le_of_ble_eq_true rfl, Nat.le_of_ble_eq_true rfl⟩) hP hD hS hA [7, 8, 9] [0, 1, 2, 3, 4, 5, 6] rfl rfl (by decide) (by decide) (fun r_60 u_61 H locs hw_62 hP hD hS => ?_)
    have hP : va_P G.1 vwCl [(t, .inr (2, [.ref ka, .ref na, .ref ga, .ref sa, .ref xr, .int size])), (ka, .inl (G.2.1 0, 1000, .inl kf)), (na, .inl (G.2.1 1, 1000, .inl nf)), (ga, .inl (G.2.1 1, 1000, .inl gf)), (sa, .inl (G.2.1 1, 1000, .inl sf)), (xr, .inr (1, [.ref xa, .int xsz])), (xa, .inl (G.2.1 0, 1000, .inl xf)), (rd, .inr (3, [.ref tr, .ref t, .int at0])), (tr, .inr (1, [.ref ta, .int tsz])), (ta, .inl (G.2.1 0, 1000, .inl tf))] H := hP
    have hD : va_D A [(t, .inr (2, [.ref ka, .ref na, .ref ga, .ref sa, .ref xr, .int size])), (ka, .inl (G.2.1 0, 1000, .inl kf)), (na, .inl (G.2.1 1, 1000, .inl nf)), (ga, .inl (G.2.1 1, 1000, .inl gf)), (sa, .inl (G.2.1 1, 1000, .inl sf)), (xr, .inr (1, [.ref xa, .int xsz])), (xa, .inl (G.2.1 0, 1000, .inl xf)), (rd, .inr (3, [.ref tr, .ref t, .int at0])), (tr, .inr (1, [.ref ta, .int tsz])), (ta, .inl (G.2.1 0, 1000, .inl tf))] := hD
    refine lv_iconst (v := 1) hx hb d_Reader_number_55 (by decide) ?_
    refine lv_icmp_ne (tgt := 77) hx hb d_Reader_number_56 (by decide) (fun c_63 => ?_) (fun c_63 => ?_)
    · exact J_77 r_57 r_53 r_50 r_41 at0 kf nf gf sf size xsz xf hs hxs _ _ (hP.sub [7, 8, 9, 0, 1, 2, 3, 4, 5, 6] rfl) (hD.sub [7, 8, 9, 0, 1, 2, 3, 4, 5, 6] (by decide) rfl) hS _ (lv_sub hl [0, 1, 2, 3, 4] rfl)
    · refine lv_aload_n hx hb d_Reader_number_59 rfl (lv_at hl 4 rfl) ?_
      refine va_get (D := G.1) (ci := 3) (v := .ref tr) (C := R_Reader) (T := F_Reader) (N := 3) hx hb hw i_Reader hown hE.1 hP 7 rfl rfl 0 (by decide) (hw _ m_115) (fun _ h9 => h9) rfl d_Reader_number_60 ?_
      refine lv_iload hx hb d_Reader_number_63 (lv_at hl 0 rfl) ?_
      refine gc_i (wr := [(t, .inr (2, [.ref ka, .ref na, .ref ga, .ref sa, .ref xr, .int size])), (ka, .inl (G.2.1 0, 1000, .inl kf)), (na, .inl (G.2.1 1, 1000, .inl nf)), (ga, .inl (G.2.1 1, 1000, .inl gf)), (sa, .inl (G.2.1 1, 1000, .inl sf)), (xr, .inr (1, [.ref xa, .int xsz])), (xa, .inl (G.2.1 0, 1000, .inl xf)), (rd, .inr (3, [.ref tr, .ref t, .int at0]))]) (gc_V (wc := [(tr, .inr (1, [.ref ta, .int tsz])), (ta, .inl (G.2.1 0, 1000, .inl tf))]) (As := [.int r_57]) (rest := []) ⟨hx, hb, hml, hown, hw⟩ (c_Row_get l G tr ta 1000 tsz tf r_57 (by decide) htp H.size) (cwV 1 hw (good_V m_143 m_144 m_145 m_2 m_146) rfl rfl rfl hy_Row_get ⟨Nat.le_of_ble_eq_true rfl, Nat.le_of_ble_eq_true rfl⟩) hE hP hD hS hA (va_recv hE.1 hP (ci := 1) (q0 := 8) rfl rfl) [8, 9] rfl (by decide) rfl hl rfl (Nat.le_of_ble_eq_true rfl) d_Reader_number_65 ⟨Nat.le_of_ble_eq_true rfl, Nat.le_of_ble_eq_true rfl⟩) hP hD hS hA [8, 9] [0, 1, 2, 3, 4, 5, 6, 7] rfl rfl (by decide) (by decide) (fun r_64 u_65 H locs hw_66 hP hD hS => ?_)
      have hP : va_P G.1 vwCl [(t, .inr (2, [.ref ka, .ref na, .ref ga, .ref sa, .ref xr, .int size])), (ka, .inl (G.2.1 0, 1000, .inl kf)), (na, .inl (G.2.1 1, 1000, .inl nf)), (ga, .inl (G.2.1 1, 1000, .inl gf)), (sa, .inl (G.2.1 1, 1000, .inl sf)), (xr, .inr (1, [.ref xa, .int xsz])), (xa, .inl (G.2.1 0, 1000, .inl xf)), (rd, .inr (3, [.ref tr, .ref t, .int at0])), (tr, .inr (1, [.ref ta, .int tsz])), (ta, .inl (G.2.1 0, 1000, .inl tf))] H := hP
      have hD : va_D A [(t, .inr (2, [.ref ka, .ref na, .ref ga, .ref sa, .ref xr, .int size])), (ka, .inl (G.2.1 0, 1000, .inl kf)), (na, .inl (G.2.1 1, 1000, .inl nf)), (ga, .inl (G.2.1 1, 1000, .inl gf)), (sa, .inl (G.2.1 1, 1000, .inl sf)), (xr, .inr (1, [.ref xa, .int xsz])), (xa, .inl (G.2.1 0, 1000, .inl xf)), (rd, .inr (3, [.ref tr, .ref t, .int at0])), (tr, .inr (1, [.ref ta, .int tsz])), (ta, .inl (G.2.1 0, 1000, .inl tf))] := hD
      refine lv_bipush (v := 82) hx hb d_Reader_number_68 (by decide) ?_
      refine lv_icmp_ne (tgt := 77) hx hb d_Reader_number_70 (by decide) (fun c_67 => ?_) (fun c_67 => ?_)
      · exact J_77 r_57 r_53 r_50 r_41 at0 kf nf gf sf size xsz xf hs hxs _ _ (hP.sub [7, 8, 9, 0, 1, 2, 3, 4, 5, 6] rfl) (hD.sub [7, 8, 9, 0, 1, 2, 3, 4, 5, 6] (by decide) rfl) hS _ (lv_sub hl [0, 1, 2, 3, 4] rfl)
      · refine lv_iconst (v := 1) hx hb d_Reader_number_73 (by decide) ?_
        refine lv_goto (tgt := 78) hx hb d_Reader_number_74 (by decide) ?_
        exact J_78 r_57 r_53 r_50 r_41 1 at0 kf nf gf sf size xsz xf hs hxs _ _ (hP.sub [7, 8, 9, 0, 1, 2, 3, 4, 5, 6] rfl) (hD.sub [7, 8, 9, 0, 1, 2, 3, 4, 5, 6] (by decide) rfl) hS _ (lv_sub hl [0, 1, 2, 3, 4] rfl)
  · refine lv_iconst (v := 0) hx hb d_Reader_number_21 (by decide) ?_
    exact ret 0 (at0, kf, nf, gf, sf, size, xsz, xf) (Nat.le_of_ble_eq_true rfl) (Nat.le_of_ble_eq_true rfl) d_Reader_number_22 rfl ⟨hs, hxs, (by first | assumption | decide)⟩ (hP.sub [7, 8, 9, 0, 1, 2, 3, 4, 5, 6] rfl) (hD.sub [7, 8, 9, 0, 1, 2, 3, 4, 5, 6] (by decide) rfl) hS
def rm_Reader_init : Room := { frames := 1, cells := 0, slots := 0, locals := 12 }
set_option maxHeartbeats 4000000 in
set_option maxRecDepth 100000 in
theorem c_Reader_init (l : Launch) (G : GG) (rd : Nat) (tr : Nat) (t : Nat) : MV l y_Reader_init b_Reader_init 3 rm_Reader_init G [.ref rd, .ref tr, .ref t] [(rd, .inr (3, [.null, .null, .int 0]))] (fun (u : Unit) => True) (fun (u : Unit) => [(rd, .inr (3, [.ref tr, .ref t, .int 0]))]) 0 0 := by
  refine MV.of (cc := b_Reader_init) (maxL := 3) (C := R_Reader) (by decide +kernel) rfl (Nat.le_of_ble_eq_true rfl) ?_
  intro p e s m args below meth c A Q H ls hx hb hml hown hw hE hA hP hD hS hin ret hl
  have hl : lv_has ls 3 [(0, .ref rd), (1, .ref tr), (2, .ref t)] := hl
  refine lv_aload_n hx hb d_Reader_init_0 rfl (lv_at hl 0 rfl) ?_
  refine W.objInit hx hb hown (hw _ m_114) (hw _ m_21) (hw _ m_oi) rfl (by rw [hml]; exact hl.1) rfl d_Reader_init_1 (Nat.le_of_ble_eq_true rfl) (Nat.le_of_ble_eq_true rfl) ?_
  refine W.eq (g2 := F0 m 4 ls []) rfl ?_
  refine lv_aload_n hx hb d_Reader_init_4 rfl (lv_at hl 0 rfl) ?_
  refine lv_aload_n hx hb d_Reader_init_5 rfl (lv_at hl 1 rfl) ?_
  refine va_putF (D := G.1) (ci := 3) (v := .ref tr) (ty := (.object "ValueTexts$Row")) (C := R_Reader) (T := F_Reader) (N := 3) hx hb hw i_Reader t_Reader t_Reader_ok n_Reader hown hE.1 hP hD hS 0 rfl rfl 0 (by decide) (hw _ m_115) (fun _ h9 => h9) rfl hin rfl (by decide +kernel) rfl rfl (Nat.le_of_ble_eq_true rfl) d_Reader_init_6 (fun H locs hP hD hS => ?_)
  have hP : va_P G.1 vwCl [(rd, .inr (3, [.ref tr, .null, .int 0]))] H := hP
  have hD : va_D A [(rd, .inr (3, [.ref tr, .null, .int 0]))] := hD
  refine lv_aload_n hx hb d_Reader_init_9 rfl (lv_at hl 0 rfl) ?_
  refine lv_aload_n hx hb d_Reader_init_10 rfl (lv_at hl 2 rfl) ?_
  refine va_putF (D := G.1) (ci := 3) (v := .ref t) (ty := (.object "ValueTexts$Tree")) (C := R_Reader) (T := F_Reader) (N := 3) hx hb hw i_Reader t_Reader t_Reader_ok n_Reader hown hE.1 hP hD hS 0 rfl rfl 1 (by decide) (hw _ m_116) (fun _ h9 => h9) rfl hin rfl (by decide +kernel) rfl rfl (Nat.le_of_ble_eq_true rfl) d_Reader_init_11 (fun H locs hP hD hS => ?_)
  have hP : va_P G.1 vwCl [(rd, .inr (3, [.ref tr, .ref t, .int 0]))] H := hP
  have hD : va_D A [(rd, .inr (3, [.ref tr, .ref t, .int 0]))] := hD
  refine lv_aload_n hx hb d_Reader_init_14 rfl (lv_at hl 0 rfl) ?_
  refine lv_iconst (v := 0) hx hb d_Reader_init_15 (by decide) ?_
  refine va_put (D := G.1) (ci := 3) (v := .int 0) (ty := .int) (C := R_Reader) (T := F_Reader) (N := 3) hx hb hw i_Reader t_Reader t_Reader_ok n_Reader hown hE.1 hP hD hS 0 rfl rfl 2 (by decide) (hw _ m_117) (fun _ h9 => h9) rfl (by decide +kernel) rfl rfl (Nat.le_of_ble_eq_true rfl) d_Reader_init_16 (fun H locs hP hD hS => ?_)
  have hP : va_P G.1 vwCl [(rd, .inr (3, [.ref tr, .ref t, .int 0]))] H := hP
  have hD : va_D A [(rd, .inr (3, [.ref tr, .ref t, .int 0]))] := hD
  exact ret () (Nat.le_of_ble_eq_true rfl) (Nat.le_of_ble_eq_true rfl) d_Reader_init_19 trivial (hP.sub [0] rfl) (hD.sub [0] (by decide) rfl) hS
