theorem z_divE {x y z : Int32} {k : Nat} (hz : z = nI k) (hk : 0 < k ∧ k < 2147483648) (e : y = x / z) : 0 ≤ x.toInt → y.toInt = x.toInt / k := fun h => by
  obtain ⟨j, hj, rfl⟩ := nI_of (x := x) (by rw [z_lt, z_0]; omega)
  rw [e, hz, pk_div (by omega) hk.1 hk.2, z_n hj, z_n (Nat.lt_of_le_of_lt (Nat.div_le_self _ _) hj)]
  exact Int.natCast_ediv j k
theorem fit_upd {f : Nat → Int32} {k : Nat} {x : Int32} (h : sb_Fit f) : sb_Fit (upd f k (vp_nar .byte x)) := sb_fitU h (by rw [vp_nar_byte]; exact pk_fb x)
theorem z_nn {x : Int32} (h : 0 ≤ x.toInt) : ¬ x < 0 := by rw [z_lt, z_0]; omega
theorem cp_le {a b : Int32} {n : Nat} (ha : 0 ≤ a.toInt) (hb : 0 ≤ b.toInt) (h : a.toInt + b.toInt ≤ n) : a.toNatClampNeg + b.toNatClampNeg ≤ n := by
  show a.toInt.toNat + b.toInt.toNat ≤ n
  omega
theorem cl_of {a : Int32} {n : Nat} (h : a.toInt = n) : a.toNatClampNeg = n := by
  show a.toInt.toNat = n
  omega
theorem num_small {v : Int} {a : Nat} (h : 0 ≤ v ∧ v < 10 ^ a) (ha : a ≤ 8) : v < 100000000 := by
  have h1 : (10 : Int) ^ a ≤ 10 ^ 8 := by
    have := Nat.pow_le_pow_right (n := 10) (by decide) ha
    exact_mod_cast this
  have h2 := h.2
  have h3 : (10 : Int) ^ 8 = 100000000 := by decide
  omega
theorem num_step {v d y : Int} {a b : Nat} (h : 0 ≤ v ∧ v < 10 ^ a) (hd : 48 ≤ d ∧ d ≤ 57) (e : y = 10 * v + d - 48) (hb : b = a + 1) : 0 ≤ y ∧ y < 10 ^ b := by
  have h1 : (10 : Int) ^ b = 10 * 10 ^ a := by rw [hb, Int.pow_succ]; omega
  rw [h1]
  omega
theorem m_acn : Cond.native arraycopyName ∈ bigW := big_r (i := 581) (by decide +kernel) (by decide +kernel)
theorem z_mulR {x y z : Int32} {k : Int} (hk : z.toInt = k) (e : y = x * z) : -2147483648 ≤ x.toInt * k ∧ x.toInt * k < 2147483648 → y.toInt = x.toInt * k := fun h => by
  rw [e, Int32.toInt_mul, hk]
  exact Int.bmod_eq_of_le (by omega) (by omega)
theorem z_divV {x y z : Int32} (hx : 0 ≤ x.toInt) (hz : 0 < z.toInt) (e : y = x / z) : y.toInt = x.toInt / z.toInt := by
  obtain ⟨k, hk, rfl⟩ := nI_of (x := z) (by rw [z_lt, z_0]; omega)
  rw [z_n hk] at hz ⊢
  exact z_divE rfl ⟨by omega, hk⟩ e hx
theorem num_grow {w p : Int} (hp : 0 < p) (h : 9 < w / p) : 10 * p ≤ w := by
  have h1 : 10 ≤ w / p := by omega
  exact (Int.le_ediv_iff_mul_le hp).mp h1
theorem p10_pos (j : Nat) : (0 : Int) < 10 ^ j := Int.pow_pos (by decide)
theorem p10_lt {a b : Nat} (h : (10 : Int) ^ a < 10 ^ b) : a < b := by
  rcases Nat.lt_or_ge a b with q | q
  · exact q
  · have h1 : (10 : Int) ^ b ≤ 10 ^ a := by
      have := Nat.pow_le_pow_right (n := 10) (by decide) q
      exact_mod_cast this
    omega
theorem p10_s (j : Nat) : (10 : Int) ^ (j + 1) = 10 * 10 ^ j := by rw [Int.pow_succ]; omega
theorem p10_9 {c : Nat} (h : c ≤ 9) : (10 : Int) ^ c ≤ 1000000000 := by
  have h1 : (10 : Int) ^ c ≤ 10 ^ 9 := by
    have := Nat.pow_le_pow_right (n := 10) (by decide) h
    exact_mod_cast this
  have h3 : (10 : Int) ^ 9 = 1000000000 := by decide
  omega
theorem z_neg {x y : Int32} (e : y = -x) (h : -2147483648 < x.toInt) : y.toInt = -x.toInt := by
  have h2 := z_b x
  rw [e, Int32.toInt_neg]
  exact Int.bmod_eq_of_le (by omega) (by omega)
/-- the power goes down -/
theorem p10_down {x y : Int32} {w W : Int} {j : Nat} (h : (x.toInt = 10 ^ j ∧ w + j + 1 ≤ W) ∨ (x.toInt = 0 ∧ w ≤ W)) (hx : 0 < x.toInt) (e : y = x / 10) : (y.toInt = 10 ^ (j - 1) ∧ (w + 1) + (j - 1 : Nat) + 1 ≤ W) ∨ (y.toInt = 0 ∧ w + 1 ≤ W) := by
  have hy : y.toInt = x.toInt / 10 := z_divE (k := 10) (by decide) (by decide) e (by omega)
  rcases h with h | h
  · cases j with
    | zero =>
      right
      have h1 : x.toInt = 1 := h.1
      exact ⟨by rw [hy, h1]; decide, by omega⟩
    | succ j =>
      left
      have h1 := h.1
      rw [p10_s] at h1
      refine ⟨?_, ?_⟩
      · show y.toInt = 10 ^ j
        rw [hy, h1]
        omega
      · show w + 1 + (j : Int) + 1 ≤ W
        omega
  · omega
theorem tn_ok {v a b sz : Int32} (h : (v.toInt = -1) ∨ (0 ≤ v.toInt ∧ v.toInt < 10 ^ (b.toInt - a.toInt).toNat ∧ 1 ≤ b.toInt - a.toInt ∧ b.toInt - a.toInt ≤ 9)) (c : ¬ v < 0) (hb : b.toInt ≤ sz.toInt) : (v.toInt < 0 ∧ b.toInt = a.toInt) ∨ (0 ≤ v.toInt ∧ v.toInt < 10 ^ (b.toInt - a.toInt).toNat ∧ 1 ≤ b.toInt - a.toInt ∧ b.toInt - a.toInt ≤ 9 ∧ b.toInt ≤ sz.toInt) := by
  rw [z_lt, z_0] at c
  rcases h with h | h
  · omega
  · exact Or.inr ⟨h.1, h.2.1, h.2.2.1, h.2.2.2, hb⟩
theorem fdM1 {z y : Int32} (h : 0 ≤ z.toInt ∧ z.toInt ≤ 1000) (e : y = z + 20) (c : ¬ y ≤ 1000) : fdV z = -3 ∧ fdT z = z := fdV1 ⟨h.1, h.2⟩ e c
theorem fdM2 {z z2 y : Int32} (e2 : z2 = z) (e : y = z2 + 20) (h : z.toInt + 20 ≤ 1000) : y = fdV z ∧ y = fdT z := by
  rw [e2] at e
  rw [fdV, fdT, if_pos h, if_pos h]
  exact ⟨e, e⟩
theorem edM1 {z n : Int32} (h : 0 ≤ n.toInt ∧ n.toInt ≤ z.toInt) : edV z n = n ∧ edT z n = n := ⟨if_pos h, if_pos h⟩
theorem edM2 {z n : Int32} (h : ¬ (0 ≤ n.toInt ∧ n.toInt ≤ z.toInt)) : edV z n = -1 ∧ edT z n = z := ⟨if_neg h, if_neg h⟩
theorem nz_i {x : Int32} (h : x.toInt ≠ 0) : ¬ x = 0 := fun e => h (by rw [e]; decide)
theorem z_min {x y z : Int32} (e : z = if y < x then y else x) : z.toInt ≤ x.toInt ∧ z.toInt ≤ y.toInt ∧ (z.toInt = x.toInt ∨ z.toInt = y.toInt) := by
  by_cases h : y < x
  · rw [if_pos h] at e
    rw [z_lt] at h
    rw [e]
    omega
  · rw [if_neg h] at e
    rw [z_lt] at h
    rw [e]
    omega
theorem d_Arr_checkLength_0 : decode b_Arr_checkLength 0 = .ok (.iload_n 1, 1) := by decide +kernel
theorem d_Arr_checkLength_1 : decode b_Arr_checkLength 1 = .ok (.iload_n 0, 1) := by decide +kernel
theorem d_Arr_checkLength_2 : decode b_Arr_checkLength 2 = .ok (.if_icmp .ge 35, 3) := by decide +kernel
theorem d_Arr_checkLength_37 : decode b_Arr_checkLength 37 = .ok (.return_, 1) := by decide +kernel
def rm_M_numberOf : Room := { frames := 1, cells := 0, slots := 0, locals := 25 }
set_option maxHeartbeats 4000000 in
set_option maxRecDepth 100000 in
theorem c_M_numberOf (l : Launch) (G : GG) (mm : Nat) (tp : Nat) (tk : Nat) (ou : Nat) (pg : Nat) (sz : Int32) (at0 : Int32) (tm : Int32) (om : Int32) (wr : Int32) (al : Value) (pt : Value) (tpf : Nat → Int32) (i : Int32) (j : Int32) (hz : 0 ≤ sz.toInt ∧ sz.toInt ≤ 1000) (hij : 0 ≤ i.toInt ∧ i.toInt ≤ j.toInt ∧ j.toInt ≤ sz.toInt) : MI l y_M_numberOf b_M_numberOf 5 .int rm_M_numberOf G [.ref mm, .int i, .int j] [(mm, .inr (5, [.ref tp, .int sz, .int at0, .ref tk, .ref tp, .ref ou, .int tm, .int om, al, pt, .ref pg, .int wr])), (tp, .inl (G.2.1 0, 1000, .inl tpf))] (fun (v : Int32) (u : Unit) => ((v.toInt = -1) ∨ (0 ≤ v.toInt ∧ v.toInt < 10 ^ (j.toInt - i.toInt).toNat ∧ 1 ≤ j.toInt - i.toInt ∧ j.toInt - i.toInt ≤ 9))) (fun (u : Unit) => [(mm, .inr (5, [.ref tp, .int sz, .int at0, .ref tk, .ref tp, .ref ou, .int tm, .int om, al, pt, .ref pg, .int wr])), (tp, .inl (G.2.1 0, 1000, .inl tpf))]) 0 0 := by
  refine MI.of (cc := b_M_numberOf) (maxL := 5) (ty := .int) (C := R_M) (by decide +kernel) rfl (Nat.le_of_ble_eq_true rfl) ?_
  intro p e s m args below meth c A Q H ls hx hb hml hown hw hE hA hP hD hS ret hl
  have hl : lv_has ls 5 [(0, .ref mm), (1, .int i), (2, .int j)] := hl
  have J_21 : ∀ (fu : Nat) (x4_21 : Int32) (x3_21 : Int32) (hk0_21 : i.toInt ≤ x4_21.toInt ∧ x4_21.toInt ≤ j.toInt) (hk1_21 : 0 ≤ x3_21.toInt ∧ x3_21.toInt < 10 ^ (x4_21.toInt - i.toInt).toNat) (hk2_21 : 1 ≤ j.toInt - i.toInt ∧ j.toInt - i.toInt ≤ 9), (j.toInt - x4_21.toInt).toNat < fu → ∀ (H : Heap) (locs : List Loc), va_P G.1 vwCl [(mm, .inr (5, [.ref tp, .int sz, .int at0, .ref tk, .ref tp, .ref ou, .int tm, .int om, al, pt, .ref pg, .int wr])), (tp, .inl (G.2.1 0, 1000, .inl tpf))] H → va_D A [(mm, .inr (5, [.ref tp, .int sz, .int at0, .ref tk, .ref tp, .ref ou, .int tm, .int om, al, pt, .ref pg, .int wr])), (tp, .inl (G.2.1 0, 1000, .inl tpf))] → va_S A s.heap H locs → ∀ ls : Array Slot, lv_has ls 5 [(4, .int x4_21), (3, .int x3_21), (0, .ref mm), (1, .int i), (2, .int j)] → W p l e rm_M_numberOf s m args below meth c H locs 0 0 Q (F0 m 21 ls []) := by
    intro fu
    induction fu with
    | zero =>
      intro x4_21 x3_21 hk0_21 hk1_21 hk2_21 hm
      exact absurd hm (Nat.not_lt_zero _)
    | succ fu ih_21 =>
      intro x4_21 x3_21 hk0_21 hk1_21 hk2_21 hm_21 H locs hP hD hS ls hl
      refine lv_iload hx hb d_M_numberOf_21 (lv_at hl 0 rfl) ?_
      refine lv_iload_n hx hb d_M_numberOf_23 rfl (lv_at hl 4 rfl) ?_
      refine lv_icmp_ge (tgt := 64) hx hb d_M_numberOf_24 (by decide) (fun c_1 => ?_) (fun c_1 => ?_)
      · have tc_1 := z_le.mp c_1
        refine lv_iload_n hx hb d_M_numberOf_64 rfl (lv_at hl 1 rfl) ?_
        exact ret x3_21 () (Nat.le_of_ble_eq_true rfl) (Nat.le_of_ble_eq_true rfl) d_M_numberOf_65 rfl (by first | exact Or.inl (by decide) | exact Or.inr ⟨hk1_21.1, by rw [show j.toInt = x4_21.toInt by omega]; exact hk1_21.2, hk2_21.1, hk2_21.2⟩) (hP.sub [0, 1] rfl) (hD.sub [0, 1] (by decide) rfl) hS
      · have tc_1 := z_nle c_1
        refine lv_aload_n hx hb d_M_numberOf_27 rfl (lv_at hl 2 rfl) ?_
        refine va_get (D := G.1) (ci := 5) (v := .ref tp) (C := R_M) (T := F_M) (N := 12) hx hb hw i_M hown hE.1 hP 0 rfl rfl 0 (by decide) (hw _ m_453) (fun _ h9 => h9) rfl d_M_numberOf_28 ?_
        refine lv_iload hx hb d_M_numberOf_31 (lv_at hl 0 rfl) ?_
        refine va_bald hx hb hE.1 hP 1 0 rfl rfl (i := x4_21) (z_in (by omega) (by omega)) d_M_numberOf_33 ?_
        refine lv_topi (fun y_2 ey_2 => ?_)
        refine gc_i (wr := [(mm, .inr (5, [.ref tp, .int sz, .int at0, .ref tk, .ref tp, .ref ou, .int tm, .int om, al, pt, .ref pg, .int wr])), (tp, .inl (G.2.1 0, 1000, .inl tpf))]) (gc_S (wc := []) (As := [.int y_2]) (rest := []) ⟨hx, hb, hml, hown, hw⟩ (c_M_isDigit l G y_2 H.size) (va_cwS 1 hw (good_S m_636 m_637 m_4 m_638) rfl rfl rfl hy_M_isDigit.2 ⟨Nat.le_of_ble_eq_true rfl, Nat.le_of_ble_eq_true rfl⟩) hE hP hD hS hA [] rfl (by decide) rfl hl rfl (Nat.le_of_ble_eq_true rfl) d_M_numberOf_34 ⟨Nat.le_of_ble_eq_true rfl, Nat.le_of_ble_eq_true rfl⟩) hP hD hS hA [] [0, 1] rfl rfl (by decide) (by decide) (fun r_3 u_4 H locs hw_5 hP hD hS => ?_)
        try dsimp only at hw_5
        have h_6 := hw_5
        have hP : va_P G.1 vwCl [(mm, .inr (5, [.ref tp, .int sz, .int at0, .ref tk, .ref tp, .ref ou, .int tm, .int om, al, pt, .ref pg, .int wr])), (tp, .inl (G.2.1 0, 1000, .inl tpf))] H := hP
        have hD : va_D A [(mm, .inr (5, [.ref tp, .int sz, .int at0, .ref tk, .ref tp, .ref ou, .int tm, .int om, al, pt, .ref pg, .int wr])), (tp, .inl (G.2.1 0, 1000, .inl tpf))] := hD
        refine lv_if_ne (tgt := 42) hx hb d_M_numberOf_37 (by decide) (fun c_7 => ?_) (fun c_7 => ?_)
        · have tc_7 := bool_t h_6 c_7
          have hv8 := num_small hk1_21 (by omega)
          refine lv_bipush (v := 10) hx hb d_M_numberOf_42 (by decide) ?_
          refine lv_iload_n hx hb d_M_numberOf_44 rfl (lv_at hl 1 rfl) ?_
          refine lv_imul hx hb d_M_numberOf_45 ?_
          refine lv_topi (fun y_8 ey_8 => ?_)
          have tl_10 : (10 : Int32).toInt = 10 := by decide
          have ty_8 := z_mulL (k := 10) (by decide) ey_8
          refine lv_aload_n hx hb d_M_numberOf_46 rfl (lv_at hl 2 rfl) ?_
          refine va_get (D := G.1) (ci := 5) (v := .ref tp) (C := R_M) (T := F_M) (N := 12) hx hb hw i_M hown hE.1 hP 0 rfl rfl 0 (by decide) (hw _ m_453) (fun _ h9 => h9) rfl d_M_numberOf_47 ?_
          refine lv_iload hx hb d_M_numberOf_50 (lv_at hl 0 rfl) ?_
          refine va_bald hx hb hE.1 hP 1 0 rfl rfl (i := x4_21) (z_in (by omega) (by omega)) d_M_numberOf_52 ?_
          refine lv_topi (fun y_9 ey_9 => ?_)
          have hdd : y_9 = y_2 := by rw [ey_9, ey_2]
          have hdd2 := congrArg Int32.toInt hdd
          refine lv_iadd hx hb d_M_numberOf_53 ?_
          refine lv_topi (fun y_10 ey_10 => ?_)
          have ty_10 := z_addE ey_10
          refine lv_bipush (v := 48) hx hb d_M_numberOf_54 (by decide) ?_
          refine lv_isub hx hb d_M_numberOf_56 ?_
          refine lv_topi (fun y_11 ey_11 => ?_)
          have tl_48 : (48 : Int32).toInt = 48 := by decide
          have ty_11 := z_subE ey_11
          refine lv_istore_n (lv' := [(3, .int y_11), (4, .int x4_21), (0, .ref mm), (1, .int i), (2, .int j)]) hx hb d_M_numberOf_57 rfl hl (by decide) rfl (fun ls hl => ?_)
          obtain ⟨y_12, ey_12⟩ : ∃ y : Int32, y = x4_21 + 1 := ⟨_, rfl⟩
          have tl_1 : (1 : Int32).toInt = 1 := by decide
          have ty_12 := z_addE ey_12
          refine lv_iinc (v := y_12) (lv' := [(4, .int y_12), (3, .int y_11), (0, .ref mm), (1, .int i), (2, .int j)]) hx hb d_M_numberOf_58 hl (k := 1) rfl (by rw [ey_12]; rfl) (by decide) rfl (fun ls hl => ?_)
          refine lv_goto (tgt := 21) hx hb d_M_numberOf_61 (by decide) ?_
          exact ih_21 y_12 y_11 (by first | assumption | trivial | omega | (dsimp only; omega)) (num_step hk1_21 (by assumption) (by omega) (by omega)) hk2_21 (by omega) _ _ (hP.sub [0, 1] rfl) (hD.sub [0, 1] (by decide) rfl) hS _ (lv_sub hl [0, 1, 2, 3, 4] rfl)
        · have tc_7 := bool_f h_6 c_7
          refine lv_iconst (v := (-1)) hx hb d_M_numberOf_40 (by decide) ?_
          exact ret (-1) () (Nat.le_of_ble_eq_true rfl) (Nat.le_of_ble_eq_true rfl) d_M_numberOf_41 rfl (by first | exact Or.inl (by decide) | exact Or.inr ⟨hk1_21.1, by rw [show j.toInt = x4_21.toInt by omega]; exact hk1_21.2, hk2_21.1, hk2_21.2⟩) (hP.sub [0, 1] rfl) (hD.sub [0, 1] (by decide) rfl) hS
  refine lv_iload_n hx hb d_M_numberOf_0 rfl (lv_at hl 2 rfl) ?_
  refine lv_iload_n hx hb d_M_numberOf_1 rfl (lv_at hl 1 rfl) ?_
  refine lv_isub hx hb d_M_numberOf_2 ?_
  refine lv_topi (fun y_13 ey_13 => ?_)
  have ty_13 := z_subE ey_13
  refine lv_i2l hx hb d_M_numberOf_3 rfl ?_
  refine lv_lconst (v := 1) hx hb d_M_numberOf_4 rfl ?_
  refine lv_ldc2 (v := 9) hx hb hown (hw _ m_656) d_M_numberOf_5 ?_
  refine gc_i (wr := [(mm, .inr (5, [.ref tp, .int sz, .int at0, .ref tk, .ref tp, .ref ou, .int tm, .int om, al, pt, .ref pg, .int wr])), (tp, .inl (G.2.1 0, 1000, .inl tpf))]) (gc_S (wc := []) (As := [.long y_13.toInt64, .long 1, .long 9]) (rest := []) ⟨hx, hb, hml, hown, hw⟩ (c_M_in l G y_13.toInt64 1 9 y_13.toInt 1 9 (Int32.toInt_toInt64 _) (by decide) (by decide) H.size) (va_cwS 3 hw (good_S m_498 m_499 m_4 m_500) rfl rfl rfl hy_M_in.2 ⟨Nat.le_of_ble_eq_true rfl, Nat.le_of_ble_eq_true rfl⟩) hE hP hD hS hA [] rfl (by decide) rfl hl rfl (Nat.le_of_ble_eq_true rfl) d_M_numberOf_8 ⟨Nat.le_of_ble_eq_true rfl, Nat.le_of_ble_eq_true rfl⟩) hP hD hS hA [] [0, 1] rfl rfl (by decide) (by decide) (fun r_14 u_15 H locs hw_16 hP hD hS => ?_)
  try dsimp only at hw_16
  have h_17 := hw_16
  have hP : va_P G.1 vwCl [(mm, .inr (5, [.ref tp, .int sz, .int at0, .ref tk, .ref tp, .ref ou, .int tm, .int om, al, pt, .ref pg, .int wr])), (tp, .inl (G.2.1 0, 1000, .inl tpf))] H := hP
  have hD : va_D A [(mm, .inr (5, [.ref tp, .int sz, .int at0, .ref tk, .ref tp, .ref ou, .int tm, .int om, al, pt, .ref pg, .int wr])), (tp, .inl (G.2.1 0, 1000, .inl tpf))] := hD
  refine lv_if_ne (tgt := 16) hx hb d_M_numberOf_11 (by decide) (fun c_18 => ?_) (fun c_18 => ?_)
  · have tc_18 := bool_t h_17 c_18
    refine lv_iconst (v := 0) hx hb d_M_numberOf_16 (by decide) ?_
    refine lv_istore_n (lv' := [(3, .int 0), (0, .ref mm), (1, .int i), (2, .int j)]) hx hb d_M_numberOf_17 rfl hl (by decide) rfl (fun ls hl => ?_)
    refine lv_iload_n hx hb d_M_numberOf_18 rfl (lv_at hl 2 rfl) ?_
    refine lv_istore (lv' := [(4, .int i), (3, .int 0), (0, .ref mm), (1, .int i), (2, .int j)]) hx hb d_M_numberOf_19 hl (by decide) rfl (fun ls hl => ?_)
    have tl_0 : (0 : Int32).toInt = 0 := by decide
    exact J_21 _ i 0 (by first | assumption | trivial | omega | (dsimp only; omega)) (⟨by decide, by rw [Int.sub_self]; decide⟩) (by first | assumption | trivial | omega | (dsimp only; omega)) (Nat.lt_succ_self _) _ _ (hP.sub [0, 1] rfl) (hD.sub [0, 1] (by decide) rfl) hS _ (lv_sub hl [0, 1, 2, 3, 4] rfl)
  · have tc_18 := bool_f h_17 c_18
    refine lv_iconst (v := (-1)) hx hb d_M_numberOf_14 (by decide) ?_
    exact ret (-1) () (Nat.le_of_ble_eq_true rfl) (Nat.le_of_ble_eq_true rfl) d_M_numberOf_15 rfl (by first | exact Or.inl (by decide) | exact Or.inr ⟨hk1_21.1, by rw [show j.toInt = x4_21.toInt by omega]; exact hk1_21.2, hk2_21.1, hk2_21.2⟩) (hP.sub [0, 1] rfl) (hD.sub [0, 1] (by decide) rfl) hS
def rm_M_takeNumber : Room := { frames := 3, cells := 0, slots := 0, locals := 62 }
set_option maxHeartbeats 4000000 in
set_option maxRecDepth 100000 in
theorem c_M_takeNumber (l : Launch) (G : GG) (mm : Nat) (tp : Nat) (tk : Nat) (ou : Nat) (pg : Nat) (sz : Int32) (at0 : Int32) (tm : Int32) (om : Int32) (wr : Int32) (al : Value) (pt : Value) (tpf : Nat → Int32) (hz : 0 ≤ sz.toInt ∧ sz.toInt ≤ 1000) (hc : 0 ≤ at0.toInt ∧ at0.toInt ≤ sz.toInt) : MI l y_M_takeNumber b_M_takeNumber 3 .int rm_M_takeNumber G [.ref mm] [(mm, .inr (5, [.ref tp, .int sz, .int at0, .ref tk, .ref tp, .ref ou, .int tm, .int om, al, pt, .ref pg, .int wr])), (tp, .inl (G.2.1 0, 1000, .inl tpf))] (fun (v : Int32) (u : Int32) => ((v.toInt < 0 ∧ u.toInt = at0.toInt) ∨ (0 ≤ v.toInt ∧ v.toInt < 10 ^ (u.toInt - at0.toInt).toNat ∧ 1 ≤ u.toInt - at0.toInt ∧ u.toInt - at0.toInt ≤ 9 ∧ u.toInt ≤ sz.toInt))) (fun (u : Int32) => [(mm, .inr (5, [.ref tp, .int sz, .int u, .ref tk, .ref tp, .ref ou, .int tm, .int om, al, pt, .ref pg, .int wr])), (tp, .inl (G.2.1 0, 1000, .inl tpf))]) 0 0 := by
  refine MI.of (cc := b_M_takeNumber) (maxL := 3) (ty := .int) (C := R_M) (by decide +kernel) rfl (Nat.le_of_ble_eq_true rfl) ?_
  intro p e s m args below meth c A Q H ls hx hb hml hown hw hE hA hP hD hS ret hl
  have hl : lv_has ls 3 [(0, .ref mm)] := hl
  refine lv_aload_n hx hb d_M_takeNumber_0 rfl (lv_at hl 0 rfl) ?_
  refine lv_aload_n hx hb d_M_takeNumber_1 rfl (lv_at hl 0 rfl) ?_
  refine va_get (D := G.1) (ci := 5) (v := .int at0) (C := R_M) (T := F_M) (N := 12) hx hb hw i_M hown hE.1 hP 0 rfl rfl 2 (by decide) (hw _ m_455) (fun _ h9 => h9) rfl d_M_takeNumber_2 ?_
  refine gc_i (wr := []) (gc_V (wc := [(mm, .inr (5, [.ref tp, .int sz, .int at0, .ref tk, .ref tp, .ref ou, .int tm, .int om, al, pt, .ref pg, .int wr])), (tp, .inl (G.2.1 0, 1000, .inl tpf))]) (As := [.int at0]) (rest := []) ⟨hx, hb, hml, hown, hw⟩ (c_M_wordEnd l G mm tp tk ou pg sz at0 tm om wr al pt tpf at0 hz hc H.size) (cwV 1 hw (good_V m_524 m_526 ms_34 m_4 m_527) rfl rfl rfl hy_M_wordEnd ⟨Nat.le_of_ble_eq_true rfl, Nat.le_of_ble_eq_true rfl⟩) hE hP hD hS hA (va_recv hE.1 hP (ci := 5) (q0 := 0) rfl rfl) [0, 1] rfl (by decide) rfl hl rfl (Nat.le_of_ble_eq_true rfl) d_M_takeNumber_5 ⟨Nat.le_of_ble_eq_true rfl, Nat.le_of_ble_eq_true rfl⟩) hP hD hS hA [0, 1] [] rfl rfl (by decide) (by decide) (fun r_1 u_2 H locs hw_3 hP hD hS => ?_)
  try dsimp only at hw_3
  have h_4 := hw_3
  have hP : va_P G.1 vwCl [(mm, .inr (5, [.ref tp, .int sz, .int at0, .ref tk, .ref tp, .ref ou, .int tm, .int om, al, pt, .ref pg, .int wr])), (tp, .inl (G.2.1 0, 1000, .inl tpf))] H := hP
  have hD : va_D A [(mm, .inr (5, [.ref tp, .int sz, .int at0, .ref tk, .ref tp, .ref ou, .int tm, .int om, al, pt, .ref pg, .int wr])), (tp, .inl (G.2.1 0, 1000, .inl tpf))] := hD
  refine lv_istore_n (lv' := [(1, .int r_1), (0, .ref mm)]) hx hb d_M_takeNumber_8 rfl hl (by decide) rfl (fun ls hl => ?_)
  refine lv_aload_n hx hb d_M_takeNumber_9 rfl (lv_at hl 1 rfl) ?_
  refine lv_aload_n hx hb d_M_takeNumber_10 rfl (lv_at hl 1 rfl) ?_
  refine va_get (D := G.1) (ci := 5) (v := .int at0) (C := R_M) (T := F_M) (N := 12) hx hb hw i_M hown hE.1 hP 0 rfl rfl 2 (by decide) (hw _ m_455) (fun _ h9 => h9) rfl d_M_takeNumber_11 ?_
  refine lv_iload_n hx hb d_M_takeNumber_14 rfl (lv_at hl 0 rfl) ?_
  refine gc_i (wr := []) (gc_V (wc := [(mm, .inr (5, [.ref tp, .int sz, .int at0, .ref tk, .ref tp, .ref ou, .int tm, .int om, al, pt, .ref pg, .int wr])), (tp, .inl (G.2.1 0, 1000, .inl tpf))]) (As := [.int at0, .int r_1]) (rest := []) ⟨hx, hb, hml, hown, hw⟩ (c_M_numberOf l G mm tp tk ou pg sz at0 tm om wr al pt tpf at0 r_1 hz (by first | assumption | trivial | omega | (dsimp only; omega)) H.size) (cwV 2 hw (good_V m_652 m_654 ms_44 m_4 m_655) rfl rfl rfl hy_M_numberOf ⟨Nat.le_of_ble_eq_true rfl, Nat.le_of_ble_eq_true rfl⟩) hE hP hD hS hA (va_recv hE.1 hP (ci := 5) (q0 := 0) rfl rfl) [0, 1] rfl (by decide) rfl hl rfl (Nat.le_of_ble_eq_true rfl) d_M_takeNumber_15 ⟨Nat.le_of_ble_eq_true rfl, Nat.le_of_ble_eq_true rfl⟩) hP hD hS hA [0, 1] [] rfl rfl (by decide) (by decide) (fun r_5 u_6 H locs hw_7 hP hD hS => ?_)
  try dsimp only at hw_7
  have h_8 := hw_7
  have hP : va_P G.1 vwCl [(mm, .inr (5, [.ref tp, .int sz, .int at0, .ref tk, .ref tp, .ref ou, .int tm, .int om, al, pt, .ref pg, .int wr])), (tp, .inl (G.2.1 0, 1000, .inl tpf))] H := hP
  have hD : va_D A [(mm, .inr (5, [.ref tp, .int sz, .int at0, .ref tk, .ref tp, .ref ou, .int tm, .int om, al, pt, .ref pg, .int wr])), (tp, .inl (G.2.1 0, 1000, .inl tpf))] := hD
  refine lv_istore_n (lv' := [(2, .int r_5), (1, .int r_1), (0, .ref mm)]) hx hb d_M_takeNumber_18 rfl hl (by decide) rfl (fun ls hl => ?_)
  refine lv_iload_n hx hb d_M_takeNumber_19 rfl (lv_at hl 0 rfl) ?_
  refine lv_if_lt (tgt := 28) hx hb d_M_takeNumber_20 (by decide) (fun c_9 => ?_) (fun c_9 => ?_)
  · have tl_0 : (0 : Int32).toInt = 0 := by decide
    have tc_9 := z_lt.mp c_9
    refine lv_iload_n hx hb d_M_takeNumber_28 rfl (lv_at hl 0 rfl) ?_
    exact ret r_5 (at0) (Nat.le_of_ble_eq_true rfl) (Nat.le_of_ble_eq_true rfl) d_M_takeNumber_29 rfl (by first | exact Or.inl ⟨by omega, rfl⟩ | exact tn_ok (by assumption) (by assumption) (by omega)) (hP.sub [0, 1] rfl) (hD.sub [0, 1] (by decide) rfl) hS
  · have tl_0 : (0 : Int32).toInt = 0 := by decide
    have tc_9 := z_nlt c_9
    refine lv_aload_n hx hb d_M_takeNumber_23 rfl (lv_at hl 2 rfl) ?_
    refine lv_iload_n hx hb d_M_takeNumber_24 rfl (lv_at hl 1 rfl) ?_
    refine va_put (D := G.1) (ci := 5) (v := .int r_1) (ty := .int) (C := R_M) (T := F_M) (N := 12) hx hb hw i_M t_M t_M_ok n_M hown hE.1 hP hD hS 0 rfl rfl 2 (by decide) (hw _ m_455) (fun _ h9 => h9) rfl (by decide +kernel) rfl rfl (Nat.le_of_ble_eq_true rfl) d_M_takeNumber_25 (fun H locs hP hD hS => ?_)
    have hP : va_P G.1 vwCl [(mm, .inr (5, [.ref tp, .int sz, .int r_1, .ref tk, .ref tp, .ref ou, .int tm, .int om, al, pt, .ref pg, .int wr])), (tp, .inl (G.2.1 0, 1000, .inl tpf))] H := hP
    have hD : va_D A [(mm, .inr (5, [.ref tp, .int sz, .int r_1, .ref tk, .ref tp, .ref ou, .int tm, .int om, al, pt, .ref pg, .int wr])), (tp, .inl (G.2.1 0, 1000, .inl tpf))] := hD
    refine lv_iload_n hx hb d_M_takeNumber_28 rfl (lv_at hl 0 rfl) ?_
    exact ret r_5 (r_1) (Nat.le_of_ble_eq_true rfl) (Nat.le_of_ble_eq_true rfl) d_M_takeNumber_29 rfl (by first | exact Or.inl ⟨by omega, rfl⟩ | exact tn_ok (by assumption) (by assumption) (by omega)) (hP.sub [0, 1] rfl) (hD.sub [0, 1] (by decide) rfl) hS
def rm_M_feed : Room := { frames := 0, cells := 1, slots := 5, locals := 0 }
set_option maxHeartbeats 4000000 in
set_option maxRecDepth 100000 in
theorem c_M_feed (l : Launch) (G : GG) (mm : Nat) (tp : Nat) (tk : Nat) (ou : Nat) (pg : Nat) (sz : Int32) (at0 : Int32) (tm : Int32) (om : Int32) (wr : Int32) (al : Value) (pt : Value) (tx : Value) (tpf : Nat → Int32) (f1 : Int32) (f2 : Int32) (f3 : Int32) (f4 : Int32) (f5 : Int32) (ht : 0 ≤ tm.toInt ∧ tm.toInt ≤ 1000) (hft : sb_Fit tpf) : MI l y_M_feed b_M_feed 8 .int rm_M_feed G [.ref mm, .int f1, .int f2, .int f3, .int f4, .int f5] [(mm, .inr (5, [tx, .int sz, .int at0, .ref tk, .ref tp, .ref ou, .int tm, .int om, al, pt, .ref pg, .int wr])), (tp, .inl (G.2.1 0, 1000, .inl tpf))] (fun (v : Int32) (u : Int32 × (Nat → Int32)) => (sb_Fit u.2) ∧ (v = fdV tm) ∧ (u.1 = fdT tm)) (fun (u : Int32 × (Nat → Int32)) => [(mm, .inr (5, [tx, .int sz, .int at0, .ref tk, .ref tp, .ref ou, .int u.1, .int om, al, pt, .ref pg, .int wr])), (tp, .inl (G.2.1 0, 1000, .inl u.2))]) 1 5 := by
  refine MI.of (cc := b_M_feed) (maxL := 8) (ty := .int) (C := R_M) (by decide +kernel) rfl (Nat.le_of_ble_eq_true rfl) ?_
  intro p e s m args below meth c A Q H ls hx hb hml hown hw hE hA hP hD hS ret hl
  have hl : lv_has ls 8 [(0, .ref mm), (1, .int f1), (2, .int f2), (3, .int f3), (4, .int f4), (5, .int f5)] := hl
  have J_46 : ∀ (fu : Nat) (x7_46 : Int32) (tm2_46 : Int32) (tpf2_46 : Nat → Int32) (qx0_46 : Nat) (fx0_46 : Nat → Int32) (hj0_46 : sb_Fit tpf2_46) (hk0_46 : 0 ≤ x7_46.toInt) (hk1_46 : tm.toInt + 20 ≤ 1000) (hk2_46 : tm2_46 = tm) (hk3_46 : tm2_46.toInt = tm.toInt), (20 - x7_46.toInt).toNat < fu → ∀ (H : Heap) (locs : List Loc), va_P G.1 vwCl [(mm, .inr (5, [tx, .int sz, .int at0, .ref tk, .ref tp, .ref ou, .int tm2_46, .int om, al, pt, .ref pg, .int wr])), (tp, .inl (G.2.1 0, 1000, .inl tpf2_46)), (qx0_46, .inl (G.2.1 1, 5, .inl fx0_46))] H → va_D A [(mm, .inr (5, [tx, .int sz, .int at0, .ref tk, .ref tp, .ref ou, .int tm2_46, .int om, al, pt, .ref pg, .int wr])), (tp, .inl (G.2.1 0, 1000, .inl tpf2_46)), (qx0_46, .inl (G.2.1 1, 5, .inl fx0_46))] → va_S A s.heap H locs → ∀ ls : Array Slot, lv_has ls 8 [(7, .int x7_46), (6, .ref qx0_46), (0, .ref mm), (1, .int f1), (2, .int f2), (3, .int f3), (4, .int f4), (5, .int f5)] → W p l e rm_M_feed s m args below meth c H locs 1 5 Q (F0 m 46 ls []) := by
    intro fu
    induction fu with
    | zero =>
      intro x7_46 tm2_46 tpf2_46 qx0_46 fx0_46 hj0_46 hk0_46 hk1_46 hk2_46 hk3_46 hm
      exact absurd hm (Nat.not_lt_zero _)
    | succ fu ih_46 =>
      intro x7_46 tm2_46 tpf2_46 qx0_46 fx0_46 hj0_46 hk0_46 hk1_46 hk2_46 hk3_46 hm_46 H locs hP hD hS ls hl
      refine lv_iload hx hb d_M_feed_46 (lv_at hl 0 rfl) ?_
      refine lv_bipush (v := 20) hx hb d_M_feed_48 (by decide) ?_
      refine lv_icmp_ge (tgt := 90) hx hb d_M_feed_50 (by decide) (fun c_1 => ?_) (fun c_1 => ?_)
      · have tl_20 : (20 : Int32).toInt = 20 := by decide
        have tc_1 := z_le.mp c_1
        refine lv_aload_n hx hb d_M_feed_90 rfl (lv_at hl 2 rfl) ?_
        refine lv_dup hx hb d_M_feed_91 rfl ?_
        refine va_get (D := G.1) (ci := 5) (v := .int tm2_46) (C := R_M) (T := F_M) (N := 12) hx hb hw i_M hown hE.1 hP 0 rfl rfl 6 (by decide) (hw _ m_459) (fun _ h9 => h9) rfl d_M_feed_92 ?_
        refine lv_bipush (v := 20) hx hb d_M_feed_95 (by decide) ?_
        refine lv_iadd hx hb d_M_feed_97 ?_
        refine lv_topi (fun y_2 ey_2 => ?_)
        have ty_2 := z_addE ey_2
        refine va_put (D := G.1) (ci := 5) (v := .int y_2) (ty := .int) (C := R_M) (T := F_M) (N := 12) hx hb hw i_M t_M t_M_ok n_M hown hE.1 hP hD hS 0 rfl rfl 6 (by decide) (hw _ m_459) (fun _ h9 => h9) rfl (by decide +kernel) rfl rfl (Nat.le_of_ble_eq_true rfl) d_M_feed_98 (fun H locs hP hD hS => ?_)
        have hP : va_P G.1 vwCl [(mm, .inr (5, [tx, .int sz, .int at0, .ref tk, .ref tp, .ref ou, .int y_2, .int om, al, pt, .ref pg, .int wr])), (tp, .inl (G.2.1 0, 1000, .inl tpf2_46)), (qx0_46, .inl (G.2.1 1, 5, .inl fx0_46))] H := hP
        have hD : va_D A [(mm, .inr (5, [tx, .int sz, .int at0, .ref tk, .ref tp, .ref ou, .int y_2, .int om, al, pt, .ref pg, .int wr])), (tp, .inl (G.2.1 0, 1000, .inl tpf2_46)), (qx0_46, .inl (G.2.1 1, 5, .inl fx0_46))] := hD
        refine lv_aload_n hx hb d_M_feed_101 rfl (lv_at hl 2 rfl) ?_
        refine va_get (D := G.1) (ci := 5) (v := .int y_2) (C := R_M) (T := F_M) (N := 12) hx hb hw i_M hown hE.1 hP 0 rfl rfl 6 (by decide) (hw _ m_459) (fun _ h9 => h9) rfl d_M_feed_102 ?_
        exact ret y_2 (y_2, tpf2_46) (Nat.le_of_ble_eq_true rfl) (Nat.le_of_ble_eq_true rfl) d_M_feed_105 rfl ⟨hj0_46, (by first | exact (fdM1 ht (by assumption) (by assumption)).1.symm | exact (fdM2 hk2_46 (by assumption) (by omega)).1), (by first | exact (fdM1 ht (by assumption) (by assumption)).2.symm | exact (fdM2 hk2_46 (by assumption) (by omega)).2)⟩ (hP.sub [0, 1] rfl) (hD.sub [0, 1] (by decide) rfl) hS
      · have tl_20 : (20 : Int32).toInt = 20 := by decide
        have tc_1 := z_nle c_1
        refine lv_aload_n hx hb d_M_feed_53 rfl (lv_at hl 2 rfl) ?_
        refine va_get (D := G.1) (ci := 5) (v := .ref tp) (C := R_M) (T := F_M) (N := 12) hx hb hw i_M hown hE.1 hP 0 rfl rfl 4 (by decide) (hw _ m_457) (fun _ h9 => h9) rfl d_M_feed_54 ?_
        refine lv_aload_n hx hb d_M_feed_57 rfl (lv_at hl 2 rfl) ?_
        refine va_get (D := G.1) (ci := 5) (v := .int tm2_46) (C := R_M) (T := F_M) (N := 12) hx hb hw i_M hown hE.1 hP 0 rfl rfl 6 (by decide) (hw _ m_459) (fun _ h9 => h9) rfl d_M_feed_58 ?_
        refine lv_iload hx hb d_M_feed_61 (lv_at hl 0 rfl) ?_
        refine lv_iadd hx hb d_M_feed_63 ?_
        refine lv_topi (fun y_3 ey_3 => ?_)
        have ty_3 := z_addE ey_3
        refine lv_aload hx hb d_M_feed_64 (lv_at hl 1 rfl) ?_
        refine lv_iload hx hb d_M_feed_66 (lv_at hl 0 rfl) ?_
        refine lv_iconst (v := 4) hx hb d_M_feed_68 (by decide) ?_
        refine lv_idiv hx hb d_M_feed_69 (by decide) ?_
        refine lv_topi (fun y_4 ey_4 => ?_)
        have ty_4 := z_divE (k := 4) (by decide) (by decide) ey_4
        refine va_iald hx hb hE.1 hP 2 1 rfl rfl (i := y_4) (z_in (by omega) (by omega)) d_M_feed_70 ?_
        refine lv_topi (fun y_5 ey_5 => ?_)
        refine lv_bipush (v := 24) hx hb d_M_feed_71 (by decide) ?_
        refine lv_bipush (v := 8) hx hb d_M_feed_73 (by decide) ?_
        refine lv_iload hx hb d_M_feed_75 (lv_at hl 0 rfl) ?_
        refine lv_iconst (v := 4) hx hb d_M_feed_77 (by decide) ?_
        refine lv_irem hx hb d_M_feed_78 (by decide) ?_
        refine lv_topi (fun y_6 ey_6 => ?_)
        refine lv_imul hx hb d_M_feed_79 ?_
        refine lv_topi (fun y_7 ey_7 => ?_)
        have tl_8 : (8 : Int32).toInt = 8 := by decide
        have ty_7 := z_mulL (k := 8) (by decide) ey_7
        refine lv_isub hx hb d_M_feed_80 ?_
        refine lv_topi (fun y_8 ey_8 => ?_)
        have tl_24 : (24 : Int32).toInt = 24 := by decide
        have ty_8 := z_subE ey_8
        refine lv_ishr hx hb d_M_feed_81 ?_
        refine lv_topi (fun y_9 ey_9 => ?_)
        refine lv_i2b hx hb d_M_feed_82 rfl ?_
        refine lv_topi (fun y_10 ey_10 => ?_)
        refine va_bast hx hb hE.1 hP hD hS 1 0 rfl rfl (i := y_3) (z_in (by omega) (by omega)) d_M_feed_83 (fun H locs hP hD hS => ?_)
        obtain ⟨f_11, ef_11⟩ : ∃ y : Nat → Int32, y = upd tpf2_46 y_3.toNatClampNeg (vp_nar .byte y_10) := ⟨_, rfl⟩
        rw [← ef_11] at hP hD
        have hP : va_P G.1 vwCl [(mm, .inr (5, [tx, .int sz, .int at0, .ref tk, .ref tp, .ref ou, .int tm2_46, .int om, al, pt, .ref pg, .int wr])), (tp, .inl (G.2.1 0, 1000, .inl f_11)), (qx0_46, .inl (G.2.1 1, 5, .inl fx0_46))] H := hP
        have hD : va_D A [(mm, .inr (5, [tx, .int sz, .int at0, .ref tk, .ref tp, .ref ou, .int tm2_46, .int om, al, pt, .ref pg, .int wr])), (tp, .inl (G.2.1 0, 1000, .inl f_11)), (qx0_46, .inl (G.2.1 1, 5, .inl fx0_46))] := hD
        have hff_11 : sb_Fit f_11 := by rw [ef_11]; exact fit_upd hj0_46
        obtain ⟨y_12, ey_12⟩ : ∃ y : Int32, y = x7_46 + 1 := ⟨_, rfl⟩
        have tl_1 : (1 : Int32).toInt = 1 := by decide
        have ty_12 := z_addE ey_12
        refine lv_iinc (v := y_12) (lv' := [(7, .int y_12), (6, .ref qx0_46), (0, .ref mm), (1, .int f1), (2, .int f2), (3, .int f3), (4, .int f4), (5, .int f5)]) hx hb d_M_feed_84 hl (k := 0) rfl (by rw [ey_12]; rfl) (by decide) rfl (fun ls hl => ?_)
        refine lv_goto (tgt := 46) hx hb d_M_feed_87 (by decide) ?_
        exact ih_46 y_12 tm2_46 f_11 qx0_46 fx0_46 hff_11 (by first | assumption | trivial | omega | (dsimp only; omega)) hk1_46 hk2_46 hk3_46 (by omega) _ _ (hP.sub [0, 1, 2] rfl) (hD.sub [0, 1, 2] (by decide) rfl) hS _ (lv_sub hl [0, 1, 2, 3, 4, 5, 6, 7] rfl)
  refine lv_aload_n hx hb d_M_feed_0 rfl (lv_at hl 0 rfl) ?_
  refine va_get (D := G.1) (ci := 5) (v := .int tm) (C := R_M) (T := F_M) (N := 12) hx hb hw i_M hown hE.1 hP 0 rfl rfl 6 (by decide) (hw _ m_459) (fun _ h9 => h9) rfl d_M_feed_1 ?_
  refine lv_bipush (v := 20) hx hb d_M_feed_4 (by decide) ?_
  refine lv_iadd hx hb d_M_feed_6 ?_
  refine lv_topi (fun y_13 ey_13 => ?_)
  have tl_20 : (20 : Int32).toInt = 20 := by decide
  have ty_13 := z_addE ey_13
  refine lv_sipush (v := 1000) hx hb d_M_feed_7 (by decide) ?_
  refine lv_icmp_le (tgt := 16) hx hb d_M_feed_10 (by decide) (fun c_14 => ?_) (fun c_14 => ?_)
  · have tl_1000 : (1000 : Int32).toInt = 1000 := by decide
    have tc_14 := z_le.mp c_14
    refine lv_iconst (v := 5) hx hb d_M_feed_16 (by decide) ?_
    refine gc_newa (atype := .int) (ty := .int) (N' := 5) (a0 := (5, .inl (fun _ => 0))) hx hb (hw _ m_64) rfl hE hP hD hS hA 1 rfl (fun _ h => h) (fun _ => rfl) (by decide) (by decide) (by decide) (Nat.le_of_ble_eq_true rfl) (Nat.le_of_ble_eq_true rfl) d_M_feed_17 (fun q_15 H hP hD hS => ?_)
    have hP : va_P G.1 vwCl [(mm, .inr (5, [tx, .int sz, .int at0, .ref tk, .ref tp, .ref ou, .int tm, .int om, al, pt, .ref pg, .int wr])), (tp, .inl (G.2.1 0, 1000, .inl tpf)), (q_15, .inl (G.2.1 1, 5, .inl (fun _ => 0)))] H := hP
    have hD : va_D A [(mm, .inr (5, [tx, .int sz, .int at0, .ref tk, .ref tp, .ref ou, .int tm, .int om, al, pt, .ref pg, .int wr])), (tp, .inl (G.2.1 0, 1000, .inl tpf)), (q_15, .inl (G.2.1 1, 5, .inl (fun _ => 0)))] := hD
    refine W.widen (k := 1) (n := 5) (Nat.le_of_ble_eq_true rfl) (Nat.le_of_ble_eq_true rfl) ?_
    refine lv_dup hx hb d_M_feed_19 rfl ?_
    refine lv_iconst (v := 0) hx hb d_M_feed_20 (by decide) ?_
    refine lv_iload_n hx hb d_M_feed_21 rfl (lv_at hl 1 rfl) ?_
    have tl_0 : (0 : Int32).toInt = 0 := by decide
    refine va_iast hx hb hE.1 hP hD hS 2 1 rfl rfl (i := 0) (z_in (by omega) (by omega)) d_M_feed_22 (fun H locs hP hD hS => ?_)
    obtain ⟨f_16, ef_16⟩ : ∃ y : Nat → Int32, y = upd (fun _ => 0) (0 : Int32).toNatClampNeg (f1) := ⟨_, rfl⟩
    rw [← ef_16] at hP hD
    have hP : va_P G.1 vwCl [(mm, .inr (5, [tx, .int sz, .int at0, .ref tk, .ref tp, .ref ou, .int tm, .int om, al, pt, .ref pg, .int wr])), (tp, .inl (G.2.1 0, 1000, .inl tpf)), (q_15, .inl (G.2.1 1, 5, .inl f_16))] H := hP
    have hD : va_D A [(mm, .inr (5, [tx, .int sz, .int at0, .ref tk, .ref tp, .ref ou, .int tm, .int om, al, pt, .ref pg, .int wr])), (tp, .inl (G.2.1 0, 1000, .inl tpf)), (q_15, .inl (G.2.1 1, 5, .inl f_16))] := hD
    refine lv_dup hx hb d_M_feed_23 rfl ?_
    refine lv_iconst (v := 1) hx hb d_M_feed_24 (by decide) ?_
    refine lv_iload_n hx hb d_M_feed_25 rfl (lv_at hl 2 rfl) ?_
    have tl_1 : (1 : Int32).toInt = 1 := by decide
    refine va_iast hx hb hE.1 hP hD hS 2 1 rfl rfl (i := 1) (z_in (by omega) (by omega)) d_M_feed_26 (fun H locs hP hD hS => ?_)
    obtain ⟨f_17, ef_17⟩ : ∃ y : Nat → Int32, y = upd f_16 (1 : Int32).toNatClampNeg (f2) := ⟨_, rfl⟩
    rw [← ef_17] at hP hD
    have hP : va_P G.1 vwCl [(mm, .inr (5, [tx, .int sz, .int at0, .ref tk, .ref tp, .ref ou, .int tm, .int om, al, pt, .ref pg, .int wr])), (tp, .inl (G.2.1 0, 1000, .inl tpf)), (q_15, .inl (G.2.1 1, 5, .inl f_17))] H := hP
    have hD : va_D A [(mm, .inr (5, [tx, .int sz, .int at0, .ref tk, .ref tp, .ref ou, .int tm, .int om, al, pt, .ref pg, .int wr])), (tp, .inl (G.2.1 0, 1000, .inl tpf)), (q_15, .inl (G.2.1 1, 5, .inl f_17))] := hD
    refine lv_dup hx hb d_M_feed_27 rfl ?_
    refine lv_iconst (v := 2) hx hb d_M_feed_28 (by decide) ?_
    refine lv_iload_n hx hb d_M_feed_29 rfl (lv_at hl 3 rfl) ?_
    have tl_2 : (2 : Int32).toInt = 2 := by decide
    refine va_iast hx hb hE.1 hP hD hS 2 1 rfl rfl (i := 2) (z_in (by omega) (by omega)) d_M_feed_30 (fun H locs hP hD hS => ?_)
    obtain ⟨f_18, ef_18⟩ : ∃ y : Nat → Int32, y = upd f_17 (2 : Int32).toNatClampNeg (f3) := ⟨_, rfl⟩
    rw [← ef_18] at hP hD
    have hP : va_P G.1 vwCl [(mm, .inr (5, [tx, .int sz, .int at0, .ref tk, .ref tp, .ref ou, .int tm, .int om, al, pt, .ref pg, .int wr])), (tp, .inl (G.2.1 0, 1000, .inl tpf)), (q_15, .inl (G.2.1 1, 5, .inl f_18))] H := hP
    have hD : va_D A [(mm, .inr (5, [tx, .int sz, .int at0, .ref tk, .ref tp, .ref ou, .int tm, .int om, al, pt, .ref pg, .int wr])), (tp, .inl (G.2.1 0, 1000, .inl tpf)), (q_15, .inl (G.2.1 1, 5, .inl f_18))] := hD
    refine lv_dup hx hb d_M_feed_31 rfl ?_
    refine lv_iconst (v := 3) hx hb d_M_feed_32 (by decide) ?_
    refine lv_iload hx hb d_M_feed_33 (lv_at hl 4 rfl) ?_
    have tl_3 : (3 : Int32).toInt = 3 := by decide
    refine va_iast hx hb hE.1 hP hD hS 2 1 rfl rfl (i := 3) (z_in (by omega) (by omega)) d_M_feed_35 (fun H locs hP hD hS => ?_)
    obtain ⟨f_19, ef_19⟩ : ∃ y : Nat → Int32, y = upd f_18 (3 : Int32).toNatClampNeg (f4) := ⟨_, rfl⟩
    rw [← ef_19] at hP hD
    have hP : va_P G.1 vwCl [(mm, .inr (5, [tx, .int sz, .int at0, .ref tk, .ref tp, .ref ou, .int tm, .int om, al, pt, .ref pg, .int wr])), (tp, .inl (G.2.1 0, 1000, .inl tpf)), (q_15, .inl (G.2.1 1, 5, .inl f_19))] H := hP
    have hD : va_D A [(mm, .inr (5, [tx, .int sz, .int at0, .ref tk, .ref tp, .ref ou, .int tm, .int om, al, pt, .ref pg, .int wr])), (tp, .inl (G.2.1 0, 1000, .inl tpf)), (q_15, .inl (G.2.1 1, 5, .inl f_19))] := hD
    refine lv_dup hx hb d_M_feed_36 rfl ?_
    refine lv_iconst (v := 4) hx hb d_M_feed_37 (by decide) ?_
    refine lv_iload hx hb d_M_feed_38 (lv_at hl 5 rfl) ?_
    have tl_4 : (4 : Int32).toInt = 4 := by decide
    refine va_iast hx hb hE.1 hP hD hS 2 1 rfl rfl (i := 4) (z_in (by omega) (by omega)) d_M_feed_40 (fun H locs hP hD hS => ?_)
    obtain ⟨f_20, ef_20⟩ : ∃ y : Nat → Int32, y = upd f_19 (4 : Int32).toNatClampNeg (f5) := ⟨_, rfl⟩
    rw [← ef_20] at hP hD
    have hP : va_P G.1 vwCl [(mm, .inr (5, [tx, .int sz, .int at0, .ref tk, .ref tp, .ref ou, .int tm, .int om, al, pt, .ref pg, .int wr])), (tp, .inl (G.2.1 0, 1000, .inl tpf)), (q_15, .inl (G.2.1 1, 5, .inl f_20))] H := hP
    have hD : va_D A [(mm, .inr (5, [tx, .int sz, .int at0, .ref tk, .ref tp, .ref ou, .int tm, .int om, al, pt, .ref pg, .int wr])), (tp, .inl (G.2.1 0, 1000, .inl tpf)), (q_15, .inl (G.2.1 1, 5, .inl f_20))] := hD
    refine lv_astore (lv' := [(6, .ref q_15), (0, .ref mm), (1, .int f1), (2, .int f2), (3, .int f3), (4, .int f4), (5, .int f5)]) hx hb d_M_feed_41 hl (by decide) rfl (fun ls hl => ?_)
    refine lv_iconst (v := 0) hx hb d_M_feed_43 (by decide) ?_
    refine lv_istore (lv' := [(7, .int 0), (6, .ref q_15), (0, .ref mm), (1, .int f1), (2, .int f2), (3, .int f3), (4, .int f4), (5, .int f5)]) hx hb d_M_feed_44 hl (by decide) rfl (fun ls hl => ?_)
    exact J_46 _ 0 tm tpf q_15 f_20 hft (by first | assumption | trivial | omega | (dsimp only; omega)) (by first | assumption | trivial | omega | (dsimp only; omega)) (by first | assumption | trivial | omega | (dsimp only; omega)) (by first | assumption | trivial | omega | (dsimp only; omega)) (Nat.lt_succ_self _) _ _ (hP.sub [0, 1, 2] rfl) (hD.sub [0, 1, 2] (by decide) rfl) hS _ (lv_sub hl [0, 1, 2, 3, 4, 5, 6, 7] rfl)
  · have tl_1000 : (1000 : Int32).toInt = 1000 := by decide
    have tc_14 := z_nle c_14
    refine lv_bipush (v := (-3)) hx hb d_M_feed_13 (by decide) ?_
    exact ret (-3) (tm, tpf) (Nat.le_of_ble_eq_true rfl) (Nat.le_of_ble_eq_true rfl) d_M_feed_15 rfl ⟨hft, (by first | exact (fdM1 ht (by assumption) (by assumption)).1.symm | exact (fdM2 hk2_46 (by assumption) (by omega)).1), (by first | exact (fdM1 ht (by assumption) (by assumption)).2.symm | exact (fdM2 hk2_46 (by assumption) (by omega)).2)⟩ (hP.sub [0, 1] rfl) (hD.sub [0, 1] (by decide) rfl) hS
