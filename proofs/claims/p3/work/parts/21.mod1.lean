theorem z_nlt {x y : Int32} (c : ¬ x < y) : y.toInt ≤ x.toInt := by rw [z_lt] at c; omega
theorem z_ne {x y : Int32} (c : ¬ x = y) : x.toInt ≠ y.toInt := fun h => c (Int32.toInt_inj.mp h)
theorem z_nne {x y : Int32} (c : ¬ ¬ x = y) : x.toInt = y.toInt := congrArg Int32.toInt (Classical.not_not.mp c)
theorem z_addE {x y z : Int32} (e : y = x + z) : -2147483648 ≤ x.toInt + z.toInt ∧ x.toInt + z.toInt < 2147483648 → y.toInt = x.toInt + z.toInt := fun h => by rw [e]; exact z_add h.1 h.2
theorem z_subE {x y z : Int32} (e : y = x - z) : -2147483648 ≤ x.toInt - z.toInt ∧ x.toInt - z.toInt < 2147483648 → y.toInt = x.toInt - z.toInt := fun h => by rw [e]; exact z_sub h.1 h.2
theorem z_mulL {x y z : Int32} {k : Int} (hk : x.toInt = k) (e : y = x * z) : -2147483648 ≤ k * z.toInt ∧ k * z.toInt < 2147483648 → y.toInt = k * z.toInt := fun h => by
  rw [e, Int32.toInt_mul, hk]
  exact Int.bmod_eq_of_le (by omega) (by omega)
theorem bool_t {r : Int32} {P Q : Prop} (h : (r = 1 ∧ P) ∨ (r = 0 ∧ Q)) (c : ¬ r = 0) : P := by
  rcases h with h | h
  · exact h.2
  · exact absurd h.1 c
theorem bool_f {r : Int32} {P Q : Prop} (h : (r = 1 ∧ P) ∨ (r = 0 ∧ Q)) (c : r = 0) : Q := by
  rcases h with h | h
  · rw [h.1] at c
    exact absurd c (by decide)
  · exact h.2
theorem in_lt {a b : Int64} {y : Int32} {p q : Int} (ha : a.toInt = p) (hb : b.toInt = q) (e : y = lg_cmp a b) (c : y < 0) : p < q := by
  rw [e] at c
  have h : ¬ (0 ≤ lg_cmp a b) := by rw [z_le, z_0]; rw [z_lt, z_0] at c; omega
  rw [lg_cmp_ge, Int64.le_iff_toInt_le] at h
  omega
theorem in_ge {a b : Int64} {y : Int32} {p q : Int} (ha : a.toInt = p) (hb : b.toInt = q) (e : y = lg_cmp a b) (c : ¬ y < 0) : q ≤ p := by
  rw [e] at c
  have h : (0 ≤ lg_cmp a b) := by rw [z_le, z_0]; rw [z_lt, z_0] at c; omega
  rw [lg_cmp_ge, Int64.le_iff_toInt_le] at h
  omega
theorem lg_pos {a b : Int64} : 0 < lg_cmp a b ↔ b.toInt < a.toInt := by
  unfold lg_cmp
  by_cases h1 : a > b
  · rw [if_pos h1]
    exact ⟨fun _ => Int64.lt_iff_toInt_lt.mp h1, fun _ => by decide⟩
  · rw [if_neg h1]
    have h2 : ¬ b.toInt < a.toInt := fun h => h1 (Int64.lt_iff_toInt_lt.mpr h)
    refine ⟨fun h => ?_, fun h => absurd h h2⟩
    by_cases h3 : a = b
    · rw [if_pos h3] at h; exact absurd h (by decide)
    · rw [if_neg h3] at h; exact absurd h (by decide)
theorem in_gt {a b : Int64} {y : Int32} {p q : Int} (ha : a.toInt = p) (hb : b.toInt = q) (e : y = lg_cmp a b) (c : 0 < y) : q < p := by
  rw [e, lg_pos] at c
  omega
theorem in_le {a b : Int64} {y : Int32} {p q : Int} (ha : a.toInt = p) (hb : b.toInt = q) (e : y = lg_cmp a b) (c : ¬ 0 < y) : p ≤ q := by
  rw [e, lg_pos] at c
  omega
/-- a place of the text -/
def CurOk (sz i : Int32) : Prop := 0 ≤ i.toInt ∧ i.toInt ≤ sz.toInt
theorem lenS_5 : ∀ k, k < nS → lenS.getD k 0 ≤ 5 := by decide +kernel
theorem lenS_z {k : Nat} (hk : k < nS) : (nI (lenS.getD k 0)).toInt = (lenS.getD k 0 : Int) ∧ (lenS.getD k 0 : Int) ≤ 5 := by
  have h := lenS_5 k hk
  exact ⟨z_n (by omega), by omega⟩
def rm_M_in : Room := { frames := 0, cells := 0, slots := 0, locals := 0 }
set_option maxHeartbeats 4000000 in
set_option maxRecDepth 100000 in
theorem c_M_in (l : Launch) (G : GG) (la : Int64) (lb : Int64) (lc : Int64) (ix : Int) (iy : Int) (iz : Int) (hx0 : la.toInt = ix) (hy0 : lb.toInt = iy) (hz0 : lc.toInt = iz) : MI l y_M_in b_M_in 6 .boolean rm_M_in G [.long la, .long lb, .long lc] [] (fun (v : Int32) (u : Unit) => ((v = 1 ∧ iy ≤ ix ∧ ix ≤ iz) ∨ (v = 0 ∧ ¬ (iy ≤ ix ∧ ix ≤ iz)))) (fun (u : Unit) => []) 0 0 := by
  refine MI.of (cc := b_M_in) (maxL := 6) (ty := .boolean) (C := R_M) (by decide +kernel) rfl (Nat.le_of_ble_eq_true rfl) ?_
  intro p e s m args below meth c A Q H ls hx hb hml hown hw hE hA hP hD hS ret hl
  have hl : lv_has ls 6 [(0, .long la), (2, .long lb), (4, .long lc)] := hl
  refine lv_lload_n hx hb d_M_in_0 rfl (lv_at hl 0 rfl) ?_
  refine lv_lload_n hx hb d_M_in_1 rfl (lv_at hl 1 rfl) ?_
  refine W.lcmp hx hb d_M_in_2 ?_
  refine lv_topi (fun y_1 ey_1 => ?_)
  refine lv_if_lt (tgt := 17) hx hb d_M_in_3 (by decide) (fun c_2 => ?_) (fun c_2 => ?_)
  · refine lv_iconst (v := 0) hx hb d_M_in_17 (by decide) ?_
    exact ret 0 () (Nat.le_of_ble_eq_true rfl) (Nat.le_of_ble_eq_true rfl) d_M_in_18 rfl (by first | exact Or.inl ⟨rfl, in_ge hx0 hy0 (by assumption) (by assumption), in_le hx0 hz0 (by assumption) (by assumption)⟩ | exact Or.inr ⟨rfl, fun h => absurd h.1 (Int.not_le.mpr (in_lt hx0 hy0 (by assumption) (by assumption)))⟩ | exact Or.inr ⟨rfl, fun h => absurd h.2 (Int.not_le.mpr (in_gt hx0 hz0 (by assumption) (by assumption)))⟩) (hP.sub [] rfl) (hD.sub [] (by decide) rfl) hS
  · refine lv_lload_n hx hb d_M_in_6 rfl (lv_at hl 0 rfl) ?_
    refine lv_lload hx hb d_M_in_7 (lv_at hl 2 rfl) ?_
    refine W.lcmp hx hb d_M_in_9 ?_
    refine lv_topi (fun y_3 ey_3 => ?_)
    refine lv_if_gt (tgt := 17) hx hb d_M_in_10 (by decide) (fun c_4 => ?_) (fun c_4 => ?_)
    · refine lv_iconst (v := 0) hx hb d_M_in_17 (by decide) ?_
      exact ret 0 () (Nat.le_of_ble_eq_true rfl) (Nat.le_of_ble_eq_true rfl) d_M_in_18 rfl (by first | exact Or.inl ⟨rfl, in_ge hx0 hy0 (by assumption) (by assumption), in_le hx0 hz0 (by assumption) (by assumption)⟩ | exact Or.inr ⟨rfl, fun h => absurd h.1 (Int.not_le.mpr (in_lt hx0 hy0 (by assumption) (by assumption)))⟩ | exact Or.inr ⟨rfl, fun h => absurd h.2 (Int.not_le.mpr (in_gt hx0 hz0 (by assumption) (by assumption)))⟩) (hP.sub [] rfl) (hD.sub [] (by decide) rfl) hS
    · refine lv_iconst (v := 1) hx hb d_M_in_13 (by decide) ?_
      refine lv_goto (tgt := 18) hx hb d_M_in_14 (by decide) ?_
      exact ret 1 () (Nat.le_of_ble_eq_true rfl) (Nat.le_of_ble_eq_true rfl) d_M_in_18 rfl (by first | exact Or.inl ⟨rfl, in_ge hx0 hy0 (by assumption) (by assumption), in_le hx0 hz0 (by assumption) (by assumption)⟩ | exact Or.inr ⟨rfl, fun h => absurd h.1 (Int.not_le.mpr (in_lt hx0 hy0 (by assumption) (by assumption)))⟩ | exact Or.inr ⟨rfl, fun h => absurd h.2 (Int.not_le.mpr (in_gt hx0 hz0 (by assumption) (by assumption)))⟩) (hP.sub [] rfl) (hD.sub [] (by decide) rfl) hS
def rm_M_isWhite : Room := { frames := 0, cells := 0, slots := 0, locals := 0 }
set_option maxHeartbeats 4000000 in
set_option maxRecDepth 100000 in
theorem c_M_isWhite (l : Launch) (G : GG) (b : Int32) : MI l y_M_isWhite b_M_isWhite 1 .boolean rm_M_isWhite G [.int b] [] (fun (v : Int32) (u : Unit) => ((v = 1 ∧ True) ∨ (v = 0 ∧ True))) (fun (u : Unit) => []) 0 0 := by
  refine MI.of (cc := b_M_isWhite) (maxL := 1) (ty := .boolean) (C := R_M) (by decide +kernel) rfl (Nat.le_of_ble_eq_true rfl) ?_
  intro p e s m args below meth c A Q H ls hx hb hml hown hw hE hA hP hD hS ret hl
  have hl : lv_has ls 1 [(0, .int b)] := hl
  have J_18 : ∀ (H : Heap) (locs : List Loc), va_P G.1 vwCl [] H → va_D A [] → va_S A s.heap H locs → ∀ ls : Array Slot, lv_has ls 1 [(0, .int b)] → W p l e rm_M_isWhite s m args below meth c H locs 0 0 Q (F0 m 18 ls []) := by
    intro H locs hP hD hS ls hl
    refine lv_iconst (v := 1) hx hb d_M_isWhite_18 (by decide) ?_
    refine lv_goto (tgt := 23) hx hb d_M_isWhite_19 (by decide) ?_
    exact ret 1 () (Nat.le_of_ble_eq_true rfl) (Nat.le_of_ble_eq_true rfl) d_M_isWhite_23 rfl (by first | exact Or.inl ⟨rfl, by first | trivial | omega⟩ | exact Or.inr ⟨rfl, by first | trivial | omega⟩) (hP.sub [] rfl) (hD.sub [] (by decide) rfl) hS
  refine lv_iload_n hx hb d_M_isWhite_0 rfl (lv_at hl 0 rfl) ?_
  refine lv_bipush (v := 32) hx hb d_M_isWhite_1 (by decide) ?_
  refine lv_icmp_eq (tgt := 18) hx hb d_M_isWhite_3 (by decide) (fun c_1 => ?_) (fun c_1 => ?_)
  · have tl_32 : (32 : Int32).toInt = 32 := by decide
    have tc_1 := congrArg Int32.toInt c_1
    exact J_18 _ _ (hP.sub [] rfl) (hD.sub [] (by decide) rfl) hS _ (lv_sub hl [0] rfl)
  · have tl_32 : (32 : Int32).toInt = 32 := by decide
    have tc_1 := z_ne c_1
    refine lv_iload_n hx hb d_M_isWhite_6 rfl (lv_at hl 0 rfl) ?_
    refine lv_bipush (v := 10) hx hb d_M_isWhite_7 (by decide) ?_
    refine lv_icmp_eq (tgt := 18) hx hb d_M_isWhite_9 (by decide) (fun c_2 => ?_) (fun c_2 => ?_)
    · have tl_10 : (10 : Int32).toInt = 10 := by decide
      have tc_2 := congrArg Int32.toInt c_2
      exact J_18 _ _ (hP.sub [] rfl) (hD.sub [] (by decide) rfl) hS _ (lv_sub hl [0] rfl)
    · have tl_10 : (10 : Int32).toInt = 10 := by decide
      have tc_2 := z_ne c_2
      refine lv_iload_n hx hb d_M_isWhite_12 rfl (lv_at hl 0 rfl) ?_
      refine lv_bipush (v := 13) hx hb d_M_isWhite_13 (by decide) ?_
      refine lv_icmp_ne (tgt := 22) hx hb d_M_isWhite_15 (by decide) (fun c_3 => ?_) (fun c_3 => ?_)
      · have tl_13 : (13 : Int32).toInt = 13 := by decide
        have tc_3 := z_ne c_3
        refine lv_iconst (v := 0) hx hb d_M_isWhite_22 (by decide) ?_
        exact ret 0 () (Nat.le_of_ble_eq_true rfl) (Nat.le_of_ble_eq_true rfl) d_M_isWhite_23 rfl (by first | exact Or.inl ⟨rfl, by first | trivial | omega⟩ | exact Or.inr ⟨rfl, by first | trivial | omega⟩) (hP.sub [] rfl) (hD.sub [] (by decide) rfl) hS
      · have tl_13 : (13 : Int32).toInt = 13 := by decide
        have tc_3 := congrArg Int32.toInt c_3
        exact J_18 _ _ (hP.sub [] rfl) (hD.sub [] (by decide) rfl) hS _ (lv_sub hl [0] rfl)
def rm_M_isDelimiter : Room := { frames := 0, cells := 0, slots := 0, locals := 0 }
set_option maxHeartbeats 4000000 in
set_option maxRecDepth 100000 in
theorem c_M_isDelimiter (l : Launch) (G : GG) (b : Int32) : MI l y_M_isDelimiter b_M_isDelimiter 1 .boolean rm_M_isDelimiter G [.int b] [] (fun (v : Int32) (u : Unit) => ((v = 1 ∧ True) ∨ (v = 0 ∧ True))) (fun (u : Unit) => []) 0 0 := by
  refine MI.of (cc := b_M_isDelimiter) (maxL := 1) (ty := .boolean) (C := R_M) (by decide +kernel) rfl (Nat.le_of_ble_eq_true rfl) ?_
  intro p e s m args below meth c A Q H ls hx hb hml hown hw hE hA hP hD hS ret hl
  have hl : lv_has ls 1 [(0, .int b)] := hl
  have J_42 : ∀ (H : Heap) (locs : List Loc), va_P G.1 vwCl [] H → va_D A [] → va_S A s.heap H locs → ∀ ls : Array Slot, lv_has ls 1 [(0, .int b)] → W p l e rm_M_isDelimiter s m args below meth c H locs 0 0 Q (F0 m 42 ls []) := by
    intro H locs hP hD hS ls hl
    refine lv_iconst (v := 1) hx hb d_M_isDelimiter_42 (by decide) ?_
    refine lv_goto (tgt := 47) hx hb d_M_isDelimiter_43 (by decide) ?_
    exact ret 1 () (Nat.le_of_ble_eq_true rfl) (Nat.le_of_ble_eq_true rfl) d_M_isDelimiter_47 rfl (by first | exact Or.inl ⟨rfl, by first | trivial | omega⟩ | exact Or.inr ⟨rfl, by first | trivial | omega⟩) (hP.sub [] rfl) (hD.sub [] (by decide) rfl) hS
  refine lv_iload_n hx hb d_M_isDelimiter_0 rfl (lv_at hl 0 rfl) ?_
  refine lv_bipush (v := 40) hx hb d_M_isDelimiter_1 (by decide) ?_
  refine lv_icmp_eq (tgt := 42) hx hb d_M_isDelimiter_3 (by decide) (fun c_1 => ?_) (fun c_1 => ?_)
  · have tl_40 : (40 : Int32).toInt = 40 := by decide
    have tc_1 := congrArg Int32.toInt c_1
    exact J_42 _ _ (hP.sub [] rfl) (hD.sub [] (by decide) rfl) hS _ (lv_sub hl [0] rfl)
  · have tl_40 : (40 : Int32).toInt = 40 := by decide
    have tc_1 := z_ne c_1
    refine lv_iload_n hx hb d_M_isDelimiter_6 rfl (lv_at hl 0 rfl) ?_
    refine lv_bipush (v := 41) hx hb d_M_isDelimiter_7 (by decide) ?_
    refine lv_icmp_eq (tgt := 42) hx hb d_M_isDelimiter_9 (by decide) (fun c_2 => ?_) (fun c_2 => ?_)
    · have tl_41 : (41 : Int32).toInt = 41 := by decide
      have tc_2 := congrArg Int32.toInt c_2
      exact J_42 _ _ (hP.sub [] rfl) (hD.sub [] (by decide) rfl) hS _ (lv_sub hl [0] rfl)
    · have tl_41 : (41 : Int32).toInt = 41 := by decide
      have tc_2 := z_ne c_2
      refine lv_iload_n hx hb d_M_isDelimiter_12 rfl (lv_at hl 0 rfl) ?_
      refine lv_bipush (v := 60) hx hb d_M_isDelimiter_13 (by decide) ?_
      refine lv_icmp_eq (tgt := 42) hx hb d_M_isDelimiter_15 (by decide) (fun c_3 => ?_) (fun c_3 => ?_)
      · have tl_60 : (60 : Int32).toInt = 60 := by decide
        have tc_3 := congrArg Int32.toInt c_3
        exact J_42 _ _ (hP.sub [] rfl) (hD.sub [] (by decide) rfl) hS _ (lv_sub hl [0] rfl)
      · have tl_60 : (60 : Int32).toInt = 60 := by decide
        have tc_3 := z_ne c_3
        refine lv_iload_n hx hb d_M_isDelimiter_18 rfl (lv_at hl 0 rfl) ?_
        refine lv_bipush (v := 62) hx hb d_M_isDelimiter_19 (by decide) ?_
        refine lv_icmp_eq (tgt := 42) hx hb d_M_isDelimiter_21 (by decide) (fun c_4 => ?_) (fun c_4 => ?_)
        · have tl_62 : (62 : Int32).toInt = 62 := by decide
          have tc_4 := congrArg Int32.toInt c_4
          exact J_42 _ _ (hP.sub [] rfl) (hD.sub [] (by decide) rfl) hS _ (lv_sub hl [0] rfl)
        · have tl_62 : (62 : Int32).toInt = 62 := by decide
          have tc_4 := z_ne c_4
          refine lv_iload_n hx hb d_M_isDelimiter_24 rfl (lv_at hl 0 rfl) ?_
          refine lv_bipush (v := 91) hx hb d_M_isDelimiter_25 (by decide) ?_
          refine lv_icmp_eq (tgt := 42) hx hb d_M_isDelimiter_27 (by decide) (fun c_5 => ?_) (fun c_5 => ?_)
          · have tl_91 : (91 : Int32).toInt = 91 := by decide
            have tc_5 := congrArg Int32.toInt c_5
            exact J_42 _ _ (hP.sub [] rfl) (hD.sub [] (by decide) rfl) hS _ (lv_sub hl [0] rfl)
          · have tl_91 : (91 : Int32).toInt = 91 := by decide
            have tc_5 := z_ne c_5
            refine lv_iload_n hx hb d_M_isDelimiter_30 rfl (lv_at hl 0 rfl) ?_
            refine lv_bipush (v := 93) hx hb d_M_isDelimiter_31 (by decide) ?_
            refine lv_icmp_eq (tgt := 42) hx hb d_M_isDelimiter_33 (by decide) (fun c_6 => ?_) (fun c_6 => ?_)
            · have tl_93 : (93 : Int32).toInt = 93 := by decide
              have tc_6 := congrArg Int32.toInt c_6
              exact J_42 _ _ (hP.sub [] rfl) (hD.sub [] (by decide) rfl) hS _ (lv_sub hl [0] rfl)
            · have tl_93 : (93 : Int32).toInt = 93 := by decide
              have tc_6 := z_ne c_6
              refine lv_iload_n hx hb d_M_isDelimiter_36 rfl (lv_at hl 0 rfl) ?_
              refine lv_bipush (v := 47) hx hb d_M_isDelimiter_37 (by decide) ?_
              refine lv_icmp_ne (tgt := 46) hx hb d_M_isDelimiter_39 (by decide) (fun c_7 => ?_) (fun c_7 => ?_)
              · have tl_47 : (47 : Int32).toInt = 47 := by decide
                have tc_7 := z_ne c_7
                refine lv_iconst (v := 0) hx hb d_M_isDelimiter_46 (by decide) ?_
                exact ret 0 () (Nat.le_of_ble_eq_true rfl) (Nat.le_of_ble_eq_true rfl) d_M_isDelimiter_47 rfl (by first | exact Or.inl ⟨rfl, by first | trivial | omega⟩ | exact Or.inr ⟨rfl, by first | trivial | omega⟩) (hP.sub [] rfl) (hD.sub [] (by decide) rfl) hS
              · have tl_47 : (47 : Int32).toInt = 47 := by decide
                have tc_7 := congrArg Int32.toInt c_7
                exact J_42 _ _ (hP.sub [] rfl) (hD.sub [] (by decide) rfl) hS _ (lv_sub hl [0] rfl)
def rm_M_isRegular : Room := { frames := 1, cells := 0, slots := 0, locals := 20 }
set_option maxHeartbeats 4000000 in
set_option maxRecDepth 100000 in
theorem c_M_isRegular (l : Launch) (G : GG) (b : Int32) : MI l y_M_isRegular b_M_isRegular 1 .boolean rm_M_isRegular G [.int b] [] (fun (v : Int32) (u : Unit) => ((v = 1 ∧ True) ∨ (v = 0 ∧ True))) (fun (u : Unit) => []) 0 0 := by
  refine MI.of (cc := b_M_isRegular) (maxL := 1) (ty := .boolean) (C := R_M) (by decide +kernel) rfl (Nat.le_of_ble_eq_true rfl) ?_
  intro p e s m args below meth c A Q H ls hx hb hml hown hw hE hA hP hD hS ret hl
  have hl : lv_has ls 1 [(0, .int b)] := hl
  refine lv_iload_n hx hb d_M_isRegular_0 rfl (lv_at hl 0 rfl) ?_
  refine lv_bipush (v := 33) hx hb d_M_isRegular_1 (by decide) ?_
  refine lv_icmp_lt (tgt := 23) hx hb d_M_isRegular_3 (by decide) (fun c_1 => ?_) (fun c_1 => ?_)
  · have tl_33 : (33 : Int32).toInt = 33 := by decide
    have tc_1 := z_lt.mp c_1
    refine lv_iconst (v := 0) hx hb d_M_isRegular_23 (by decide) ?_
    exact ret 0 () (Nat.le_of_ble_eq_true rfl) (Nat.le_of_ble_eq_true rfl) d_M_isRegular_24 rfl (by first | exact Or.inl ⟨rfl, by first | trivial | omega⟩ | exact Or.inr ⟨rfl, by first | trivial | omega⟩) (hP.sub [] rfl) (hD.sub [] (by decide) rfl) hS
  · have tl_33 : (33 : Int32).toInt = 33 := by decide
    have tc_1 := z_nlt c_1
    refine lv_iload_n hx hb d_M_isRegular_6 rfl (lv_at hl 0 rfl) ?_
    refine lv_bipush (v := 126) hx hb d_M_isRegular_7 (by decide) ?_
    refine lv_icmp_gt (tgt := 23) hx hb d_M_isRegular_9 (by decide) (fun c_2 => ?_) (fun c_2 => ?_)
    · have tl_126 : (126 : Int32).toInt = 126 := by decide
      have tc_2 := z_lt.mp c_2
      refine lv_iconst (v := 0) hx hb d_M_isRegular_23 (by decide) ?_
      exact ret 0 () (Nat.le_of_ble_eq_true rfl) (Nat.le_of_ble_eq_true rfl) d_M_isRegular_24 rfl (by first | exact Or.inl ⟨rfl, by first | trivial | omega⟩ | exact Or.inr ⟨rfl, by first | trivial | omega⟩) (hP.sub [] rfl) (hD.sub [] (by decide) rfl) hS
    · have tl_126 : (126 : Int32).toInt = 126 := by decide
      have tc_2 := z_nlt c_2
      refine lv_iload_n hx hb d_M_isRegular_12 rfl (lv_at hl 0 rfl) ?_
      refine gc_i (wr := []) (gc_S (wc := []) (As := [.int b]) (rest := []) ⟨hx, hb, hml, hown, hw⟩ (c_M_isDelimiter l G b H.size) (va_cwS 1 hw (good_S m_531 m_532 m_4 m_533) rfl rfl rfl hy_M_isDelimiter.2 ⟨Nat.le_of_ble_eq_true rfl, Nat.le_of_ble_eq_true rfl⟩) hE hP hD hS hA [] rfl (by decide) rfl hl rfl (Nat.le_of_ble_eq_true rfl) d_M_isRegular_13 ⟨Nat.le_of_ble_eq_true rfl, Nat.le_of_ble_eq_true rfl⟩) hP hD hS hA [] [] rfl rfl (by decide) (by decide) (fun r_3 u_4 H locs hw_5 hP hD hS => ?_)
      try dsimp only at hw_5
      have h_6 := hw_5
      have hP : va_P G.1 vwCl [] H := hP
      have hD : va_D A [] := hD
      refine lv_if_ne (tgt := 23) hx hb d_M_isRegular_16 (by decide) (fun c_7 => ?_) (fun c_7 => ?_)
      · have tc_7 := bool_t h_6 c_7
        refine lv_iconst (v := 0) hx hb d_M_isRegular_23 (by decide) ?_
        exact ret 0 () (Nat.le_of_ble_eq_true rfl) (Nat.le_of_ble_eq_true rfl) d_M_isRegular_24 rfl (by first | exact Or.inl ⟨rfl, by first | trivial | omega⟩ | exact Or.inr ⟨rfl, by first | trivial | omega⟩) (hP.sub [] rfl) (hD.sub [] (by decide) rfl) hS
      · have tc_7 := bool_f h_6 c_7
        refine lv_iconst (v := 1) hx hb d_M_isRegular_19 (by decide) ?_
        refine lv_goto (tgt := 24) hx hb d_M_isRegular_20 (by decide) ?_
        exact ret 1 () (Nat.le_of_ble_eq_true rfl) (Nat.le_of_ble_eq_true rfl) d_M_isRegular_24 rfl (by first | exact Or.inl ⟨rfl, by first | trivial | omega⟩ | exact Or.inr ⟨rfl, by first | trivial | omega⟩) (hP.sub [] rfl) (hD.sub [] (by decide) rfl) hS
def rm_M_isDigit : Room := { frames := 0, cells := 0, slots := 0, locals := 0 }
set_option maxHeartbeats 4000000 in
set_option maxRecDepth 100000 in
theorem c_M_isDigit (l : Launch) (G : GG) (b : Int32) : MI l y_M_isDigit b_M_isDigit 1 .boolean rm_M_isDigit G [.int b] [] (fun (v : Int32) (u : Unit) => ((v = 1 ∧ 48 ≤ b.toInt ∧ b.toInt ≤ 57) ∨ (v = 0 ∧ True))) (fun (u : Unit) => []) 0 0 := by
  refine MI.of (cc := b_M_isDigit) (maxL := 1) (ty := .boolean) (C := R_M) (by decide +kernel) rfl (Nat.le_of_ble_eq_true rfl) ?_
  intro p e s m args below meth c A Q H ls hx hb hml hown hw hE hA hP hD hS ret hl
  have hl : lv_has ls 1 [(0, .int b)] := hl
  refine lv_iload_n hx hb d_M_isDigit_0 rfl (lv_at hl 0 rfl) ?_
  refine lv_bipush (v := 48) hx hb d_M_isDigit_1 (by decide) ?_
  refine lv_icmp_lt (tgt := 16) hx hb d_M_isDigit_3 (by decide) (fun c_1 => ?_) (fun c_1 => ?_)
  · have tl_48 : (48 : Int32).toInt = 48 := by decide
    have tc_1 := z_lt.mp c_1
    refine lv_iconst (v := 0) hx hb d_M_isDigit_16 (by decide) ?_
    exact ret 0 () (Nat.le_of_ble_eq_true rfl) (Nat.le_of_ble_eq_true rfl) d_M_isDigit_17 rfl (by first | exact Or.inl ⟨rfl, by first | trivial | omega⟩ | exact Or.inr ⟨rfl, by first | trivial | omega⟩) (hP.sub [] rfl) (hD.sub [] (by decide) rfl) hS
  · have tl_48 : (48 : Int32).toInt = 48 := by decide
    have tc_1 := z_nlt c_1
    refine lv_iload_n hx hb d_M_isDigit_6 rfl (lv_at hl 0 rfl) ?_
    refine lv_bipush (v := 57) hx hb d_M_isDigit_7 (by decide) ?_
    refine lv_icmp_gt (tgt := 16) hx hb d_M_isDigit_9 (by decide) (fun c_2 => ?_) (fun c_2 => ?_)
    · have tl_57 : (57 : Int32).toInt = 57 := by decide
      have tc_2 := z_lt.mp c_2
      refine lv_iconst (v := 0) hx hb d_M_isDigit_16 (by decide) ?_
      exact ret 0 () (Nat.le_of_ble_eq_true rfl) (Nat.le_of_ble_eq_true rfl) d_M_isDigit_17 rfl (by first | exact Or.inl ⟨rfl, by first | trivial | omega⟩ | exact Or.inr ⟨rfl, by first | trivial | omega⟩) (hP.sub [] rfl) (hD.sub [] (by decide) rfl) hS
    · have tl_57 : (57 : Int32).toInt = 57 := by decide
      have tc_2 := z_nlt c_2
      refine lv_iconst (v := 1) hx hb d_M_isDigit_12 (by decide) ?_
      refine lv_goto (tgt := 17) hx hb d_M_isDigit_13 (by decide) ?_
      exact ret 1 () (Nat.le_of_ble_eq_true rfl) (Nat.le_of_ble_eq_true rfl) d_M_isDigit_17 rfl (by first | exact Or.inl ⟨rfl, by first | trivial | omega⟩ | exact Or.inr ⟨rfl, by first | trivial | omega⟩) (hP.sub [] rfl) (hD.sub [] (by decide) rfl) hS
def rm_M_hexOf : Room := { frames := 1, cells := 0, slots := 0, locals := 20 }
set_option maxHeartbeats 4000000 in
set_option maxRecDepth 100000 in
theorem c_M_hexOf (l : Launch) (G : GG) (b : Int32) : MI l y_M_hexOf b_M_hexOf 1 .int rm_M_hexOf G [.int b] [] (fun (v : Int32) (u : Unit) => True) (fun (u : Unit) => []) 0 0 := by
  refine MI.of (cc := b_M_hexOf) (maxL := 1) (ty := .int) (C := R_M) (by decide +kernel) rfl (Nat.le_of_ble_eq_true rfl) ?_
  intro p e s m args below meth c A Q H ls hx hb hml hown hw hE hA hP hD hS ret hl
  have hl : lv_has ls 1 [(0, .int b)] := hl
  have J_36 : ∀ (H : Heap) (locs : List Loc), va_P G.1 vwCl [] H → va_D A [] → va_S A s.heap H locs → ∀ ls : Array Slot, lv_has ls 1 [(0, .int b)] → W p l e rm_M_hexOf s m args below meth c H locs 0 0 Q (F0 m 36 ls []) := by
    intro H locs hP hD hS ls hl
    refine lv_iload_n hx hb d_M_hexOf_36 rfl (lv_at hl 0 rfl) ?_
    refine lv_bipush (v := 65) hx hb d_M_hexOf_37 (by decide) ?_
    refine lv_icmp_lt (tgt := 58) hx hb d_M_hexOf_39 (by decide) (fun c_1 => ?_) (fun c_1 => ?_)
    · have tl_65 : (65 : Int32).toInt = 65 := by decide
      have tc_1 := z_lt.mp c_1
      refine lv_iconst (v := (-1)) hx hb d_M_hexOf_58 (by decide) ?_
      exact ret (-1) () (Nat.le_of_ble_eq_true rfl) (Nat.le_of_ble_eq_true rfl) d_M_hexOf_59 rfl trivial (hP.sub [] rfl) (hD.sub [] (by decide) rfl) hS
    · have tl_65 : (65 : Int32).toInt = 65 := by decide
      have tc_1 := z_nlt c_1
      refine lv_iload_n hx hb d_M_hexOf_42 rfl (lv_at hl 0 rfl) ?_
      refine lv_bipush (v := 70) hx hb d_M_hexOf_43 (by decide) ?_
      refine lv_icmp_gt (tgt := 58) hx hb d_M_hexOf_45 (by decide) (fun c_2 => ?_) (fun c_2 => ?_)
      · have tl_70 : (70 : Int32).toInt = 70 := by decide
        have tc_2 := z_lt.mp c_2
        refine lv_iconst (v := (-1)) hx hb d_M_hexOf_58 (by decide) ?_
        exact ret (-1) () (Nat.le_of_ble_eq_true rfl) (Nat.le_of_ble_eq_true rfl) d_M_hexOf_59 rfl trivial (hP.sub [] rfl) (hD.sub [] (by decide) rfl) hS
      · have tl_70 : (70 : Int32).toInt = 70 := by decide
        have tc_2 := z_nlt c_2
        refine lv_iload_n hx hb d_M_hexOf_48 rfl (lv_at hl 0 rfl) ?_
        refine lv_bipush (v := 65) hx hb d_M_hexOf_49 (by decide) ?_
        refine lv_isub hx hb d_M_hexOf_51 ?_
        refine lv_topi (fun y_3 ey_3 => ?_)
        have ty_3 := z_subE ey_3
        refine lv_bipush (v := 10) hx hb d_M_hexOf_52 (by decide) ?_
        refine lv_iadd hx hb d_M_hexOf_54 ?_
        refine lv_topi (fun y_4 ey_4 => ?_)
        have tl_10 : (10 : Int32).toInt = 10 := by decide
        have ty_4 := z_addE ey_4
        refine lv_goto (tgt := 59) hx hb d_M_hexOf_55 (by decide) ?_
        exact ret y_4 () (Nat.le_of_ble_eq_true rfl) (Nat.le_of_ble_eq_true rfl) d_M_hexOf_59 rfl trivial (hP.sub [] rfl) (hD.sub [] (by decide) rfl) hS
  refine lv_iload_n hx hb d_M_hexOf_0 rfl (lv_at hl 0 rfl) ?_
  refine gc_i (wr := []) (gc_S (wc := []) (As := [.int b]) (rest := []) ⟨hx, hb, hml, hown, hw⟩ (c_M_isDigit l G b H.size) (va_cwS 1 hw (good_S m_636 m_637 m_4 m_638) rfl rfl rfl hy_M_isDigit.2 ⟨Nat.le_of_ble_eq_true rfl, Nat.le_of_ble_eq_true rfl⟩) hE hP hD hS hA [] rfl (by decide) rfl hl rfl (Nat.le_of_ble_eq_true rfl) d_M_hexOf_1 ⟨Nat.le_of_ble_eq_true rfl, Nat.le_of_ble_eq_true rfl⟩) hP hD hS hA [] [] rfl rfl (by decide) (by decide) (fun r_5 u_6 H locs hw_7 hP hD hS => ?_)
  try dsimp only at hw_7
  have h_8 := hw_7
  have hP : va_P G.1 vwCl [] H := hP
  have hD : va_D A [] := hD
  refine lv_if_eq (tgt := 14) hx hb d_M_hexOf_4 (by decide) (fun c_9 => ?_) (fun c_9 => ?_)
  · have tc_9 := bool_f h_8 c_9
    refine lv_iload_n hx hb d_M_hexOf_14 rfl (lv_at hl 0 rfl) ?_
    refine lv_bipush (v := 97) hx hb d_M_hexOf_15 (by decide) ?_
    refine lv_icmp_lt (tgt := 36) hx hb d_M_hexOf_17 (by decide) (fun c_10 => ?_) (fun c_10 => ?_)
    · have tl_97 : (97 : Int32).toInt = 97 := by decide
      have tc_10 := z_lt.mp c_10
      exact J_36 _ _ (hP.sub [] rfl) (hD.sub [] (by decide) rfl) hS _ (lv_sub hl [0] rfl)
    · have tl_97 : (97 : Int32).toInt = 97 := by decide
      have tc_10 := z_nlt c_10
      refine lv_iload_n hx hb d_M_hexOf_20 rfl (lv_at hl 0 rfl) ?_
      refine lv_bipush (v := 102) hx hb d_M_hexOf_21 (by decide) ?_
      refine lv_icmp_gt (tgt := 36) hx hb d_M_hexOf_23 (by decide) (fun c_11 => ?_) (fun c_11 => ?_)
      · have tl_102 : (102 : Int32).toInt = 102 := by decide
        have tc_11 := z_lt.mp c_11
        exact J_36 _ _ (hP.sub [] rfl) (hD.sub [] (by decide) rfl) hS _ (lv_sub hl [0] rfl)
      · have tl_102 : (102 : Int32).toInt = 102 := by decide
        have tc_11 := z_nlt c_11
        refine lv_iload_n hx hb d_M_hexOf_26 rfl (lv_at hl 0 rfl) ?_
        refine lv_bipush (v := 97) hx hb d_M_hexOf_27 (by decide) ?_
        refine lv_isub hx hb d_M_hexOf_29 ?_
        refine lv_topi (fun y_12 ey_12 => ?_)
        have ty_12 := z_subE ey_12
        refine lv_bipush (v := 10) hx hb d_M_hexOf_30 (by decide) ?_
        refine lv_iadd hx hb d_M_hexOf_32 ?_
        refine lv_topi (fun y_13 ey_13 => ?_)
        have tl_10 : (10 : Int32).toInt = 10 := by decide
        have ty_13 := z_addE ey_13
        refine lv_goto (tgt := 59) hx hb d_M_hexOf_33 (by decide) ?_
        exact ret y_13 () (Nat.le_of_ble_eq_true rfl) (Nat.le_of_ble_eq_true rfl) d_M_hexOf_59 rfl trivial (hP.sub [] rfl) (hD.sub [] (by decide) rfl) hS
  · have tc_9 := bool_t h_8 c_9
    refine lv_iload_n hx hb d_M_hexOf_7 rfl (lv_at hl 0 rfl) ?_
    refine lv_bipush (v := 48) hx hb d_M_hexOf_8 (by decide) ?_
    refine lv_isub hx hb d_M_hexOf_10 ?_
    refine lv_topi (fun y_14 ey_14 => ?_)
    have tl_48 : (48 : Int32).toInt = 48 := by decide
    have ty_14 := z_subE ey_14
    refine lv_goto (tgt := 59) hx hb d_M_hexOf_11 (by decide) ?_
    exact ret y_14 () (Nat.le_of_ble_eq_true rfl) (Nat.le_of_ble_eq_true rfl) d_M_hexOf_59 rfl trivial (hP.sub [] rfl) (hD.sub [] (by decide) rfl) hS
def rm_M_white : Room := { frames := 1, cells := 0, slots := 0, locals := 20 }
set_option maxHeartbeats 4000000 in
set_option maxRecDepth 100000 in
theorem c_M_white (l : Launch) (G : GG) (mm : Nat) (tp : Nat) (tk : Nat) (ou : Nat) (pg : Nat) (sz : Int32) (at0 : Int32) (tm : Int32) (om : Int32) (wr : Int32) (al : Value) (pt : Value) (tpf : Nat → Int32) (hz : 0 ≤ sz.toInt ∧ sz.toInt ≤ 1000) (hc : 0 ≤ at0.toInt ∧ at0.toInt ≤ sz.toInt) : MV l y_M_white b_M_white 1 rm_M_white G [.ref mm] [(mm, .inr (5, [.ref tp, .int sz, .int at0, .ref tk, .ref tp, .ref ou, .int tm, .int om, al, pt, .ref pg, .int wr])), (tp, .inl (G.2.1 0, 1000, .inl tpf))] (fun (u : Int32) => (at0.toInt ≤ u.toInt ∧ u.toInt ≤ sz.toInt)) (fun (u : Int32) => [(mm, .inr (5, [.ref tp, .int sz, .int u, .ref tk, .ref tp, .ref ou, .int tm, .int om, al, pt, .ref pg, .int wr])), (tp, .inl (G.2.1 0, 1000, .inl tpf))]) 0 0 := by
  refine MV.of (cc := b_M_white) (maxL := 1) (C := R_M) (by decide +kernel) rfl (Nat.le_of_ble_eq_true rfl) ?_
  intro p e s m args below meth c A Q H ls hx hb hml hown hw hE hA hP hD hS hin ret hl
  have hl : lv_has ls 1 [(0, .ref mm)] := hl
  have J_0 : ∀ (fu : Nat) (at2_0 : Int32) (hj0_0 : at0.toInt ≤ at2_0.toInt ∧ at2_0.toInt ≤ sz.toInt), (sz.toInt - at2_0.toInt).toNat < fu → ∀ (H : Heap) (locs : List Loc), va_P G.1 vwCl [(mm, .inr (5, [.ref tp, .int sz, .int at2_0, .ref tk, .ref tp, .ref ou, .int tm, .int om, al, pt, .ref pg, .int wr])), (tp, .inl (G.2.1 0, 1000, .inl tpf))] H → va_D A [(mm, .inr (5, [.ref tp, .int sz, .int at2_0, .ref tk, .ref tp, .ref ou, .int tm, .int om, al, pt, .ref pg, .int wr])), (tp, .inl (G.2.1 0, 1000, .inl tpf))] → va_S A s.heap H locs → ∀ ls : Array Slot, lv_has ls 1 [(0, .ref mm)] → W p l e rm_M_white s m args below meth c H locs 0 0 Q (F0 m 0 ls []) := by
    intro fu
    induction fu with
    | zero =>
      intro at2_0 hj0_0 hm
      exact absurd hm (Nat.not_lt_zero _)
    | succ fu ih_0 =>
      intro at2_0 hj0_0 hm_0 H locs hP hD hS ls hl
      refine lv_aload_n hx hb d_M_white_0 rfl (lv_at hl 0 rfl) ?_
      refine va_get (D := G.1) (ci := 5) (v := .int at2_0) (C := R_M) (T := F_M) (N := 12) hx hb hw i_M hown hE.1 hP 0 rfl rfl 2 (by decide) (hw _ m_455) (fun _ h9 => h9) rfl d_M_white_1 ?_
      refine lv_aload_n hx hb d_M_white_4 rfl (lv_at hl 0 rfl) ?_
      refine va_get (D := G.1) (ci := 5) (v := .int sz) (C := R_M) (T := F_M) (N := 12) hx hb hw i_M hown hE.1 hP 0 rfl rfl 1 (by decide) (hw _ m_454) (fun _ h9 => h9) rfl d_M_white_5 ?_
      refine lv_icmp_ge (tgt := 39) hx hb d_M_white_8 (by decide) (fun c_1 => ?_) (fun c_1 => ?_)
      · have tc_1 := z_le.mp c_1
        exact ret (at2_0) (Nat.le_of_ble_eq_true rfl) (Nat.le_of_ble_eq_true rfl) d_M_white_39 hj0_0 (hP.sub [0, 1] rfl) (hD.sub [0, 1] (by decide) rfl) hS
      · have tc_1 := z_nle c_1
        refine lv_aload_n hx hb d_M_white_11 rfl (lv_at hl 0 rfl) ?_
        refine va_get (D := G.1) (ci := 5) (v := .ref tp) (C := R_M) (T := F_M) (N := 12) hx hb hw i_M hown hE.1 hP 0 rfl rfl 0 (by decide) (hw _ m_453) (fun _ h9 => h9) rfl d_M_white_12 ?_
        refine lv_aload_n hx hb d_M_white_15 rfl (lv_at hl 0 rfl) ?_
        refine va_get (D := G.1) (ci := 5) (v := .int at2_0) (C := R_M) (T := F_M) (N := 12) hx hb hw i_M hown hE.1 hP 0 rfl rfl 2 (by decide) (hw _ m_455) (fun _ h9 => h9) rfl d_M_white_16 ?_
        refine va_bald hx hb hE.1 hP 1 0 rfl rfl (i := at2_0) (z_in (by omega) (by omega)) d_M_white_19 ?_
        refine lv_topi (fun y_2 ey_2 => ?_)
        refine gc_i (wr := [(mm, .inr (5, [.ref tp, .int sz, .int at2_0, .ref tk, .ref tp, .ref ou, .int tm, .int om, al, pt, .ref pg, .int wr])), (tp, .inl (G.2.1 0, 1000, .inl tpf))]) (gc_S (wc := []) (As := [.int y_2]) (rest := []) ⟨hx, hb, hml, hown, hw⟩ (c_M_isWhite l G y_2 H.size) (va_cwS 1 hw (good_S m_517 m_518 m_4 m_519) rfl rfl rfl hy_M_isWhite.2 ⟨Nat.le_of_ble_eq_true rfl, Nat.le_of_ble_eq_true rfl⟩) hE hP hD hS hA [] rfl (by decide) rfl hl rfl (Nat.le_of_ble_eq_true rfl) d_M_white_20 ⟨Nat.le_of_ble_eq_true rfl, Nat.le_of_ble_eq_true rfl⟩) hP hD hS hA [] [0, 1] rfl rfl (by decide) (by decide) (fun r_3 u_4 H locs hw_5 hP hD hS => ?_)
        try dsimp only at hw_5
        have h_6 := hw_5
        have hP : va_P G.1 vwCl [(mm, .inr (5, [.ref tp, .int sz, .int at2_0, .ref tk, .ref tp, .ref ou, .int tm, .int om, al, pt, .ref pg, .int wr])), (tp, .inl (G.2.1 0, 1000, .inl tpf))] H := hP
        have hD : va_D A [(mm, .inr (5, [.ref tp, .int sz, .int at2_0, .ref tk, .ref tp, .ref ou, .int tm, .int om, al, pt, .ref pg, .int wr])), (tp, .inl (G.2.1 0, 1000, .inl tpf))] := hD
        refine lv_if_eq (tgt := 39) hx hb d_M_white_23 (by decide) (fun c_7 => ?_) (fun c_7 => ?_)
        · have tc_7 := bool_f h_6 c_7
          exact ret (at2_0) (Nat.le_of_ble_eq_true rfl) (Nat.le_of_ble_eq_true rfl) d_M_white_39 hj0_0 (hP.sub [0, 1] rfl) (hD.sub [0, 1] (by decide) rfl) hS
        · have tc_7 := bool_t h_6 c_7
          refine lv_aload_n hx hb d_M_white_26 rfl (lv_at hl 0 rfl) ?_
          refine lv_dup hx hb d_M_white_27 rfl ?_
          refine va_get (D := G.1) (ci := 5) (v := .int at2_0) (C := R_M) (T := F_M) (N := 12) hx hb hw i_M hown hE.1 hP 0 rfl rfl 2 (by decide) (hw _ m_455) (fun _ h9 => h9) rfl d_M_white_28 ?_
          refine lv_iconst (v := 1) hx hb d_M_white_31 (by decide) ?_
          refine lv_iadd hx hb d_M_white_32 ?_
          refine lv_topi (fun y_8 ey_8 => ?_)
          have tl_1 : (1 : Int32).toInt = 1 := by decide
          have ty_8 := z_addE ey_8
          refine va_put (D := G.1) (ci := 5) (v := .int y_8) (ty := .int) (C := R_M) (T := F_M) (N := 12) hx hb hw i_M t_M t_M_ok n_M hown hE.1 hP hD hS 0 rfl rfl 2 (by decide) (hw _ m_455) (fun _ h9 => h9) rfl (by decide +kernel) rfl rfl (Nat.le_of_ble_eq_true rfl) d_M_white_33 (fun H locs hP hD hS => ?_)
          have hP : va_P G.1 vwCl [(mm, .inr (5, [.ref tp, .int sz, .int y_8, .ref tk, .ref tp, .ref ou, .int tm, .int om, al, pt, .ref pg, .int wr])), (tp, .inl (G.2.1 0, 1000, .inl tpf))] H := hP
          have hD : va_D A [(mm, .inr (5, [.ref tp, .int sz, .int y_8, .ref tk, .ref tp, .ref ou, .int tm, .int om, al, pt, .ref pg, .int wr])), (tp, .inl (G.2.1 0, 1000, .inl tpf))] := hD
          refine lv_goto (tgt := 0) hx hb d_M_white_36 (by decide) ?_
          exact ih_0 y_8 (by first | assumption | trivial | omega | (dsimp only; omega)) (by omega) _ _ (hP.sub [0, 1] rfl) (hD.sub [0, 1] (by decide) rfl) hS _ (lv_sub hl [0] rfl)
  exact J_0 _ at0 (by first | assumption | trivial | omega | (dsimp only; omega)) (Nat.lt_succ_self _) _ _ (hP.sub [0, 1] rfl) (hD.sub [0, 1] (by decide) rfl) hS _ (lv_sub hl [0] rfl)
def rm_M_wordEnd : Room := { frames := 2, cells := 0, slots := 0, locals := 40 }
set_option maxHeartbeats 4000000 in
set_option maxRecDepth 100000 in
theorem c_M_wordEnd (l : Launch) (G : GG) (mm : Nat) (tp : Nat) (tk : Nat) (ou : Nat) (pg : Nat) (sz : Int32) (at0 : Int32) (tm : Int32) (om : Int32) (wr : Int32) (al : Value) (pt : Value) (tpf : Nat → Int32) (i : Int32) (hz : 0 ≤ sz.toInt ∧ sz.toInt ≤ 1000) (hi : 0 ≤ i.toInt ∧ i.toInt ≤ sz.toInt) : MI l y_M_wordEnd b_M_wordEnd 3 .int rm_M_wordEnd G [.ref mm, .int i] [(mm, .inr (5, [.ref tp, .int sz, .int at0, .ref tk, .ref tp, .ref ou, .int tm, .int om, al, pt, .ref pg, .int wr])), (tp, .inl (G.2.1 0, 1000, .inl tpf))] (fun (v : Int32) (u : Unit) => (i.toInt ≤ v.toInt ∧ v.toInt ≤ sz.toInt)) (fun (u : Unit) => [(mm, .inr (5, [.ref tp, .int sz, .int at0, .ref tk, .ref tp, .ref ou, .int tm, .int om, al, pt, .ref pg, .int wr])), (tp, .inl (G.2.1 0, 1000, .inl tpf))]) 0 0 := by
  refine MI.of (cc := b_M_wordEnd) (maxL := 3) (ty := .int) (C := R_M) (by decide +kernel) rfl (Nat.le_of_ble_eq_true rfl) ?_
  intro p e s m args below meth c A Q H ls hx hb hml hown hw hE hA hP hD hS ret hl
  have hl : lv_has ls 3 [(0, .ref mm), (1, .int i)] := hl
  have J_2 : ∀ (fu : Nat) (x2_2 : Int32) (hk0_2 : i.toInt ≤ x2_2.toInt ∧ x2_2.toInt ≤ sz.toInt), (sz.toInt - x2_2.toInt).toNat < fu → ∀ (H : Heap) (locs : List Loc), va_P G.1 vwCl [(mm, .inr (5, [.ref tp, .int sz, .int at0, .ref tk, .ref tp, .ref ou, .int tm, .int om, al, pt, .ref pg, .int wr])), (tp, .inl (G.2.1 0, 1000, .inl tpf))] H → va_D A [(mm, .inr (5, [.ref tp, .int sz, .int at0, .ref tk, .ref tp, .ref ou, .int tm, .int om, al, pt, .ref pg, .int wr])), (tp, .inl (G.2.1 0, 1000, .inl tpf))] → va_S A s.heap H locs → ∀ ls : Array Slot, lv_has ls 3 [(2, .int x2_2), (0, .ref mm), (1, .int i)] → W p l e rm_M_wordEnd s m args below meth c H locs 0 0 Q (F0 m 2 ls []) := by
    intro fu
    induction fu with
    | zero =>
      intro x2_2 hk0_2 hm
      exact absurd hm (Nat.not_lt_zero _)
    | succ fu ih_2 =>
      intro x2_2 hk0_2 hm_2 H locs hP hD hS ls hl
      refine lv_iload_n hx hb d_M_wordEnd_2 rfl (lv_at hl 0 rfl) ?_
      refine lv_aload_n hx hb d_M_wordEnd_3 rfl (lv_at hl 1 rfl) ?_
      refine va_get (D := G.1) (ci := 5) (v := .int sz) (C := R_M) (T := F_M) (N := 12) hx hb hw i_M hown hE.1 hP 0 rfl rfl 1 (by decide) (hw _ m_454) (fun _ h9 => h9) rfl d_M_wordEnd_4 ?_
      refine lv_icmp_ge (tgt := 28) hx hb d_M_wordEnd_7 (by decide) (fun c_1 => ?_) (fun c_1 => ?_)
      · have tc_1 := z_le.mp c_1
        refine lv_iload_n hx hb d_M_wordEnd_28 rfl (lv_at hl 0 rfl) ?_
        exact ret x2_2 () (Nat.le_of_ble_eq_true rfl) (Nat.le_of_ble_eq_true rfl) d_M_wordEnd_29 rfl hk0_2 (hP.sub [0, 1] rfl) (hD.sub [0, 1] (by decide) rfl) hS
      · have tc_1 := z_nle c_1
        refine lv_aload_n hx hb d_M_wordEnd_10 rfl (lv_at hl 1 rfl) ?_
        refine va_get (D := G.1) (ci := 5) (v := .ref tp) (C := R_M) (T := F_M) (N := 12) hx hb hw i_M hown hE.1 hP 0 rfl rfl 0 (by decide) (hw _ m_453) (fun _ h9 => h9) rfl d_M_wordEnd_11 ?_
        refine lv_iload_n hx hb d_M_wordEnd_14 rfl (lv_at hl 0 rfl) ?_
        refine va_bald hx hb hE.1 hP 1 0 rfl rfl (i := x2_2) (z_in (by omega) (by omega)) d_M_wordEnd_15 ?_
        refine lv_topi (fun y_2 ey_2 => ?_)
        refine gc_i (wr := [(mm, .inr (5, [.ref tp, .int sz, .int at0, .ref tk, .ref tp, .ref ou, .int tm, .int om, al, pt, .ref pg, .int wr])), (tp, .inl (G.2.1 0, 1000, .inl tpf))]) (gc_S (wc := []) (As := [.int y_2]) (rest := []) ⟨hx, hb, hml, hown, hw⟩ (c_M_isRegular l G y_2 H.size) (va_cwS 1 hw (good_S m_528 m_529 m_4 m_530) rfl rfl rfl hy_M_isRegular.2 ⟨Nat.le_of_ble_eq_true rfl, Nat.le_of_ble_eq_true rfl⟩) hE hP hD hS hA [] rfl (by decide) rfl hl rfl (Nat.le_of_ble_eq_true rfl) d_M_wordEnd_16 ⟨Nat.le_of_ble_eq_true rfl, Nat.le_of_ble_eq_true rfl⟩) hP hD hS hA [] [0, 1] rfl rfl (by decide) (by decide) (fun r_3 u_4 H locs hw_5 hP hD hS => ?_)
        try dsimp only at hw_5
        have h_6 := hw_5
        have hP : va_P G.1 vwCl [(mm, .inr (5, [.ref tp, .int sz, .int at0, .ref tk, .ref tp, .ref ou, .int tm, .int om, al, pt, .ref pg, .int wr])), (tp, .inl (G.2.1 0, 1000, .inl tpf))] H := hP
        have hD : va_D A [(mm, .inr (5, [.ref tp, .int sz, .int at0, .ref tk, .ref tp, .ref ou, .int tm, .int om, al, pt, .ref pg, .int wr])), (tp, .inl (G.2.1 0, 1000, .inl tpf))] := hD
        refine lv_if_eq (tgt := 28) hx hb d_M_wordEnd_19 (by decide) (fun c_7 => ?_) (fun c_7 => ?_)
        · have tc_7 := bool_f h_6 c_7
          refine lv_iload_n hx hb d_M_wordEnd_28 rfl (lv_at hl 0 rfl) ?_
          exact ret x2_2 () (Nat.le_of_ble_eq_true rfl) (Nat.le_of_ble_eq_true rfl) d_M_wordEnd_29 rfl hk0_2 (hP.sub [0, 1] rfl) (hD.sub [0, 1] (by decide) rfl) hS
        · have tc_7 := bool_t h_6 c_7
          obtain ⟨y_8, ey_8⟩ : ∃ y : Int32, y = x2_2 + 1 := ⟨_, rfl⟩
          have tl_1 : (1 : Int32).toInt = 1 := by decide
          have ty_8 := z_addE ey_8
          refine lv_iinc (v := y_8) (lv' := [(2, .int y_8), (0, .ref mm), (1, .int i)]) hx hb d_M_wordEnd_22 hl (k := 0) rfl (by rw [ey_8]; rfl) (by decide) rfl (fun ls hl => ?_)
          refine lv_goto (tgt := 2) hx hb d_M_wordEnd_25 (by decide) ?_
          exact ih_2 y_8 (by first | assumption | trivial | omega | (dsimp only; omega)) (by omega) _ _ (hP.sub [0, 1] rfl) (hD.sub [0, 1] (by decide) rfl) hS _ (lv_sub hl [0, 1, 2] rfl)
  refine lv_iload_n hx hb d_M_wordEnd_0 rfl (lv_at hl 1 rfl) ?_
  refine lv_istore_n (lv' := [(2, .int i), (0, .ref mm), (1, .int i)]) hx hb d_M_wordEnd_1 rfl hl (by decide) rfl (fun ls hl => ?_)
  exact J_2 _ i (by first | assumption | trivial | omega | (dsimp only; omega)) (Nat.lt_succ_self _) _ _ (hP.sub [0, 1] rfl) (hD.sub [0, 1] (by decide) rfl) hS _ (lv_sub hl [0, 1, 2] rfl)
def rm_M_isAt_s : Room := { frames := 4, cells := 0, slots := 0, locals := 85 }
set_option maxHeartbeats 4000000 in
set_option maxRecDepth 100000 in
theorem c_M_isAt_s (l : Launch) (G : GG) (mm : Nat) (tp : Nat) (tk : Nat) (ou : Nat) (pg : Nat) (sz : Int32) (at0 : Int32) (tm : Int32) (om : Int32) (wr : Int32) (al : Value) (pt : Value) (tpf : Nat → Int32) (i : Int32) (k : Nat) (hz : 0 ≤ sz.toInt ∧ sz.toInt ≤ 1000) (hi : i.toInt ≤ 1000) (hk : k < nS) : MI l y_M_isAt_s b_M_isAt_s 4 .boolean rm_M_isAt_s G [.ref mm, .int i, .ref (G.2.2.1 k)] [(mm, .inr (5, [.ref tp, .int sz, .int at0, .ref tk, .ref tp, .ref ou, .int tm, .int om, al, pt, .ref pg, .int wr])), (tp, .inl (G.2.1 0, 1000, .inl tpf))] (fun (v : Int32) (u : Unit) => ((v = 1 ∧ True) ∨ (v = 0 ∧ True))) (fun (u : Unit) => [(mm, .inr (5, [.ref tp, .int sz, .int at0, .ref tk, .ref tp, .ref ou, .int tm, .int om, al, pt, .ref pg, .int wr])), (tp, .inl (G.2.1 0, 1000, .inl tpf))]) 0 0 := by
  refine MI.of (cc := b_M_isAt_s) (maxL := 4) (ty := .boolean) (C := R_M) (by decide +kernel) rfl (Nat.le_of_ble_eq_true rfl) ?_
  intro p e s m args below meth c A Q H ls hx hb hml hown hw hE hA hP hD hS ret hl
  have hl : lv_has ls 4 [(0, .ref mm), (1, .int i), (2, .ref (G.2.2.1 k))] := hl
  have hq := lenS_z hk
  have hq2 : (0 : Int) ≤ (lenS.getD k 0 : Int) := Int.natCast_nonneg _
  have J_21 : ∀ (fu : Nat) (x3_21 : Int32) (hk0_21 : 0 ≤ x3_21.toInt) (hk1_21 : 0 ≤ i.toInt ∧ i.toInt + (nI (lenS.getD k 0)).toInt ≤ sz.toInt), ((nI (lenS.getD k 0)).toInt - x3_21.toInt).toNat < fu → ∀ (H : Heap) (locs : List Loc), va_P G.1 vwCl [(mm, .inr (5, [.ref tp, .int sz, .int at0, .ref tk, .ref tp, .ref ou, .int tm, .int om, al, pt, .ref pg, .int wr])), (tp, .inl (G.2.1 0, 1000, .inl tpf))] H → va_D A [(mm, .inr (5, [.ref tp, .int sz, .int at0, .ref tk, .ref tp, .ref ou, .int tm, .int om, al, pt, .ref pg, .int wr])), (tp, .inl (G.2.1 0, 1000, .inl tpf))] → va_S A s.heap H locs → ∀ ls : Array Slot, lv_has ls 4 [(3, .int x3_21), (0, .ref mm), (1, .int i), (2, .ref (G.2.2.1 k))] → W p l e rm_M_isAt_s s m args below meth c H locs 0 0 Q (F0 m 21 ls []) := by
    intro fu
    induction fu with
    | zero =>
      intro x3_21 hk0_21 hk1_21 hm
      exact absurd hm (Nat.not_lt_zero _)
    | succ fu ih_21 =>
      intro x3_21 hk0_21 hk1_21 hm_21 H locs hP hD hS ls hl
      refine lv_iload_n hx hb d_M_isAt_s_21 rfl (lv_at hl 0 rfl) ?_
      refine lv_aload_n hx hb d_M_isAt_s_22 rfl (lv_at hl 3 rfl) ?_
      refine gc_i (wr := [(mm, .inr (5, [.ref tp, .int sz, .int at0, .ref tk, .ref tp, .ref ou, .int tm, .int om, al, pt, .ref pg, .int wr])), (tp, .inl (G.2.1 0, 1000, .inl tpf))]) (gc_V (wc := []) (As := []) (rest := [.int x3_21]) ⟨hx, hb, hml, hown, hw⟩ (c_Str_length l G k hk H.size) (cwV 0 hw (good_V m_644 m_266 m_267 m_6 m_268) rfl rfl rfl hy_Str_length ⟨Nat.le_of_ble_eq_true rfl, Nat.le_of_ble_eq_true rfl⟩) hE hP hD hS hA (vk_recv (hE.2.1 k hk).1 (i := 0) (by decide) hS) [] rfl (by decide) rfl hl rfl (Nat.le_of_ble_eq_true rfl) d_M_isAt_s_23 ⟨Nat.le_of_ble_eq_true rfl, Nat.le_of_ble_eq_true rfl⟩) hP hD hS hA [] [0, 1] rfl rfl (by decide) (by decide) (fun r_1 u_2 H locs hw_3 hP hD hS => ?_)
      try dsimp only at hw_3
      have h_4 := hw_3
      subst h_4
      have hP : va_P G.1 vwCl [(mm, .inr (5, [.ref tp, .int sz, .int at0, .ref tk, .ref tp, .ref ou, .int tm, .int om, al, pt, .ref pg, .int wr])), (tp, .inl (G.2.1 0, 1000, .inl tpf))] H := hP
      have hD : va_D A [(mm, .inr (5, [.ref tp, .int sz, .int at0, .ref tk, .ref tp, .ref ou, .int tm, .int om, al, pt, .ref pg, .int wr])), (tp, .inl (G.2.1 0, 1000, .inl tpf))] := hD
      refine lv_icmp_ge (tgt := 53) hx hb d_M_isAt_s_26 (by decide) (fun c_5 => ?_) (fun c_5 => ?_)
      · have tc_5 := z_le.mp c_5
        refine lv_iconst (v := 1) hx hb d_M_isAt_s_53 (by decide) ?_
        exact ret 1 () (Nat.le_of_ble_eq_true rfl) (Nat.le_of_ble_eq_true rfl) d_M_isAt_s_54 rfl (by first | exact Or.inl ⟨rfl, by first | trivial | omega⟩ | exact Or.inr ⟨rfl, by first | trivial | omega⟩) (hP.sub [0, 1] rfl) (hD.sub [0, 1] (by decide) rfl) hS
      · have tc_5 := z_nle c_5
        refine lv_aload_n hx hb d_M_isAt_s_29 rfl (lv_at hl 1 rfl) ?_
        refine va_get (D := G.1) (ci := 5) (v := .ref tp) (C := R_M) (T := F_M) (N := 12) hx hb hw i_M hown hE.1 hP 0 rfl rfl 0 (by decide) (hw _ m_453) (fun _ h9 => h9) rfl d_M_isAt_s_30 ?_
        refine lv_iload_n hx hb d_M_isAt_s_33 rfl (lv_at hl 2 rfl) ?_
        refine lv_iload_n hx hb d_M_isAt_s_34 rfl (lv_at hl 0 rfl) ?_
        refine lv_iadd hx hb d_M_isAt_s_35 ?_
        refine lv_topi (fun y_6 ey_6 => ?_)
        have ty_6 := z_addE ey_6
        refine va_bald hx hb hE.1 hP 1 0 rfl rfl (i := y_6) (z_in (by omega) (by omega)) d_M_isAt_s_36 ?_
        refine lv_topi (fun y_7 ey_7 => ?_)
        refine lv_aload_n hx hb d_M_isAt_s_37 rfl (lv_at hl 3 rfl) ?_
        refine lv_iload_n hx hb d_M_isAt_s_38 rfl (lv_at hl 0 rfl) ?_
        refine gc_i (wr := [(mm, .inr (5, [.ref tp, .int sz, .int at0, .ref tk, .ref tp, .ref ou, .int tm, .int om, al, pt, .ref pg, .int wr])), (tp, .inl (G.2.1 0, 1000, .inl tpf))]) (gc_V (wc := []) (As := [.int x3_21]) (rest := [.int y_7]) ⟨hx, hb, hml, hown, hw⟩ (c_Str_charAt l G k x3_21 hk (by first | assumption | trivial | omega | (dsimp only; omega)) H.size) (cwV 1 hw (good_V m_649 m_276 m_277 m_6 m_278) rfl rfl rfl hy_Str_charAt ⟨Nat.le_of_ble_eq_true rfl, Nat.le_of_ble_eq_true rfl⟩) hE hP hD hS hA (vk_recv (hE.2.1 k hk).1 (i := 0) (by decide) hS) [] rfl (by decide) rfl hl rfl (Nat.le_of_ble_eq_true rfl) d_M_isAt_s_39 ⟨Nat.le_of_ble_eq_true rfl, Nat.le_of_ble_eq_true rfl⟩) hP hD hS hA [] [0, 1] rfl rfl (by decide) (by decide) (fun r_8 u_9 H locs hw_10 hP hD hS => ?_)
        have hP : va_P G.1 vwCl [(mm, .inr (5, [.ref tp, .int sz, .int at0, .ref tk, .ref tp, .ref ou, .int tm, .int om, al, pt, .ref pg, .int wr])), (tp, .inl (G.2.1 0, 1000, .inl tpf))] H := hP
        have hD : va_D A [(mm, .inr (5, [.ref tp, .int sz, .int at0, .ref tk, .ref tp, .ref ou, .int tm, .int om, al, pt, .ref pg, .int wr])), (tp, .inl (G.2.1 0, 1000, .inl tpf))] := hD
        refine lv_icmp_eq (tgt := 47) hx hb d_M_isAt_s_42 (by decide) (fun c_11 => ?_) (fun c_11 => ?_)
        · have tc_11 := congrArg Int32.toInt c_11
          obtain ⟨y_12, ey_12⟩ : ∃ y : Int32, y = x3_21 + 1 := ⟨_, rfl⟩
          have tl_1 : (1 : Int32).toInt = 1 := by decide
          have ty_12 := z_addE ey_12
          refine lv_iinc (v := y_12) (lv' := [(3, .int y_12), (0, .ref mm), (1, .int i), (2, .ref (G.2.2.1 k))]) hx hb d_M_isAt_s_47 hl (k := 0) rfl (by rw [ey_12]; rfl) (by decide) rfl (fun ls hl => ?_)
          refine lv_goto (tgt := 21) hx hb d_M_isAt_s_50 (by decide) ?_
          exact ih_21 y_12 (by first | assumption | trivial | omega | (dsimp only; omega)) hk1_21 (by omega) _ _ (hP.sub [0, 1] rfl) (hD.sub [0, 1] (by decide) rfl) hS _ (lv_sub hl [0, 1, 2, 3] rfl)
        · have tc_11 := z_ne c_11
          refine lv_iconst (v := 0) hx hb d_M_isAt_s_45 (by decide) ?_
          exact ret 0 () (Nat.le_of_ble_eq_true rfl) (Nat.le_of_ble_eq_true rfl) d_M_isAt_s_46 rfl (by first | exact Or.inl ⟨rfl, by first | trivial | omega⟩ | exact Or.inr ⟨rfl, by first | trivial | omega⟩) (hP.sub [0, 1] rfl) (hD.sub [0, 1] (by decide) rfl) hS
  refine lv_iload_n hx hb d_M_isAt_s_0 rfl (lv_at hl 1 rfl) ?_
  refine lv_if_lt (tgt := 17) hx hb d_M_isAt_s_1 (by decide) (fun c_13 => ?_) (fun c_13 => ?_)
  · have tl_0 : (0 : Int32).toInt = 0 := by decide
    have tc_13 := z_lt.mp c_13
    refine lv_iconst (v := 0) hx hb d_M_isAt_s_17 (by decide) ?_
    exact ret 0 () (Nat.le_of_ble_eq_true rfl) (Nat.le_of_ble_eq_true rfl) d_M_isAt_s_18 rfl (by first | exact Or.inl ⟨rfl, by first | trivial | omega⟩ | exact Or.inr ⟨rfl, by first | trivial | omega⟩) (hP.sub [0, 1] rfl) (hD.sub [0, 1] (by decide) rfl) hS
  · have tl_0 : (0 : Int32).toInt = 0 := by decide
    have tc_13 := z_nlt c_13
    refine lv_iload_n hx hb d_M_isAt_s_4 rfl (lv_at hl 1 rfl) ?_
    refine lv_aload_n hx hb d_M_isAt_s_5 rfl (lv_at hl 2 rfl) ?_
    refine gc_i (wr := [(mm, .inr (5, [.ref tp, .int sz, .int at0, .ref tk, .ref tp, .ref ou, .int tm, .int om, al, pt, .ref pg, .int wr])), (tp, .inl (G.2.1 0, 1000, .inl tpf))]) (gc_V (wc := []) (As := []) (rest := [.int i]) ⟨hx, hb, hml, hown, hw⟩ (c_Str_length l G k hk H.size) (cwV 0 hw (good_V m_644 m_266 m_267 m_6 m_268) rfl rfl rfl hy_Str_length ⟨Nat.le_of_ble_eq_true rfl, Nat.le_of_ble_eq_true rfl⟩) hE hP hD hS hA (vk_recv (hE.2.1 k hk).1 (i := 0) (by decide) hS) [] rfl (by decide) rfl hl rfl (Nat.le_of_ble_eq_true rfl) d_M_isAt_s_6 ⟨Nat.le_of_ble_eq_true rfl, Nat.le_of_ble_eq_true rfl⟩) hP hD hS hA [] [0, 1] rfl rfl (by decide) (by decide) (fun r_14 u_15 H locs hw_16 hP hD hS => ?_)
    try dsimp only at hw_16
    have h_17 := hw_16
    subst h_17
    have hP : va_P G.1 vwCl [(mm, .inr (5, [.ref tp, .int sz, .int at0, .ref tk, .ref tp, .ref ou, .int tm, .int om, al, pt, .ref pg, .int wr])), (tp, .inl (G.2.1 0, 1000, .inl tpf))] H := hP
    have hD : va_D A [(mm, .inr (5, [.ref tp, .int sz, .int at0, .ref tk, .ref tp, .ref ou, .int tm, .int om, al, pt, .ref pg, .int wr])), (tp, .inl (G.2.1 0, 1000, .inl tpf))] := hD
    refine lv_iadd hx hb d_M_isAt_s_9 ?_
    refine lv_topi (fun y_18 ey_18 => ?_)
    have ty_18 := z_addE ey_18
    refine lv_aload_n hx hb d_M_isAt_s_10 rfl (lv_at hl 0 rfl) ?_
    refine va_get (D := G.1) (ci := 5) (v := .int sz) (C := R_M) (T := F_M) (N := 12) hx hb hw i_M hown hE.1 hP 0 rfl rfl 1 (by decide) (hw _ m_454) (fun _ h9 => h9) rfl d_M_isAt_s_11 ?_
    refine lv_icmp_le (tgt := 19) hx hb d_M_isAt_s_14 (by decide) (fun c_19 => ?_) (fun c_19 => ?_)
    · have tc_19 := z_le.mp c_19
      refine lv_iconst (v := 0) hx hb d_M_isAt_s_19 (by decide) ?_
      refine lv_istore_n (lv' := [(3, .int 0), (0, .ref mm), (1, .int i), (2, .ref (G.2.2.1 k))]) hx hb d_M_isAt_s_20 rfl hl (by decide) rfl (fun ls hl => ?_)
      exact J_21 _ 0 (by first | assumption | trivial | omega | (dsimp only; omega)) (by first | assumption | trivial | omega | (dsimp only; omega)) (Nat.lt_succ_self _) _ _ (hP.sub [0, 1] rfl) (hD.sub [0, 1] (by decide) rfl) hS _ (lv_sub hl [0, 1, 2, 3] rfl)
    · have tc_19 := z_nle c_19
      refine lv_iconst (v := 0) hx hb d_M_isAt_s_17 (by decide) ?_
      exact ret 0 () (Nat.le_of_ble_eq_true rfl) (Nat.le_of_ble_eq_true rfl) d_M_isAt_s_18 rfl (by first | exact Or.inl ⟨rfl, by first | trivial | omega⟩ | exact Or.inr ⟨rfl, by first | trivial | omega⟩) (hP.sub [0, 1] rfl) (hD.sub [0, 1] (by decide) rfl) hS
def rm_M_isWord : Room := { frames := 5, cells := 0, slots := 0, locals := 108 }
set_option maxHeartbeats 4000000 in
set_option maxRecDepth 100000 in
theorem c_M_isWord (l : Launch) (G : GG) (mm : Nat) (tp : Nat) (tk : Nat) (ou : Nat) (pg : Nat) (sz : Int32) (at0 : Int32) (tm : Int32) (om : Int32) (wr : Int32) (al : Value) (pt : Value) (tpf : Nat → Int32) (i : Int32) (j : Int32) (k : Nat) (hz : 0 ≤ sz.toInt ∧ sz.toInt ≤ 1000) (hi : 0 ≤ i.toInt ∧ i.toInt ≤ 1000) (hj : 0 ≤ j.toInt ∧ j.toInt ≤ 1000) (hk : k < nS) : MI l y_M_isWord b_M_isWord 4 .boolean rm_M_isWord G [.ref mm, .int i, .int j, .ref (G.2.2.1 k)] [(mm, .inr (5, [.ref tp, .int sz, .int at0, .ref tk, .ref tp, .ref ou, .int tm, .int om, al, pt, .ref pg, .int wr])), (tp, .inl (G.2.1 0, 1000, .inl tpf))] (fun (v : Int32) (u : Unit) => ((v = 1 ∧ j.toInt - i.toInt = (nI (lenS.getD k 0)).toInt) ∨ (v = 0 ∧ True))) (fun (u : Unit) => [(mm, .inr (5, [.ref tp, .int sz, .int at0, .ref tk, .ref tp, .ref ou, .int tm, .int om, al, pt, .ref pg, .int wr])), (tp, .inl (G.2.1 0, 1000, .inl tpf))]) 0 0 := by
  refine MI.of (cc := b_M_isWord) (maxL := 4) (ty := .boolean) (C := R_M) (by decide +kernel) rfl (Nat.le_of_ble_eq_true rfl) ?_
  intro p e s m args below meth c A Q H ls hx hb hml hown hw hE hA hP hD hS ret hl
  have hl : lv_has ls 4 [(0, .ref mm), (1, .int i), (2, .int j), (3, .ref (G.2.2.1 k))] := hl
  refine lv_iload_n hx hb d_M_isWord_0 rfl (lv_at hl 2 rfl) ?_
  refine lv_iload_n hx hb d_M_isWord_1 rfl (lv_at hl 1 rfl) ?_
  refine lv_isub hx hb d_M_isWord_2 ?_
  refine lv_topi (fun y_1 ey_1 => ?_)
  have ty_1 := z_subE ey_1
  refine lv_aload_n hx hb d_M_isWord_3 rfl (lv_at hl 3 rfl) ?_
  refine gc_i (wr := [(mm, .inr (5, [.ref tp, .int sz, .int at0, .ref tk, .ref tp, .ref ou, .int tm, .int om, al, pt, .ref pg, .int wr])), (tp, .inl (G.2.1 0, 1000, .inl tpf))]) (gc_V (wc := []) (As := []) (rest := [.int y_1]) ⟨hx, hb, hml, hown, hw⟩ (c_Str_length l G k hk H.size) (cwV 0 hw (good_V m_644 m_266 m_267 m_6 m_268) rfl rfl rfl hy_Str_length ⟨Nat.le_of_ble_eq_true rfl, Nat.le_of_ble_eq_true rfl⟩) hE hP hD hS hA (vk_recv (hE.2.1 k hk).1 (i := 0) (by decide) hS) [] rfl (by decide) rfl hl rfl (Nat.le_of_ble_eq_true rfl) d_M_isWord_4 ⟨Nat.le_of_ble_eq_true rfl, Nat.le_of_ble_eq_true rfl⟩) hP hD hS hA [] [0, 1] rfl rfl (by decide) (by decide) (fun r_2 u_3 H locs hw_4 hP hD hS => ?_)
  try dsimp only at hw_4
  have h_5 := hw_4
  subst h_5
  have hP : va_P G.1 vwCl [(mm, .inr (5, [.ref tp, .int sz, .int at0, .ref tk, .ref tp, .ref ou, .int tm, .int om, al, pt, .ref pg, .int wr])), (tp, .inl (G.2.1 0, 1000, .inl tpf))] H := hP
  have hD : va_D A [(mm, .inr (5, [.ref tp, .int sz, .int at0, .ref tk, .ref tp, .ref ou, .int tm, .int om, al, pt, .ref pg, .int wr])), (tp, .inl (G.2.1 0, 1000, .inl tpf))] := hD
  refine lv_icmp_ne (tgt := 23) hx hb d_M_isWord_7 (by decide) (fun c_6 => ?_) (fun c_6 => ?_)
  · have tc_6 := z_ne c_6
    refine lv_iconst (v := 0) hx hb d_M_isWord_23 (by decide) ?_
    exact ret 0 () (Nat.le_of_ble_eq_true rfl) (Nat.le_of_ble_eq_true rfl) d_M_isWord_24 rfl (by first | exact Or.inl ⟨rfl, by first | trivial | omega⟩ | exact Or.inr ⟨rfl, by first | trivial | omega⟩) (hP.sub [0, 1] rfl) (hD.sub [0, 1] (by decide) rfl) hS
  · have tc_6 := congrArg Int32.toInt c_6
    refine lv_aload_n hx hb d_M_isWord_10 rfl (lv_at hl 0 rfl) ?_
    refine lv_iload_n hx hb d_M_isWord_11 rfl (lv_at hl 1 rfl) ?_
    refine lv_aload_n hx hb d_M_isWord_12 rfl (lv_at hl 3 rfl) ?_
    refine gc_i (wr := []) (gc_V (wc := [(mm, .inr (5, [.ref tp, .int sz, .int at0, .ref tk, .ref tp, .ref ou, .int tm, .int om, al, pt, .ref pg, .int wr])), (tp, .inl (G.2.1 0, 1000, .inl tpf))]) (As := [.int i, .ref (G.2.2.1 k)]) (rest := []) ⟨hx, hb, hml, hown, hw⟩ (c_M_isAt_s l G mm tp tk ou pg sz at0 tm om wr al pt tpf i k hz (by first | assumption | trivial | omega | (dsimp only; omega)) hk H.size) (cwV 2 hw (good_V m_645 m_647 ms_43 m_4 m_648) rfl rfl rfl hy_M_isAt_s ⟨Nat.le_of_ble_eq_true rfl, Nat.le_of_ble_eq_true rfl⟩) hE hP hD hS hA (va_recv hE.1 hP (ci := 5) (q0 := 0) rfl rfl) [0, 1] rfl (by decide) rfl hl rfl (Nat.le_of_ble_eq_true rfl) d_M_isWord_13 ⟨Nat.le_of_ble_eq_true rfl, Nat.le_of_ble_eq_true rfl⟩) hP hD hS hA [0, 1] [] rfl rfl (by decide) (by decide) (fun r_7 u_8 H locs hw_9 hP hD hS => ?_)
    try dsimp only at hw_9
    have h_10 := hw_9
    have hP : va_P G.1 vwCl [(mm, .inr (5, [.ref tp, .int sz, .int at0, .ref tk, .ref tp, .ref ou, .int tm, .int om, al, pt, .ref pg, .int wr])), (tp, .inl (G.2.1 0, 1000, .inl tpf))] H := hP
    have hD : va_D A [(mm, .inr (5, [.ref tp, .int sz, .int at0, .ref tk, .ref tp, .ref ou, .int tm, .int om, al, pt, .ref pg, .int wr])), (tp, .inl (G.2.1 0, 1000, .inl tpf))] := hD
    refine lv_if_eq (tgt := 23) hx hb d_M_isWord_16 (by decide) (fun c_11 => ?_) (fun c_11 => ?_)
    · have tc_11 := bool_f h_10 c_11
      refine lv_iconst (v := 0) hx hb d_M_isWord_23 (by decide) ?_
      exact ret 0 () (Nat.le_of_ble_eq_true rfl) (Nat.le_of_ble_eq_true rfl) d_M_isWord_24 rfl (by first | exact Or.inl ⟨rfl, by first | trivial | omega⟩ | exact Or.inr ⟨rfl, by first | trivial | omega⟩) (hP.sub [0, 1] rfl) (hD.sub [0, 1] (by decide) rfl) hS
    · have tc_11 := bool_t h_10 c_11
      refine lv_iconst (v := 1) hx hb d_M_isWord_19 (by decide) ?_
      refine lv_goto (tgt := 24) hx hb d_M_isWord_20 (by decide) ?_
      exact ret 1 () (Nat.le_of_ble_eq_true rfl) (Nat.le_of_ble_eq_true rfl) d_M_isWord_24 rfl (by first | exact Or.inl ⟨rfl, by first | trivial | omega⟩ | exact Or.inr ⟨rfl, by first | trivial | omega⟩) (hP.sub [0, 1] rfl) (hD.sub [0, 1] (by decide) rfl) hS
def rm_M_takeWord : Room := { frames := 6, cells := 0, slots := 0, locals := 131 }
set_option maxHeartbeats 4000000 in
set_option maxRecDepth 100000 in
theorem c_M_takeWord (l : Launch) (G : GG) (mm : Nat) (tp : Nat) (tk : Nat) (ou : Nat) (pg : Nat) (sz : Int32) (at0 : Int32) (tm : Int32) (om : Int32) (wr : Int32) (al : Value) (pt : Value) (tpf : Nat → Int32) (k : Nat) (hz : 0 ≤ sz.toInt ∧ sz.toInt ≤ 1000) (hc : 0 ≤ at0.toInt ∧ at0.toInt ≤ sz.toInt) (hk : k < nS) : MI l y_M_takeWord b_M_takeWord 3 .boolean rm_M_takeWord G [.ref mm, .ref (G.2.2.1 k)] [(mm, .inr (5, [.ref tp, .int sz, .int at0, .ref tk, .ref tp, .ref ou, .int tm, .int om, al, pt, .ref pg, .int wr])), (tp, .inl (G.2.1 0, 1000, .inl tpf))] (fun (v : Int32) (u : Int32) => ((v = 1 ∧ u.toInt = at0.toInt + (nI (lenS.getD k 0)).toInt) ∨ (v = 0 ∧ True)) ∧ (at0.toInt ≤ u.toInt ∧ u.toInt ≤ sz.toInt)) (fun (u : Int32) => [(mm, .inr (5, [.ref tp, .int sz, .int u, .ref tk, .ref tp, .ref ou, .int tm, .int om, al, pt, .ref pg, .int wr])), (tp, .inl (G.2.1 0, 1000, .inl tpf))]) 0 0 := by
  refine MI.of (cc := b_M_takeWord) (maxL := 3) (ty := .boolean) (C := R_M) (by decide +kernel) rfl (Nat.le_of_ble_eq_true rfl) ?_
  intro p e s m args below meth c A Q H ls hx hb hml hown hw hE hA hP hD hS ret hl
  have hl : lv_has ls 3 [(0, .ref mm), (1, .ref (G.2.2.1 k))] := hl
  refine lv_aload_n hx hb d_M_takeWord_0 rfl (lv_at hl 0 rfl) ?_
  refine lv_aload_n hx hb d_M_takeWord_1 rfl (lv_at hl 0 rfl) ?_
  refine va_get (D := G.1) (ci := 5) (v := .int at0) (C := R_M) (T := F_M) (N := 12) hx hb hw i_M hown hE.1 hP 0 rfl rfl 2 (by decide) (hw _ m_455) (fun _ h9 => h9) rfl d_M_takeWord_2 ?_
  refine gc_i (wr := []) (gc_V (wc := [(mm, .inr (5, [.ref tp, .int sz, .int at0, .ref tk, .ref tp, .ref ou, .int tm, .int om, al, pt, .ref pg, .int wr])), (tp, .inl (G.2.1 0, 1000, .inl tpf))]) (As := [.int at0]) (rest := []) ⟨hx, hb, hml, hown, hw⟩ (c_M_wordEnd l G mm tp tk ou pg sz at0 tm om wr al pt tpf at0 hz hc H.size) (cwV 1 hw (good_V m_524 m_526 ms_34 m_4 m_527) rfl rfl rfl hy_M_wordEnd ⟨Nat.le_of_ble_eq_true rfl, Nat.le_of_ble_eq_true rfl⟩) hE hP hD hS hA (va_recv hE.1 hP (ci := 5) (q0 := 0) rfl rfl) [0, 1] rfl (by decide) rfl hl rfl (Nat.le_of_ble_eq_true rfl) d_M_takeWord_5 ⟨Nat.le_of_ble_eq_true rfl, Nat.le_of_ble_eq_true rfl⟩) hP hD hS hA [0, 1] [] rfl rfl (by decide) (by decide) (fun r_1 u_2 H locs hw_3 hP hD hS => ?_)
  try dsimp only at hw_3
  have h_4 := hw_3
  have hP : va_P G.1 vwCl [(mm, .inr (5, [.ref tp, .int sz, .int at0, .ref tk, .ref tp, .ref ou, .int tm, .int om, al, pt, .ref pg, .int wr])), (tp, .inl (G.2.1 0, 1000, .inl tpf))] H := hP
  have hD : va_D A [(mm, .inr (5, [.ref tp, .int sz, .int at0, .ref tk, .ref tp, .ref ou, .int tm, .int om, al, pt, .ref pg, .int wr])), (tp, .inl (G.2.1 0, 1000, .inl tpf))] := hD
  refine lv_istore_n (lv' := [(2, .int r_1), (0, .ref mm), (1, .ref (G.2.2.1 k))]) hx hb d_M_takeWord_8 rfl hl (by decide) rfl (fun ls hl => ?_)
  refine lv_aload_n hx hb d_M_takeWord_9 rfl (lv_at hl 1 rfl) ?_
  refine lv_aload_n hx hb d_M_takeWord_10 rfl (lv_at hl 1 rfl) ?_
  refine va_get (D := G.1) (ci := 5) (v := .int at0) (C := R_M) (T := F_M) (N := 12) hx hb hw i_M hown hE.1 hP 0 rfl rfl 2 (by decide) (hw _ m_455) (fun _ h9 => h9) rfl d_M_takeWord_11 ?_
  refine lv_iload_n hx hb d_M_takeWord_14 rfl (lv_at hl 0 rfl) ?_
  refine lv_aload_n hx hb d_M_takeWord_15 rfl (lv_at hl 2 rfl) ?_
  refine gc_i (wr := []) (gc_V (wc := [(mm, .inr (5, [.ref tp, .int sz, .int at0, .ref tk, .ref tp, .ref ou, .int tm, .int om, al, pt, .ref pg, .int wr])), (tp, .inl (G.2.1 0, 1000, .inl tpf))]) (As := [.int at0, .int r_1, .ref (G.2.2.1 k)]) (rest := []) ⟨hx, hb, hml, hown, hw⟩ (c_M_isWord l G mm tp tk ou pg sz at0 tm om wr al pt tpf at0 r_1 k hz (by first | assumption | trivial | omega | (dsimp only; omega)) (by first | assumption | trivial | omega | (dsimp only; omega)) hk H.size) (cwV 3 hw (good_V m_640 m_642 ms_42 m_4 m_643) rfl rfl rfl hy_M_isWord ⟨Nat.le_of_ble_eq_true rfl, Nat.le_of_ble_eq_true rfl⟩) hE hP hD hS hA (va_recv hE.1 hP (ci := 5) (q0 := 0) rfl rfl) [0, 1] rfl (by decide) rfl hl rfl (Nat.le_of_ble_eq_true rfl) d_M_takeWord_16 ⟨Nat.le_of_ble_eq_true rfl, Nat.le_of_ble_eq_true rfl⟩) hP hD hS hA [0, 1] [] rfl rfl (by decide) (by decide) (fun r_5 u_6 H locs hw_7 hP hD hS => ?_)
  try dsimp only at hw_7
  have h_8 := hw_7
  have hP : va_P G.1 vwCl [(mm, .inr (5, [.ref tp, .int sz, .int at0, .ref tk, .ref tp, .ref ou, .int tm, .int om, al, pt, .ref pg, .int wr])), (tp, .inl (G.2.1 0, 1000, .inl tpf))] H := hP
  have hD : va_D A [(mm, .inr (5, [.ref tp, .int sz, .int at0, .ref tk, .ref tp, .ref ou, .int tm, .int om, al, pt, .ref pg, .int wr])), (tp, .inl (G.2.1 0, 1000, .inl tpf))] := hD
  refine lv_if_ne (tgt := 24) hx hb d_M_takeWord_19 (by decide) (fun c_9 => ?_) (fun c_9 => ?_)
  · have tc_9 := bool_t h_8 c_9
    refine lv_aload_n hx hb d_M_takeWord_24 rfl (lv_at hl 1 rfl) ?_
    refine lv_iload_n hx hb d_M_takeWord_25 rfl (lv_at hl 0 rfl) ?_
    refine va_put (D := G.1) (ci := 5) (v := .int r_1) (ty := .int) (C := R_M) (T := F_M) (N := 12) hx hb hw i_M t_M t_M_ok n_M hown hE.1 hP hD hS 0 rfl rfl 2 (by decide) (hw _ m_455) (fun _ h9 => h9) rfl (by decide +kernel) rfl rfl (Nat.le_of_ble_eq_true rfl) d_M_takeWord_26 (fun H locs hP hD hS => ?_)
    have hP : va_P G.1 vwCl [(mm, .inr (5, [.ref tp, .int sz, .int r_1, .ref tk, .ref tp, .ref ou, .int tm, .int om, al, pt, .ref pg, .int wr])), (tp, .inl (G.2.1 0, 1000, .inl tpf))] H := hP
    have hD : va_D A [(mm, .inr (5, [.ref tp, .int sz, .int r_1, .ref tk, .ref tp, .ref ou, .int tm, .int om, al, pt, .ref pg, .int wr])), (tp, .inl (G.2.1 0, 1000, .inl tpf))] := hD
    refine lv_iconst (v := 1) hx hb d_M_takeWord_29 (by decide) ?_
    exact ret 1 (r_1) (Nat.le_of_ble_eq_true rfl) (Nat.le_of_ble_eq_true rfl) d_M_takeWord_30 rfl ⟨(by first | exact Or.inl ⟨rfl, by first | trivial | omega⟩ | exact Or.inr ⟨rfl, by first | trivial | omega⟩), h_4⟩ (hP.sub [0, 1] rfl) (hD.sub [0, 1] (by decide) rfl) hS
  · have tc_9 := bool_f h_8 c_9
    refine lv_iconst (v := 0) hx hb d_M_takeWord_22 (by decide) ?_
    exact ret 0 (at0) (Nat.le_of_ble_eq_true rfl) (Nat.le_of_ble_eq_true rfl) d_M_takeWord_23 rfl ⟨(by first | exact Or.inl ⟨rfl, by first | trivial | omega⟩ | exact Or.inr ⟨rfl, by first | trivial | omega⟩), (by first | assumption | trivial | omega | (dsimp only; omega))⟩ (hP.sub [0, 1] rfl) (hD.sub [0, 1] (by decide) rfl) hS
def rm_M_takeByte : Room := { frames := 0, cells := 0, slots := 0, locals := 0 }
set_option maxHeartbeats 4000000 in
set_option maxRecDepth 100000 in
theorem c_M_takeByte (l : Launch) (G : GG) (mm : Nat) (tp : Nat) (tk : Nat) (ou : Nat) (pg : Nat) (sz : Int32) (at0 : Int32) (tm : Int32) (om : Int32) (wr : Int32) (al : Value) (pt : Value) (tpf : Nat → Int32) (b : Int32) (hz : 0 ≤ sz.toInt ∧ sz.toInt ≤ 1000) (hc : 0 ≤ at0.toInt ∧ at0.toInt ≤ sz.toInt) : MI l y_M_takeByte b_M_takeByte 2 .boolean rm_M_takeByte G [.ref mm, .int b] [(mm, .inr (5, [.ref tp, .int sz, .int at0, .ref tk, .ref tp, .ref ou, .int tm, .int om, al, pt, .ref pg, .int wr])), (tp, .inl (G.2.1 0, 1000, .inl tpf))] (fun (v : Int32) (u : Int32) => ((v = 1 ∧ u.toInt = at0.toInt + 1 ∧ u.toInt ≤ sz.toInt) ∨ (v = 0 ∧ u.toInt = at0.toInt))) (fun (u : Int32) => [(mm, .inr (5, [.ref tp, .int sz, .int u, .ref tk, .ref tp, .ref ou, .int tm, .int om, al, pt, .ref pg, .int wr])), (tp, .inl (G.2.1 0, 1000, .inl tpf))]) 0 0 := by
  refine MI.of (cc := b_M_takeByte) (maxL := 2) (ty := .boolean) (C := R_M) (by decide +kernel) rfl (Nat.le_of_ble_eq_true rfl) ?_
  intro p e s m args below meth c A Q H ls hx hb hml hown hw hE hA hP hD hS ret hl
  have hl : lv_has ls 2 [(0, .ref mm), (1, .int b)] := hl
  refine lv_aload_n hx hb d_M_takeByte_0 rfl (lv_at hl 0 rfl) ?_
  refine va_get (D := G.1) (ci := 5) (v := .int at0) (C := R_M) (T := F_M) (N := 12) hx hb hw i_M hown hE.1 hP 0 rfl rfl 2 (by decide) (hw _ m_455) (fun _ h9 => h9) rfl d_M_takeByte_1 ?_
  refine lv_aload_n hx hb d_M_takeByte_4 rfl (lv_at hl 0 rfl) ?_
  refine va_get (D := G.1) (ci := 5) (v := .int sz) (C := R_M) (T := F_M) (N := 12) hx hb hw i_M hown hE.1 hP 0 rfl rfl 1 (by decide) (hw _ m_454) (fun _ h9 => h9) rfl d_M_takeByte_5 ?_
  refine lv_icmp_ge (tgt := 24) hx hb d_M_takeByte_8 (by decide) (fun c_1 => ?_) (fun c_1 => ?_)
  · have tc_1 := z_le.mp c_1
    refine lv_iconst (v := 0) hx hb d_M_takeByte_24 (by decide) ?_
    exact ret 0 (at0) (Nat.le_of_ble_eq_true rfl) (Nat.le_of_ble_eq_true rfl) d_M_takeByte_25 rfl (by first | exact Or.inl ⟨rfl, by first | trivial | omega | (dsimp only; omega)⟩ | exact Or.inr ⟨rfl, rfl⟩) (hP.sub [0, 1] rfl) (hD.sub [0, 1] (by decide) rfl) hS
  · have tc_1 := z_nle c_1
    refine lv_aload_n hx hb d_M_takeByte_11 rfl (lv_at hl 0 rfl) ?_
    refine va_get (D := G.1) (ci := 5) (v := .ref tp) (C := R_M) (T := F_M) (N := 12) hx hb hw i_M hown hE.1 hP 0 rfl rfl 0 (by decide) (hw _ m_453) (fun _ h9 => h9) rfl d_M_takeByte_12 ?_
    refine lv_aload_n hx hb d_M_takeByte_15 rfl (lv_at hl 0 rfl) ?_
    refine va_get (D := G.1) (ci := 5) (v := .int at0) (C := R_M) (T := F_M) (N := 12) hx hb hw i_M hown hE.1 hP 0 rfl rfl 2 (by decide) (hw _ m_455) (fun _ h9 => h9) rfl d_M_takeByte_16 ?_
    refine va_bald hx hb hE.1 hP 1 0 rfl rfl (i := at0) (z_in (by omega) (by omega)) d_M_takeByte_19 ?_
    refine lv_topi (fun y_2 ey_2 => ?_)
    refine lv_iload_n hx hb d_M_takeByte_20 rfl (lv_at hl 1 rfl) ?_
    refine lv_icmp_eq (tgt := 26) hx hb d_M_takeByte_21 (by decide) (fun c_3 => ?_) (fun c_3 => ?_)
    · have tc_3 := congrArg Int32.toInt c_3
      refine lv_aload_n hx hb d_M_takeByte_26 rfl (lv_at hl 0 rfl) ?_
      refine lv_dup hx hb d_M_takeByte_27 rfl ?_
      refine va_get (D := G.1) (ci := 5) (v := .int at0) (C := R_M) (T := F_M) (N := 12) hx hb hw i_M hown hE.1 hP 0 rfl rfl 2 (by decide) (hw _ m_455) (fun _ h9 => h9) rfl d_M_takeByte_28 ?_
      refine lv_iconst (v := 1) hx hb d_M_takeByte_31 (by decide) ?_
      refine lv_iadd hx hb d_M_takeByte_32 ?_
      refine lv_topi (fun y_4 ey_4 => ?_)
      have tl_1 : (1 : Int32).toInt = 1 := by decide
      have ty_4 := z_addE ey_4
      refine va_put (D := G.1) (ci := 5) (v := .int y_4) (ty := .int) (C := R_M) (T := F_M) (N := 12) hx hb hw i_M t_M t_M_ok n_M hown hE.1 hP hD hS 0 rfl rfl 2 (by decide) (hw _ m_455) (fun _ h9 => h9) rfl (by decide +kernel) rfl rfl (Nat.le_of_ble_eq_true rfl) d_M_takeByte_33 (fun H locs hP hD hS => ?_)
      have hP : va_P G.1 vwCl [(mm, .inr (5, [.ref tp, .int sz, .int y_4, .ref tk, .ref tp, .ref ou, .int tm, .int om, al, pt, .ref pg, .int wr])), (tp, .inl (G.2.1 0, 1000, .inl tpf))] H := hP
      have hD : va_D A [(mm, .inr (5, [.ref tp, .int sz, .int y_4, .ref tk, .ref tp, .ref ou, .int tm, .int om, al, pt, .ref pg, .int wr])), (tp, .inl (G.2.1 0, 1000, .inl tpf))] := hD
      refine lv_iconst (v := 1) hx hb d_M_takeByte_36 (by decide) ?_
      exact ret 1 (y_4) (Nat.le_of_ble_eq_true rfl) (Nat.le_of_ble_eq_true rfl) d_M_takeByte_37 rfl (by first | exact Or.inl ⟨rfl, by first | trivial | omega | (dsimp only; omega)⟩ | exact Or.inr ⟨rfl, rfl⟩) (hP.sub [0, 1] rfl) (hD.sub [0, 1] (by decide) rfl) hS
    · have tc_3 := z_ne c_3
      refine lv_iconst (v := 0) hx hb d_M_takeByte_24 (by decide) ?_
      exact ret 0 (at0) (Nat.le_of_ble_eq_true rfl) (Nat.le_of_ble_eq_true rfl) d_M_takeByte_25 rfl (by first | exact Or.inl ⟨rfl, by first | trivial | omega | (dsimp only; omega)⟩ | exact Or.inr ⟨rfl, rfl⟩) (hP.sub [0, 1] rfl) (hD.sub [0, 1] (by decide) rfl) hS
def rm_M_escaped : Room := { frames := 0, cells := 0, slots := 0, locals := 0 }
set_option maxHeartbeats 4000000 in
set_option maxRecDepth 100000 in
theorem c_M_escaped (l : Launch) (G : GG) (mm : Nat) (tp : Nat) (tk : Nat) (ou : Nat) (pg : Nat) (sz : Int32) (at0 : Int32) (tm : Int32) (om : Int32) (wr : Int32) (al : Value) (pt : Value) (tpf : Nat → Int32) (hz : 0 ≤ sz.toInt ∧ sz.toInt ≤ 1000) (hc : 0 ≤ at0.toInt ∧ at0.toInt ≤ sz.toInt) : MI l y_M_escaped b_M_escaped 3 .int rm_M_escaped G [.ref mm] [(mm, .inr (5, [.ref tp, .int sz, .int at0, .ref tk, .ref tp, .ref ou, .int tm, .int om, al, pt, .ref pg, .int wr])), (tp, .inl (G.2.1 0, 1000, .inl tpf))] (fun (v : Int32) (u : Int32) => (at0.toInt ≤ u.toInt ∧ u.toInt ≤ sz.toInt)) (fun (u : Int32) => [(mm, .inr (5, [.ref tp, .int sz, .int u, .ref tk, .ref tp, .ref ou, .int tm, .int om, al, pt, .ref pg, .int wr])), (tp, .inl (G.2.1 0, 1000, .inl tpf))]) 0 0 := by
  refine MI.of (cc := b_M_escaped) (maxL := 3) (ty := .int) (C := R_M) (by decide +kernel) rfl (Nat.le_of_ble_eq_true rfl) ?_
  intro p e s m args below meth c A Q H ls hx hb hml hown hw hE hA hP hD hS ret hl
  have hl : lv_has ls 3 [(0, .ref mm)] := hl
  have J_79 : ∀ (fu : Nat) (x2_79 : Int32) (x1_79 : Int32) (at2_79 : Int32) (hj0_79 : at0.toInt ≤ at2_79.toInt ∧ at2_79.toInt ≤ sz.toInt) (hk0_79 : 0 ≤ x2_79.toInt), (3 - x2_79.toInt).toNat < fu → ∀ (H : Heap) (locs : List Loc), va_P G.1 vwCl [(mm, .inr (5, [.ref tp, .int sz, .int at2_79, .ref tk, .ref tp, .ref ou, .int tm, .int om, al, pt, .ref pg, .int wr])), (tp, .inl (G.2.1 0, 1000, .inl tpf))] H → va_D A [(mm, .inr (5, [.ref tp, .int sz, .int at2_79, .ref tk, .ref tp, .ref ou, .int tm, .int om, al, pt, .ref pg, .int wr])), (tp, .inl (G.2.1 0, 1000, .inl tpf))] → va_S A s.heap H locs → ∀ ls : Array Slot, lv_has ls 3 [(2, .int x2_79), (1, .int x1_79), (0, .ref mm)] → W p l e rm_M_escaped s m args below meth c H locs 0 0 Q (F0 m 79 ls []) := by
    intro fu
    induction fu with
    | zero =>
      intro x2_79 x1_79 at2_79 hj0_79 hk0_79 hm
      exact absurd hm (Nat.not_lt_zero _)
    | succ fu ih_79 =>
      intro x2_79 x1_79 at2_79 hj0_79 hk0_79 hm_79 H locs hP hD hS ls hl
      refine lv_iload_n hx hb d_M_escaped_79 rfl (lv_at hl 0 rfl) ?_
      refine lv_iconst (v := 3) hx hb d_M_escaped_80 (by decide) ?_
      refine lv_icmp_ge (tgt := 159) hx hb d_M_escaped_81 (by decide) (fun c_1 => ?_) (fun c_1 => ?_)
      · have tl_3 : (3 : Int32).toInt = 3 := by decide
        have tc_1 := z_le.mp c_1
        refine lv_iload_n hx hb d_M_escaped_159 rfl (lv_at hl 1 rfl) ?_
        refine lv_sipush (v := 255) hx hb d_M_escaped_160 (by decide) ?_
        refine lv_icmp_le (tgt := 170) hx hb d_M_escaped_163 (by decide) (fun c_2 => ?_) (fun c_2 => ?_)
        · have tl_255 : (255 : Int32).toInt = 255 := by decide
          have tc_2 := z_le.mp c_2
          refine lv_iload_n hx hb d_M_escaped_170 rfl (lv_at hl 1 rfl) ?_
          exact ret x1_79 (at2_79) (Nat.le_of_ble_eq_true rfl) (Nat.le_of_ble_eq_true rfl) d_M_escaped_171 rfl hj0_79 (hP.sub [0, 1] rfl) (hD.sub [0, 1] (by decide) rfl) hS
        · have tl_255 : (255 : Int32).toInt = 255 := by decide
          have tc_2 := z_nle c_2
          refine lv_iconst (v := (-1)) hx hb d_M_escaped_166 (by decide) ?_
          refine lv_goto (tgt := 171) hx hb d_M_escaped_167 (by decide) ?_
          exact ret (-1) (at2_79) (Nat.le_of_ble_eq_true rfl) (Nat.le_of_ble_eq_true rfl) d_M_escaped_171 rfl hj0_79 (hP.sub [0, 1] rfl) (hD.sub [0, 1] (by decide) rfl) hS
      · have tl_3 : (3 : Int32).toInt = 3 := by decide
        have tc_1 := z_nle c_1
        refine lv_aload_n hx hb d_M_escaped_84 rfl (lv_at hl 2 rfl) ?_
        refine va_get (D := G.1) (ci := 5) (v := .int at2_79) (C := R_M) (T := F_M) (N := 12) hx hb hw i_M hown hE.1 hP 0 rfl rfl 2 (by decide) (hw _ m_455) (fun _ h9 => h9) rfl d_M_escaped_85 ?_
        refine lv_aload_n hx hb d_M_escaped_88 rfl (lv_at hl 2 rfl) ?_
        refine va_get (D := G.1) (ci := 5) (v := .int sz) (C := R_M) (T := F_M) (N := 12) hx hb hw i_M hown hE.1 hP 0 rfl rfl 1 (by decide) (hw _ m_454) (fun _ h9 => h9) rfl d_M_escaped_89 ?_
        refine lv_icmp_ge (tgt := 123) hx hb d_M_escaped_92 (by decide) (fun c_3 => ?_) (fun c_3 => ?_)
        · have tc_3 := z_le.mp c_3
          refine lv_iconst (v := (-1)) hx hb d_M_escaped_123 (by decide) ?_
          exact ret (-1) (at2_79) (Nat.le_of_ble_eq_true rfl) (Nat.le_of_ble_eq_true rfl) d_M_escaped_124 rfl hj0_79 (hP.sub [0, 1] rfl) (hD.sub [0, 1] (by decide) rfl) hS
        · have tc_3 := z_nle c_3
          refine lv_aload_n hx hb d_M_escaped_95 rfl (lv_at hl 2 rfl) ?_
          refine va_get (D := G.1) (ci := 5) (v := .ref tp) (C := R_M) (T := F_M) (N := 12) hx hb hw i_M hown hE.1 hP 0 rfl rfl 0 (by decide) (hw _ m_453) (fun _ h9 => h9) rfl d_M_escaped_96 ?_
          refine lv_aload_n hx hb d_M_escaped_99 rfl (lv_at hl 2 rfl) ?_
          refine va_get (D := G.1) (ci := 5) (v := .int at2_79) (C := R_M) (T := F_M) (N := 12) hx hb hw i_M hown hE.1 hP 0 rfl rfl 2 (by decide) (hw _ m_455) (fun _ h9 => h9) rfl d_M_escaped_100 ?_
          refine va_bald hx hb hE.1 hP 1 0 rfl rfl (i := at2_79) (z_in (by omega) (by omega)) d_M_escaped_103 ?_
          refine lv_topi (fun y_4 ey_4 => ?_)
          refine lv_bipush (v := 48) hx hb d_M_escaped_104 (by decide) ?_
          refine lv_icmp_lt (tgt := 123) hx hb d_M_escaped_106 (by decide) (fun c_5 => ?_) (fun c_5 => ?_)
          · have tl_48 : (48 : Int32).toInt = 48 := by decide
            have tc_5 := z_lt.mp c_5
            refine lv_iconst (v := (-1)) hx hb d_M_escaped_123 (by decide) ?_
            exact ret (-1) (at2_79) (Nat.le_of_ble_eq_true rfl) (Nat.le_of_ble_eq_true rfl) d_M_escaped_124 rfl hj0_79 (hP.sub [0, 1] rfl) (hD.sub [0, 1] (by decide) rfl) hS
          · have tl_48 : (48 : Int32).toInt = 48 := by decide
            have tc_5 := z_nlt c_5
            refine lv_aload_n hx hb d_M_escaped_109 rfl (lv_at hl 2 rfl) ?_
            refine va_get (D := G.1) (ci := 5) (v := .ref tp) (C := R_M) (T := F_M) (N := 12) hx hb hw i_M hown hE.1 hP 0 rfl rfl 0 (by decide) (hw _ m_453) (fun _ h9 => h9) rfl d_M_escaped_110 ?_
            refine lv_aload_n hx hb d_M_escaped_113 rfl (lv_at hl 2 rfl) ?_
            refine va_get (D := G.1) (ci := 5) (v := .int at2_79) (C := R_M) (T := F_M) (N := 12) hx hb hw i_M hown hE.1 hP 0 rfl rfl 2 (by decide) (hw _ m_455) (fun _ h9 => h9) rfl d_M_escaped_114 ?_
            refine va_bald hx hb hE.1 hP 1 0 rfl rfl (i := at2_79) (z_in (by omega) (by omega)) d_M_escaped_117 ?_
            refine lv_topi (fun y_6 ey_6 => ?_)
            refine lv_bipush (v := 55) hx hb d_M_escaped_118 (by decide) ?_
            refine lv_icmp_le (tgt := 125) hx hb d_M_escaped_120 (by decide) (fun c_7 => ?_) (fun c_7 => ?_)
            · have tl_55 : (55 : Int32).toInt = 55 := by decide
              have tc_7 := z_le.mp c_7
              refine lv_bipush (v := 8) hx hb d_M_escaped_125 (by decide) ?_
              refine lv_iload_n hx hb d_M_escaped_127 rfl (lv_at hl 1 rfl) ?_
              refine lv_imul hx hb d_M_escaped_128 ?_
              refine lv_topi (fun y_8 ey_8 => ?_)
              have tl_8 : (8 : Int32).toInt = 8 := by decide
              have ty_8 := z_mulL (k := 8) (by decide) ey_8
              refine lv_aload_n hx hb d_M_escaped_129 rfl (lv_at hl 2 rfl) ?_
              refine va_get (D := G.1) (ci := 5) (v := .ref tp) (C := R_M) (T := F_M) (N := 12) hx hb hw i_M hown hE.1 hP 0 rfl rfl 0 (by decide) (hw _ m_453) (fun _ h9 => h9) rfl d_M_escaped_130 ?_
              refine lv_aload_n hx hb d_M_escaped_133 rfl (lv_at hl 2 rfl) ?_
              refine va_get (D := G.1) (ci := 5) (v := .int at2_79) (C := R_M) (T := F_M) (N := 12) hx hb hw i_M hown hE.1 hP 0 rfl rfl 2 (by decide) (hw _ m_455) (fun _ h9 => h9) rfl d_M_escaped_134 ?_
              refine va_bald hx hb hE.1 hP 1 0 rfl rfl (i := at2_79) (z_in (by omega) (by omega)) d_M_escaped_137 ?_
              refine lv_topi (fun y_9 ey_9 => ?_)
              refine lv_iadd hx hb d_M_escaped_138 ?_
              refine lv_topi (fun y_10 ey_10 => ?_)
              have ty_10 := z_addE ey_10
              refine lv_bipush (v := 48) hx hb d_M_escaped_139 (by decide) ?_
              refine lv_isub hx hb d_M_escaped_141 ?_
              refine lv_topi (fun y_11 ey_11 => ?_)
              have ty_11 := z_subE ey_11
              refine lv_istore_n (lv' := [(1, .int y_11), (2, .int x2_79), (0, .ref mm)]) hx hb d_M_escaped_142 rfl hl (by decide) rfl (fun ls hl => ?_)
              refine lv_aload_n hx hb d_M_escaped_143 rfl (lv_at hl 2 rfl) ?_
              refine lv_dup hx hb d_M_escaped_144 rfl ?_
              refine va_get (D := G.1) (ci := 5) (v := .int at2_79) (C := R_M) (T := F_M) (N := 12) hx hb hw i_M hown hE.1 hP 0 rfl rfl 2 (by decide) (hw _ m_455) (fun _ h9 => h9) rfl d_M_escaped_145 ?_
              refine lv_iconst (v := 1) hx hb d_M_escaped_148 (by decide) ?_
              refine lv_iadd hx hb d_M_escaped_149 ?_
              refine lv_topi (fun y_12 ey_12 => ?_)
              have tl_1 : (1 : Int32).toInt = 1 := by decide
              have ty_12 := z_addE ey_12
              refine va_put (D := G.1) (ci := 5) (v := .int y_12) (ty := .int) (C := R_M) (T := F_M) (N := 12) hx hb hw i_M t_M t_M_ok n_M hown hE.1 hP hD hS 0 rfl rfl 2 (by decide) (hw _ m_455) (fun _ h9 => h9) rfl (by decide +kernel) rfl rfl (Nat.le_of_ble_eq_true rfl) d_M_escaped_150 (fun H locs hP hD hS => ?_)
              have hP : va_P G.1 vwCl [(mm, .inr (5, [.ref tp, .int sz, .int y_12, .ref tk, .ref tp, .ref ou, .int tm, .int om, al, pt, .ref pg, .int wr])), (tp, .inl (G.2.1 0, 1000, .inl tpf))] H := hP
              have hD : va_D A [(mm, .inr (5, [.ref tp, .int sz, .int y_12, .ref tk, .ref tp, .ref ou, .int tm, .int om, al, pt, .ref pg, .int wr])), (tp, .inl (G.2.1 0, 1000, .inl tpf))] := hD
              obtain ⟨y_13, ey_13⟩ : ∃ y : Int32, y = x2_79 + 1 := ⟨_, rfl⟩
              have ty_13 := z_addE ey_13
              refine lv_iinc (v := y_13) (lv' := [(2, .int y_13), (1, .int y_11), (0, .ref mm)]) hx hb d_M_escaped_153 hl (k := 1) rfl (by rw [ey_13]; rfl) (by decide) rfl (fun ls hl => ?_)
              refine lv_goto (tgt := 79) hx hb d_M_escaped_156 (by decide) ?_
              exact ih_79 y_13 y_11 y_12 (by first | assumption | trivial | omega | (dsimp only; omega)) (by first | assumption | trivial | omega | (dsimp only; omega)) (by omega) _ _ (hP.sub [0, 1] rfl) (hD.sub [0, 1] (by decide) rfl) hS _ (lv_sub hl [0, 1, 2] rfl)
            · have tl_55 : (55 : Int32).toInt = 55 := by decide
              have tc_7 := z_nle c_7
              refine lv_iconst (v := (-1)) hx hb d_M_escaped_123 (by decide) ?_
              exact ret (-1) (at2_79) (Nat.le_of_ble_eq_true rfl) (Nat.le_of_ble_eq_true rfl) d_M_escaped_124 rfl hj0_79 (hP.sub [0, 1] rfl) (hD.sub [0, 1] (by decide) rfl) hS
  have J_75 : ∀ (at2_75 : Int32) (hj0_75 : at0.toInt ≤ at2_75.toInt ∧ at2_75.toInt ≤ sz.toInt) (H : Heap) (locs : List Loc), va_P G.1 vwCl [(mm, .inr (5, [.ref tp, .int sz, .int at2_75, .ref tk, .ref tp, .ref ou, .int tm, .int om, al, pt, .ref pg, .int wr])), (tp, .inl (G.2.1 0, 1000, .inl tpf))] H → va_D A [(mm, .inr (5, [.ref tp, .int sz, .int at2_75, .ref tk, .ref tp, .ref ou, .int tm, .int om, al, pt, .ref pg, .int wr])), (tp, .inl (G.2.1 0, 1000, .inl tpf))] → va_S A s.heap H locs → ∀ ls : Array Slot, lv_has ls 3 [(0, .ref mm)] → W p l e rm_M_escaped s m args below meth c H locs 0 0 Q (F0 m 75 ls []) := by
    intro at2_75 hj0_75 H locs hP hD hS ls hl
    refine lv_iconst (v := 0) hx hb d_M_escaped_75 (by decide) ?_
    refine lv_istore_n (lv' := [(1, .int 0), (0, .ref mm)]) hx hb d_M_escaped_76 rfl hl (by decide) rfl (fun ls hl => ?_)
    refine lv_iconst (v := 0) hx hb d_M_escaped_77 (by decide) ?_
    refine lv_istore_n (lv' := [(2, .int 0), (1, .int 0), (0, .ref mm)]) hx hb d_M_escaped_78 rfl hl (by decide) rfl (fun ls hl => ?_)
    have tl_0 : (0 : Int32).toInt = 0 := by decide
    exact J_79 _ 0 0 at2_75 hj0_75 (by first | assumption | trivial | omega | (dsimp only; omega)) (Nat.lt_succ_self _) _ _ (hP.sub [0, 1] rfl) (hD.sub [0, 1] (by decide) rfl) hS _ (lv_sub hl [0, 1, 2] rfl)
  have J_53 : ∀ (at2_53 : Int32) (hj0_53 : at0.toInt ≤ at2_53.toInt ∧ at2_53.toInt ≤ sz.toInt) (hk0_53 : at0.toInt < sz.toInt) (hk1_53 : at2_53.toInt = at0.toInt) (H : Heap) (locs : List Loc), va_P G.1 vwCl [(mm, .inr (5, [.ref tp, .int sz, .int at2_53, .ref tk, .ref tp, .ref ou, .int tm, .int om, al, pt, .ref pg, .int wr])), (tp, .inl (G.2.1 0, 1000, .inl tpf))] H → va_D A [(mm, .inr (5, [.ref tp, .int sz, .int at2_53, .ref tk, .ref tp, .ref ou, .int tm, .int om, al, pt, .ref pg, .int wr])), (tp, .inl (G.2.1 0, 1000, .inl tpf))] → va_S A s.heap H locs → ∀ ls : Array Slot, lv_has ls 3 [(0, .ref mm)] → W p l e rm_M_escaped s m args below meth c H locs 0 0 Q (F0 m 53 ls []) := by
    intro at2_53 hj0_53 hk0_53 hk1_53 H locs hP hD hS ls hl
    refine lv_aload_n hx hb d_M_escaped_53 rfl (lv_at hl 0 rfl) ?_
    refine lv_dup hx hb d_M_escaped_54 rfl ?_
    refine va_get (D := G.1) (ci := 5) (v := .int at2_53) (C := R_M) (T := F_M) (N := 12) hx hb hw i_M hown hE.1 hP 0 rfl rfl 2 (by decide) (hw _ m_455) (fun _ h9 => h9) rfl d_M_escaped_55 ?_
    refine lv_iconst (v := 1) hx hb d_M_escaped_58 (by decide) ?_
    refine lv_iadd hx hb d_M_escaped_59 ?_
    refine lv_topi (fun y_14 ey_14 => ?_)
    have tl_1 : (1 : Int32).toInt = 1 := by decide
    have ty_14 := z_addE ey_14
    refine va_put (D := G.1) (ci := 5) (v := .int y_14) (ty := .int) (C := R_M) (T := F_M) (N := 12) hx hb hw i_M t_M t_M_ok n_M hown hE.1 hP hD hS 0 rfl rfl 2 (by decide) (hw _ m_455) (fun _ h9 => h9) rfl (by decide +kernel) rfl rfl (Nat.le_of_ble_eq_true rfl) d_M_escaped_60 (fun H locs hP hD hS => ?_)
    have hP : va_P G.1 vwCl [(mm, .inr (5, [.ref tp, .int sz, .int y_14, .ref tk, .ref tp, .ref ou, .int tm, .int om, al, pt, .ref pg, .int wr])), (tp, .inl (G.2.1 0, 1000, .inl tpf))] H := hP
    have hD : va_D A [(mm, .inr (5, [.ref tp, .int sz, .int y_14, .ref tk, .ref tp, .ref ou, .int tm, .int om, al, pt, .ref pg, .int wr])), (tp, .inl (G.2.1 0, 1000, .inl tpf))] := hD
    refine lv_aload_n hx hb d_M_escaped_63 rfl (lv_at hl 0 rfl) ?_
    refine va_get (D := G.1) (ci := 5) (v := .ref tp) (C := R_M) (T := F_M) (N := 12) hx hb hw i_M hown hE.1 hP 0 rfl rfl 0 (by decide) (hw _ m_453) (fun _ h9 => h9) rfl d_M_escaped_64 ?_
    refine lv_aload_n hx hb d_M_escaped_67 rfl (lv_at hl 0 rfl) ?_
    refine va_get (D := G.1) (ci := 5) (v := .int y_14) (C := R_M) (T := F_M) (N := 12) hx hb hw i_M hown hE.1 hP 0 rfl rfl 2 (by decide) (hw _ m_455) (fun _ h9 => h9) rfl d_M_escaped_68 ?_
    refine lv_iconst (v := 1) hx hb d_M_escaped_71 (by decide) ?_
    refine lv_isub hx hb d_M_escaped_72 ?_
    refine lv_topi (fun y_15 ey_15 => ?_)
    have ty_15 := z_subE ey_15
    refine va_bald hx hb hE.1 hP 1 0 rfl rfl (i := y_15) (z_in (by omega) (by omega)) d_M_escaped_73 ?_
    refine lv_topi (fun y_16 ey_16 => ?_)
    exact ret y_16 (y_14) (Nat.le_of_ble_eq_true rfl) (Nat.le_of_ble_eq_true rfl) d_M_escaped_74 rfl (by first | assumption | trivial | omega | (dsimp only; omega)) (hP.sub [0, 1] rfl) (hD.sub [0, 1] (by decide) rfl) hS
  refine lv_aload_n hx hb d_M_escaped_0 rfl (lv_at hl 0 rfl) ?_
  refine va_get (D := G.1) (ci := 5) (v := .int at0) (C := R_M) (T := F_M) (N := 12) hx hb hw i_M hown hE.1 hP 0 rfl rfl 2 (by decide) (hw _ m_455) (fun _ h9 => h9) rfl d_M_escaped_1 ?_
  refine lv_aload_n hx hb d_M_escaped_4 rfl (lv_at hl 0 rfl) ?_
  refine va_get (D := G.1) (ci := 5) (v := .int sz) (C := R_M) (T := F_M) (N := 12) hx hb hw i_M hown hE.1 hP 0 rfl rfl 1 (by decide) (hw _ m_454) (fun _ h9 => h9) rfl d_M_escaped_5 ?_
  refine lv_icmp_ge (tgt := 75) hx hb d_M_escaped_8 (by decide) (fun c_17 => ?_) (fun c_17 => ?_)
  · have tc_17 := z_le.mp c_17
    exact J_75 at0 (by first | assumption | trivial | omega | (dsimp only; omega)) _ _ (hP.sub [0, 1] rfl) (hD.sub [0, 1] (by decide) rfl) hS _ (lv_sub hl [0] rfl)
  · have tc_17 := z_nle c_17
    refine lv_aload_n hx hb d_M_escaped_11 rfl (lv_at hl 0 rfl) ?_
    refine va_get (D := G.1) (ci := 5) (v := .ref tp) (C := R_M) (T := F_M) (N := 12) hx hb hw i_M hown hE.1 hP 0 rfl rfl 0 (by decide) (hw _ m_453) (fun _ h9 => h9) rfl d_M_escaped_12 ?_
    refine lv_aload_n hx hb d_M_escaped_15 rfl (lv_at hl 0 rfl) ?_
    refine va_get (D := G.1) (ci := 5) (v := .int at0) (C := R_M) (T := F_M) (N := 12) hx hb hw i_M hown hE.1 hP 0 rfl rfl 2 (by decide) (hw _ m_455) (fun _ h9 => h9) rfl d_M_escaped_16 ?_
    refine va_bald hx hb hE.1 hP 1 0 rfl rfl (i := at0) (z_in (by omega) (by omega)) d_M_escaped_19 ?_
    refine lv_topi (fun y_18 ey_18 => ?_)
    refine lv_bipush (v := 40) hx hb d_M_escaped_20 (by decide) ?_
    refine lv_icmp_eq (tgt := 53) hx hb d_M_escaped_22 (by decide) (fun c_19 => ?_) (fun c_19 => ?_)
    · have tl_40 : (40 : Int32).toInt = 40 := by decide
      have tc_19 := congrArg Int32.toInt c_19
      exact J_53 at0 (by first | assumption | trivial | omega | (dsimp only; omega)) (by first | assumption | trivial | omega | (dsimp only; omega)) (by first | assumption | trivial | omega | (dsimp only; omega)) _ _ (hP.sub [0, 1] rfl) (hD.sub [0, 1] (by decide) rfl) hS _ (lv_sub hl [0] rfl)
    · have tl_40 : (40 : Int32).toInt = 40 := by decide
      have tc_19 := z_ne c_19
      refine lv_aload_n hx hb d_M_escaped_25 rfl (lv_at hl 0 rfl) ?_
      refine va_get (D := G.1) (ci := 5) (v := .ref tp) (C := R_M) (T := F_M) (N := 12) hx hb hw i_M hown hE.1 hP 0 rfl rfl 0 (by decide) (hw _ m_453) (fun _ h9 => h9) rfl d_M_escaped_26 ?_
      refine lv_aload_n hx hb d_M_escaped_29 rfl (lv_at hl 0 rfl) ?_
      refine va_get (D := G.1) (ci := 5) (v := .int at0) (C := R_M) (T := F_M) (N := 12) hx hb hw i_M hown hE.1 hP 0 rfl rfl 2 (by decide) (hw _ m_455) (fun _ h9 => h9) rfl d_M_escaped_30 ?_
      refine va_bald hx hb hE.1 hP 1 0 rfl rfl (i := at0) (z_in (by omega) (by omega)) d_M_escaped_33 ?_
      refine lv_topi (fun y_20 ey_20 => ?_)
      refine lv_bipush (v := 41) hx hb d_M_escaped_34 (by decide) ?_
      refine lv_icmp_eq (tgt := 53) hx hb d_M_escaped_36 (by decide) (fun c_21 => ?_) (fun c_21 => ?_)
      · have tl_41 : (41 : Int32).toInt = 41 := by decide
        have tc_21 := congrArg Int32.toInt c_21
        exact J_53 at0 (by first | assumption | trivial | omega | (dsimp only; omega)) (by first | assumption | trivial | omega | (dsimp only; omega)) (by first | assumption | trivial | omega | (dsimp only; omega)) _ _ (hP.sub [0, 1] rfl) (hD.sub [0, 1] (by decide) rfl) hS _ (lv_sub hl [0] rfl)
      · have tl_41 : (41 : Int32).toInt = 41 := by decide
        have tc_21 := z_ne c_21
        refine lv_aload_n hx hb d_M_escaped_39 rfl (lv_at hl 0 rfl) ?_
        refine va_get (D := G.1) (ci := 5) (v := .ref tp) (C := R_M) (T := F_M) (N := 12) hx hb hw i_M hown hE.1 hP 0 rfl rfl 0 (by decide) (hw _ m_453) (fun _ h9 => h9) rfl d_M_escaped_40 ?_
        refine lv_aload_n hx hb d_M_escaped_43 rfl (lv_at hl 0 rfl) ?_
        refine va_get (D := G.1) (ci := 5) (v := .int at0) (C := R_M) (T := F_M) (N := 12) hx hb hw i_M hown hE.1 hP 0 rfl rfl 2 (by decide) (hw _ m_455) (fun _ h9 => h9) rfl d_M_escaped_44 ?_
        refine va_bald hx hb hE.1 hP 1 0 rfl rfl (i := at0) (z_in (by omega) (by omega)) d_M_escaped_47 ?_
        refine lv_topi (fun y_22 ey_22 => ?_)
        refine lv_bipush (v := 92) hx hb d_M_escaped_48 (by decide) ?_
        refine lv_icmp_ne (tgt := 75) hx hb d_M_escaped_50 (by decide) (fun c_23 => ?_) (fun c_23 => ?_)
        · have tl_92 : (92 : Int32).toInt = 92 := by decide
          have tc_23 := z_ne c_23
          exact J_75 at0 (by first | assumption | trivial | omega | (dsimp only; omega)) _ _ (hP.sub [0, 1] rfl) (hD.sub [0, 1] (by decide) rfl) hS _ (lv_sub hl [0] rfl)
        · have tl_92 : (92 : Int32).toInt = 92 := by decide
          have tc_23 := congrArg Int32.toInt c_23
          exact J_53 at0 (by first | assumption | trivial | omega | (dsimp only; omega)) (by first | assumption | trivial | omega | (dsimp only; omega)) (by first | assumption | trivial | omega | (dsimp only; omega)) _ _ (hP.sub [0, 1] rfl) (hD.sub [0, 1] (by decide) rfl) hS _ (lv_sub hl [0] rfl)
