section GB
variable {p : Program} {l : Launch} {e : Env} {R : Room} {s : State} {m : MethodId} {args : Array Value} {below : List Frame} {meth : Method} {c : Code} {H : Heap} {locs : List Loc} {cells slots : Nat} {Q : State → Prop}
variable {cc : ByteArray} {pc : Nat} {ls : Array Slot} {rest : List Value} {A : Nat → Prop} {G : GG} {ws : va_W} {a index : Nat} {own : String}
theorem bb_facts (hE : KE G A s) : ∃ kA kB : Class, s.vm.classes[G.2.1 3]? = some kA ∧ kA.kind = .array (G.2.1 0) (.array .byte) ∧ s.vm.classes[G.2.1 0]? = some kB := by
  obtain ⟨comp, c9, k, h1, -, h3, h4, h5⟩ := arrayOverA_spec hE.2.2.2.2.2.2
  have e1 : s.vm.findClass ("[" ++ FieldType.byte.toString) = some (G.2.1 0) := (hE.1.2 0 _ rfl).2
  have e2 : s.vm.findClass ("[" ++ (FieldType.array .byte).toString) = some (G.2.1 3) := (hE.1.2 3 _ rfl).2
  have q1 : comp = G.2.1 0 := Option.some.inj (h1.symm.trans e1)
  have q2 : c9 = G.2.1 3 := Option.some.inj (h5.symm.trans e2)
  subst q1
  subst q2
  obtain ⟨kB, hkB, -⟩ := Vm.findClass_spec h1
  exact ⟨k, kB, h3, h4, hkB⟩
theorem gc_aldB (hexec : p.tables.exec = Jvm.exec) (hb : c.code = cc) (hE : KE G A s) (hP : va_P G.1 vwCl ws H) (q0 : Nat) {n : Nat} {f : Nat → Option Nat} (ha : ws[q0]? = some (a, .inl (G.2.1 3, n, .inr (.inr (.inr (.inr f)))))) {i : Int32} (hin : vp_in i n) (hdg : decode cc pc = .ok (.aaload, 1))
    (kk : W p l e R s m args below meth c H locs cells slots Q (F0 m (pc + 1) ls (va_rf (f i.toNatClampNeg) :: rest))) : W p l e R s m args below meth c H locs cells slots Q (F0 m pc ls (.int i :: .ref a :: rest)) := by
  have hlt : i.toNatClampNeg < n := Nat.not_le.mp fun q => hin (Or.inr q)
  exact W.aald (v := va_rf (f i.toNatClampNeg)) (ty := .array .byte) hexec hb (hP q0 _ ha) ((hE.1.2 3 _ rfl).1 n (fun j => va_rf (f j))) rfl (fun q => by cases q) (by show ¬ (i < 0 ∨ (arrV _ _ _).slots.size ≤ _); rw [arrV_size]; exact hin) (by show (arrV _ _ _).slots[_]? = _; rw [arrV_read _ _ hlt]) rfl rfl hdg kk
theorem gc_astB (hexec : p.tables.exec = Jvm.exec) (hb : c.code = cc) (hE : KE G A s) (hP : va_P G.1 vwCl ws H) (hD : va_D A ws) (hS : va_S A s.heap H locs) (q0 qk : Nat) {n n2 v : Nat} {f2 : Nat → Int32} {f : Nat → Option Nat} (ha : ws[q0]? = some (a, .inl (G.2.1 3, n, .inr (.inr (.inr (.inr f)))))) (hv : ws[qk]? = some (v, .inl (G.2.1 0, n2, .inl f2))) {i : Int32} (hin : vp_in i n) (hdg : decode cc pc = .ok (.aastore, 1))
    (kk : ∀ (H1 : Heap) (locs1 : List Loc), va_P G.1 vwCl (ws.set q0 (a, .inl (G.2.1 3, n, .inr (.inr (.inr (.inr (va_up f i.toNatClampNeg (some v)))))))) H1 → va_D A (ws.set q0 (a, .inl (G.2.1 3, n, .inr (.inr (.inr (.inr (va_up f i.toNatClampNeg (some v)))))))) → va_S A s.heap H1 locs1 → W p l e R s m args below meth c H1 locs1 cells slots Q (F0 m (pc + 1) ls rest)) : W p l e R s m args below meth c H locs cells slots Q (F0 m pc ls (.ref v :: .int i :: .ref a :: rest)) := by
  have hlt : i.toNatClampNeg < n := Nat.not_le.mp fun q => hin (Or.inr q)
  have h0 : ¬ i < 0 := fun q => hin (Or.inl q)
  obtain ⟨kA, kB, k1, k2, k3⟩ := bb_facts hE
  have hcv : H[v]? = some (vp_cell (G.2.1 0) (n2, .inl f2)) := hP qk _ hv
  refine W.aast hexec hb (hP q0 _ ha) (fun q h => by cases h) (fun h => by cases h) k1 k2 rfl k3 ⟨h0, by show _ < (arrV _ _ _).slots.size; rw [arrV_size]; exact hlt⟩ hcv (fun q h => by cases h) k3 (va_asg _ _) rfl rfl hdg fun H1 e z oq => ?_
  refine kk H1 _ (hP.set hD ha ?_ oq) (hD.set ha) (hS.put z oq (hD.2 q0 _ ha))
  show H1[a]? = some (vp_cell _ _)
  rw [e]
  rw [vp_cell_q, vp_cell_q, arrV_store]
  congr 2
  funext q
  by_cases hq : q = i.toNatClampNeg
  · subst hq
    simp [updV, va_up, va_rf]
  · simp [updV, va_up, hq]
theorem gc_newB (hexec : p.tables.exec = Jvm.exec) (hb : c.code = cc) (hown : s.vm.findClass own = some m.cls) (hclink : (Cond.classLink own index "[B").before args s = true) (hE : KE G A s) (hP : va_P G.1 vwCl ws H) (hD : va_D A ws) (hS : va_S A s.heap H locs) (hA : ∀ q, s.heap.size ≤ q → A q)
    {k : Int32} {N' : Nat} (hn : ¬ k < 0) (hN : k.toNatClampNeg = N') (hbytes : N' * 4 ≤ 536870912) (hcells : cells + 1 ≤ R.cells) (hslots : slots + N' ≤ R.slots) (hdg : decode cc pc = .ok (.anewarray index, 3))
    (kk : ∀ (q : Nat) (H1 : Heap), va_P G.1 vwCl (ws ++ [(q, .inl (G.2.1 3, N', .inr (.inr (.inr (.inr (fun _ => none))))))]) H1 → va_D A (ws ++ [(q, .inl (G.2.1 3, N', .inr (.inr (.inr (.inr (fun _ => none))))))]) → va_S A s.heap H1 locs →
      W p l e R s m args below meth c H1 locs (cells + 1) (slots + N') Q (F0 m (pc + 3) ls (.ref q :: rest))) : W p l e R s m args below meth c H locs cells slots Q (F0 m pc ls (.int k :: rest)) := by
  subst hN
  refine W.anewA (t := .byte) hexec hb hown hclink hE.2.2.2.2.2.2 rfl hdg rfl hn hbytes hcells hslots fun cA kA comp f1 f2 f3 f4 => ?_
  have e2 : s.vm.findClass ("[" ++ (FieldType.array .byte).toString) = some (G.2.1 3) := (hE.1.2 3 _ rfl).2
  have q2 : cA = G.2.1 3 := Option.some.inj (f1.symm.trans e2)
  subst q2
  generalize hH1 : H.push ({ cls := G.2.1 3, slots := Array.replicate k.toNatClampNeg .null, vm := .none } : Cell) = H1
  have z1 : H1.size = H.size + 1 := by rw [← hH1, Array.size_push]
  have e1 : H1[H.size]? = some (arrV (G.2.1 3) k.toNatClampNeg (fun _ => .null)) := by rw [← hH1, Array.getElem?_push_size, ← arrV_new]
  have o1 : ∀ q : Nat, q < H.size → H1[q]? = H[q]? := fun q hq => by rw [← hH1, Array.getElem?_push, if_neg (Nat.ne_of_lt hq)]
  have hk : ∀ (j : Nat) (x : Nat × va_E), ws[j]? = some x → H1[x.1]? = H[x.1]? := fun j x hx => o1 x.1 ((hP j x hx).lt)
  refine kk H.size H1 ((hP.kept hk).app (fun j x hx => ?_)) (hD.push hP rfl (hA _ hS.1)) ⟨Nat.le_trans hS.1 (by omega), fun x h1 h2 => (o1 x (Nat.lt_of_lt_of_le h1 hS.1)).trans (hS.2.1 x h1 h2), hS.2.2⟩
  have hz : j < 1 := (List.getElem?_eq_some_iff.mp hx).1
  rw [show j = 0 by omega] at hx
  cases hx
  show H1[H.size]? = some (vp_cell _ _)
  rw [vp_cell_q]
  exact e1
end GB
theorem cl_lt {x : Int32} {m : Nat} (h0 : 0 ≤ x.toInt) (h : x.toInt < m) : x.toNatClampNeg < m := by
  show x.toInt.toNat < m
  omega
theorem cl_nn {x : Int32} (h0 : 0 ≤ x.toInt) : (x.toNatClampNeg : Int) = x.toInt := by
  show ((x.toInt.toNat : Nat) : Int) = x.toInt
  omega
theorem lo_step {f f2 g : Nat → Option Nat} {x y : Int32} {c : Nat} (h : ∀ j : Nat, (j : Int) < x.toInt → f j = g j) (h0 : 0 ≤ x.toInt) (hy : y.toInt = x.toInt + 1) (hc : g x.toNatClampNeg = some c) (e : f2 = va_up f x.toNatClampNeg (some c)) : ∀ j : Nat, (j : Int) < y.toInt → f2 j = g j := by
  intro j hj
  rw [e]
  have hx := cl_nn h0
  by_cases q : j = x.toNatClampNeg
  · rw [q, hc]; simp [va_up]
  · have h1 : f j = g j := h j (by omega)
    rw [← h1]; simp [va_up, q]
def rm_M_isLike : Room := { frames := 0, cells := 0, slots := 0, locals := 0 }
set_option maxHeartbeats 4000000 in
set_option maxRecDepth 100000 in
theorem c_M_isLike (l : Launch) (G : GG) (a1 : Nat) (n1 : Nat) (f1 : Nat → Int32) (a2 : Nat) (n2 : Nat) (f2 : Nat → Int32) (i : Int32) (n : Int32) (pl : va_W) (m1 : cellB G a1 n1 f1 ∈ pl) (m2 : cellB G a2 n2 f2 ∈ pl) (hr : 0 ≤ i.toInt ∧ 0 ≤ n.toInt ∧ i.toInt + n.toInt ≤ n2 ∧ n2 ≤ 4000 ∧ n1 ≤ 4000) : MI l y_M_isLike b_M_isLike 5 .boolean rm_M_isLike G [.ref a1, .ref a2, .int i, .int n] ([] ++ pl) (fun (v : Int32) (u : Unit) => ((v = 1 ∧ True) ∨ (v = 0 ∧ True))) (fun (u : Unit) => ([] ++ pl)) 0 0 := by
  refine MI.of (cc := b_M_isLike) (maxL := 5) (ty := .boolean) (C := R_M) (by decide +kernel) rfl (Nat.le_of_ble_eq_true rfl) ?_
  intro p e s m args below meth c A Q H ls hx hb hml hown hw hE hA hP hD hS ret hl
  have hl : lv_has ls 5 [(0, .ref a1), (1, .ref a2), (2, .int i), (3, .int n)] := hl
  have hn1 := z_n (n := n1) (by omega)
  have hn2 := z_n (n := n2) (by omega)
  have J_11 : ∀ (fu : Nat) (x4_11 : Int32) (hk0_11 : 0 ≤ x4_11.toInt) (hk1_11 : n.toInt = n1), (n.toInt - x4_11.toInt).toNat < fu → ∀ (H : Heap) (locs : List Loc), va_P G.1 vwCl ([] ++ pl) H → va_D A ([] ++ pl) → va_S A s.heap H locs → ∀ ls : Array Slot, lv_has ls 5 [(4, .int x4_11), (0, .ref a1), (1, .ref a2), (2, .int i), (3, .int n)] → W p l e rm_M_isLike s m args below meth c H locs 0 0 Q (F0 m 11 ls []) := by
    intro fu
    induction fu with
    | zero =>
      intro x4_11 hk0_11 hk1_11 hm
      exact absurd hm (Nat.not_lt_zero _)
    | succ fu ih_11 =>
      intro x4_11 hk0_11 hk1_11 hm_11 H locs hP hD hS ls hl
      refine lv_iload hx hb d_M_isLike_11 (lv_at hl 0 rfl) ?_
      refine lv_iload_n hx hb d_M_isLike_13 rfl (lv_at hl 4 rfl) ?_
      refine lv_icmp_ge (tgt := 38) hx hb d_M_isLike_14 (by decide) (fun c_1 => ?_) (fun c_1 => ?_)
      · have tc_1 := z_le.mp c_1
        refine lv_iconst (v := 1) hx hb d_M_isLike_38 (by decide) ?_
        exact ret 1 () (Nat.le_of_ble_eq_true rfl) (Nat.le_of_ble_eq_true rfl) d_M_isLike_39 rfl (by first | exact Or.inl ⟨rfl, by first | trivial | omega⟩ | exact Or.inr ⟨rfl, by first | trivial | omega⟩) (hP.part (cx := []) [] rfl) (hD.part (cx := []) [] (by decide) rfl) hS
      · have tc_1 := z_nle c_1
        refine lv_aload_n hx hb d_M_isLike_17 rfl (lv_at hl 1 rfl) ?_
        refine lv_iload hx hb d_M_isLike_18 (lv_at hl 0 rfl) ?_
        obtain ⟨k_2, hk_2⟩ := List.getElem?_of_mem (show ((a1, .inl (G.2.1 0, n1, .inl f1)) : Nat × va_E) ∈ ([] ++ pl) from List.mem_append_right _ m1)
        refine va_bald hx hb hE.1 hP k_2 0 hk_2 rfl (i := x4_11) (z_in (by omega) (by omega)) d_M_isLike_20 ?_
        refine lv_topi (fun y_3 ey_3 => ?_)
        refine lv_aload_n hx hb d_M_isLike_21 rfl (lv_at hl 2 rfl) ?_
        refine lv_iload_n hx hb d_M_isLike_22 rfl (lv_at hl 3 rfl) ?_
        refine lv_iload hx hb d_M_isLike_23 (lv_at hl 0 rfl) ?_
        refine lv_iadd hx hb d_M_isLike_25 ?_
        refine lv_topi (fun y_4 ey_4 => ?_)
        have ty_4 := z_addE ey_4
        obtain ⟨k_5, hk_5⟩ := List.getElem?_of_mem (show ((a2, .inl (G.2.1 0, n2, .inl f2)) : Nat × va_E) ∈ ([] ++ pl) from List.mem_append_right _ m2)
        refine va_bald hx hb hE.1 hP k_5 0 hk_5 rfl (i := y_4) (z_in (by omega) (by omega)) d_M_isLike_26 ?_
        refine lv_topi (fun y_6 ey_6 => ?_)
        refine lv_icmp_eq (tgt := 32) hx hb d_M_isLike_27 (by decide) (fun c_7 => ?_) (fun c_7 => ?_)
        · have tc_7 := congrArg Int32.toInt c_7
          obtain ⟨y_8, ey_8⟩ : ∃ y : Int32, y = x4_11 + 1 := ⟨_, rfl⟩
          have tl_1 : (1 : Int32).toInt = 1 := by decide
          have ty_8 := z_addE ey_8
          refine lv_iinc (v := y_8) (lv' := [(4, .int y_8), (0, .ref a1), (1, .ref a2), (2, .int i), (3, .int n)]) hx hb d_M_isLike_32 hl (k := 0) rfl (by rw [ey_8]; rfl) (by decide) rfl (fun ls hl => ?_)
          refine lv_goto (tgt := 11) hx hb d_M_isLike_35 (by decide) ?_
          exact ih_11 y_8 (by first | assumption | trivial | omega | (dsimp only; omega)) hk1_11 (by omega) _ _ (hP.part [] rfl) (hD.part [] (by decide) rfl) hS _ (lv_sub hl [0, 1, 2, 3, 4] rfl)
        · have tc_7 := z_ne c_7
          refine lv_iconst (v := 0) hx hb d_M_isLike_30 (by decide) ?_
          exact ret 0 () (Nat.le_of_ble_eq_true rfl) (Nat.le_of_ble_eq_true rfl) d_M_isLike_31 rfl (by first | exact Or.inl ⟨rfl, by first | trivial | omega⟩ | exact Or.inr ⟨rfl, by first | trivial | omega⟩) (hP.part (cx := []) [] rfl) (hD.part (cx := []) [] (by decide) rfl) hS
  refine lv_aload_n hx hb d_M_isLike_0 rfl (lv_at hl 0 rfl) ?_
  obtain ⟨k_9, hk_9⟩ := List.getElem?_of_mem (show ((a1, .inl (G.2.1 0, n1, .inl f1)) : Nat × va_E) ∈ ([] ++ pl) from List.mem_append_right _ m1)
  refine va_alen (v := nI n1) hx hb hE.1 hP k_9 0 hk_9 rfl rfl d_M_isLike_1 ?_
  refine lv_iload_n hx hb d_M_isLike_2 rfl (lv_at hl 3 rfl) ?_
  refine lv_icmp_eq (tgt := 8) hx hb d_M_isLike_3 (by decide) (fun c_10 => ?_) (fun c_10 => ?_)
  · have tc_10 := congrArg Int32.toInt c_10
    refine lv_iconst (v := 0) hx hb d_M_isLike_8 (by decide) ?_
    refine lv_istore (lv' := [(4, .int 0), (0, .ref a1), (1, .ref a2), (2, .int i), (3, .int n)]) hx hb d_M_isLike_9 hl (by decide) rfl (fun ls hl => ?_)
    have tl_0 : (0 : Int32).toInt = 0 := by decide
    exact J_11 _ 0 (by first | assumption | trivial | omega | (dsimp only; omega)) (by first | assumption | trivial | omega | (dsimp only; omega)) (Nat.lt_succ_self _) _ _ (hP.part [] rfl) (hD.part [] (by decide) rfl) hS _ (lv_sub hl [0, 1, 2, 3, 4] rfl)
  · have tc_10 := z_ne c_10
    refine lv_iconst (v := 0) hx hb d_M_isLike_6 (by decide) ?_
    exact ret 0 () (Nat.le_of_ble_eq_true rfl) (Nat.le_of_ble_eq_true rfl) d_M_isLike_7 rfl (by first | exact Or.inl ⟨rfl, by first | trivial | omega⟩ | exact Or.inr ⟨rfl, by first | trivial | omega⟩) (hP.part (cx := []) [] rfl) (hD.part (cx := []) [] (by decide) rfl) hS
def rm_Part_get_1 : Room := { frames := 1, cells := 0, slots := 0, locals := 24 }
set_option maxHeartbeats 4000000 in
set_option maxRecDepth 100000 in
theorem c_Part_get_1 (l : Launch) (G : GG) (pa : Nat) (kd : Int32) (x : Int32) (y : Int32) (mI : Int32) (mn : Nat) (b0 : Value) (qi : Nat) (nI9 : Nat) (gI : Nat → Option Nat) (qn : Nat) (nN : Nat) (gN : Nat → Option Nat) (ba : Nat) (bn : Nat) (bf : Nat → Int32) (i : Int32) (n : Int32) (pl : va_W) (hself : (pa, .inr (6, [.int kd, .int x, .int y, .int mI, b0, .ref qi, .ref qn])) ∈ pl) (hqi : cellI G qi nI9 gI ∈ pl) (hqn : cellN G qn nN gN ∈ pl) (hba : cellB G ba bn bf ∈ pl) (hm : mI.toInt = mn ∧ mn ≤ nI9 ∧ mn ≤ nN ∧ nI9 ≤ 64 ∧ nN ≤ 64) (hN : ∀ j, j < mn → ∃ c nb f, gN j = some c ∧ cellB G c nb f ∈ pl ∧ nb ≤ 4000) (hr : 0 ≤ i.toInt ∧ 0 ≤ n.toInt ∧ i.toInt + n.toInt ≤ bn ∧ bn ≤ 4000) : MO l y_Part_get b_Part_get 5 (.object "ValueTextsModel$Part") rm_Part_get_1 G [.ref pa, .ref ba, .int i, .int n] ([] ++ pl) (fun (v : Option Nat) (u : Unit) => (v = none ∨ ∃ j, j < mn ∧ v = gI j)) (fun (u : Unit) => ([] ++ pl)) (fun (v : Option Nat) (u : Unit) => 0) (fun (v : Option Nat) (u : Unit) => 0) 0 0 := by
  refine MO.of (cc := b_Part_get) (maxL := 5) (ty := .object "ValueTextsModel$Part") (C := R_Part) (by decide +kernel) rfl (Nat.le_of_ble_eq_true rfl) (Or.inl ⟨_, rfl⟩) ?_
  intro p e s m args below meth c A Q H ls hx hb hml hown hw hE hA hP hD hS ret hl
  have hl : lv_has ls 5 [(0, .ref pa), (1, .ref ba), (2, .int i), (3, .int n)] := hl
  have J_3 : ∀ (fu : Nat) (x4_3 : Int32) (hk0_3 : 0 ≤ x4_3.toInt), (mI.toInt - x4_3.toInt).toNat < fu → ∀ (H : Heap) (locs : List Loc), va_P G.1 vwCl ([] ++ pl) H → va_D A ([] ++ pl) → va_S A s.heap H locs → ∀ ls : Array Slot, lv_has ls 5 [(4, .int x4_3), (0, .ref pa), (1, .ref ba), (2, .int i), (3, .int n)] → W p l e rm_Part_get_1 s m args below meth c H locs 0 0 Q (F0 m 3 ls []) := by
    intro fu
    induction fu with
    | zero =>
      intro x4_3 hk0_3 hm
      exact absurd hm (Nat.not_lt_zero _)
    | succ fu ih_3 =>
      intro x4_3 hk0_3 hm_3 H locs hP hD hS ls hl
      refine lv_iload hx hb d_Part_get_3 (lv_at hl 0 rfl) ?_
      refine lv_aload_n hx hb d_Part_get_5 rfl (lv_at hl 1 rfl) ?_
      obtain ⟨k_1, hk_1⟩ := List.getElem?_of_mem (show ((pa, .inr (6, [.int kd, .int x, .int y, .int mI, b0, .ref qi, .ref qn])) : Nat × va_E) ∈ ([] ++ pl) from List.mem_append_right _ hself)
      refine va_get (D := G.1) (ci := 6) (v := .int mI) (C := R_Part) (T := F_Part) (N := 7) hx hb hw i_Part hown hE.1 hP k_1 hk_1 rfl 3 (by decide) (hw _ m_545) (fun _ h9 => h9) rfl d_Part_get_6 ?_
      refine lv_icmp_ge (tgt := 49) hx hb d_Part_get_9 (by decide) (fun c_2 => ?_) (fun c_2 => ?_)
      · have tc_2 := z_le.mp c_2
        refine lv_null hx hb d_Part_get_49 ?_
        exact ret none () (Nat.le_of_ble_eq_true rfl) (Nat.le_of_ble_eq_true rfl) (Nat.le_of_ble_eq_true rfl) (Nat.le_of_ble_eq_true rfl) d_Part_get_50 (Or.inl rfl) (hP.part (cx := []) [] rfl) (hD.part (cx := []) [] (by decide) rfl) hS
      · have tc_2 := z_nle c_2
        refine lv_aload_n hx hb d_Part_get_12 rfl (lv_at hl 1 rfl) ?_
        obtain ⟨k_3, hk_3⟩ := List.getElem?_of_mem (show ((pa, .inr (6, [.int kd, .int x, .int y, .int mI, b0, .ref qi, .ref qn])) : Nat × va_E) ∈ ([] ++ pl) from List.mem_append_right _ hself)
        refine va_get (D := G.1) (ci := 6) (v := .ref qn) (C := R_Part) (T := F_Part) (N := 7) hx hb hw i_Part hown hE.1 hP k_3 hk_3 rfl 6 (by decide) (hw _ m_550) (fun _ h9 => h9) rfl d_Part_get_13 ?_
        refine lv_ifnull hx hb d_Part_get_16 ?_
        refine lv_aload_n hx hb d_Part_get_19 rfl (lv_at hl 1 rfl) ?_
        obtain ⟨k_4, hk_4⟩ := List.getElem?_of_mem (show ((pa, .inr (6, [.int kd, .int x, .int y, .int mI, b0, .ref qi, .ref qn])) : Nat × va_E) ∈ ([] ++ pl) from List.mem_append_right _ hself)
        refine va_get (D := G.1) (ci := 6) (v := .ref qn) (C := R_Part) (T := F_Part) (N := 7) hx hb hw i_Part hown hE.1 hP k_4 hk_4 rfl 6 (by decide) (hw _ m_550) (fun _ h9 => h9) rfl d_Part_get_20 ?_
        refine lv_iload hx hb d_Part_get_23 (lv_at hl 0 rfl) ?_
        obtain ⟨k_5, hk_5⟩ := List.getElem?_of_mem (show ((qn, .inl (G.2.1 3, nN, .inr (.inr (.inr (.inr gN))))) : Nat × va_E) ∈ ([] ++ pl) from List.mem_append_right _ hqn)
        refine gc_aldB hx hb hE hP k_5 hk_5 (i := x4_3) (z_in (by omega) (by omega)) d_Part_get_25 ?_
        obtain ⟨c9, nb9, f9, hc9, hb9, hl9⟩ := hN _ (cl_lt (x := x4_3) (by omega) (by omega))
        rw [hc9]
        refine lv_aload_n hx hb d_Part_get_26 rfl (lv_at hl 2 rfl) ?_
        refine lv_iload_n hx hb d_Part_get_27 rfl (lv_at hl 3 rfl) ?_
        refine lv_iload_n hx hb d_Part_get_28 rfl (lv_at hl 4 rfl) ?_
        refine gp_i (X := []) (cx := []) (wr := []) (pl := ([] ++ pl)) (rx := fun (_ : Unit) => []) (pl1 := fun (_ : Unit) => ([] ++ pl)) (gh_SN (wc := ([] ++ ([] ++ pl))) (As := [.ref c9, .ref ba, .int i, .int n]) (rest := []) ⟨hx, hb, hml, hown, hw⟩ (c_M_isLike l G c9 nb9 f9 ba bn bf i n ([] ++ pl) (List.mem_append_right _ hb9) (List.mem_append_right _ hba) (by first | assumption | trivial | omega | (dsimp only; omega)) H.size) ⟨va_cnB 4 hw (good_U m_628) rfl rfl rfl hE.2.2.2.2.1 (hw _ m_4) hy_M_isLike.2 ⟨Nat.le_of_ble_eq_true rfl, Nat.le_of_ble_eq_true rfl⟩, hw _ m_627, trivial⟩ (gp_here (X := []) (cx := []) (pl := ([] ++ pl)) hE hP hD hS hA [] rfl (by decide)) rfl hl rfl (Nat.le_of_ble_eq_true rfl) d_Part_get_29 ⟨Nat.le_of_ble_eq_true rfl, Nat.le_of_ble_eq_true rfl⟩) hP hD hS hA [] [] rfl rfl (by decide) (by decide) (fun r_6 u_7 H locs hw_8 hP hD hS => ?_)
        try dsimp only at hw_8
        have h_9 := hw_8
        have hP : va_P G.1 vwCl ([] ++ pl) H := hP
        have hD : va_D A ([] ++ pl) := hD
        refine lv_if_eq (tgt := 43) hx hb d_Part_get_32 (by decide) (fun c_10 => ?_) (fun c_10 => ?_)
        · have tc_10 := bool_f h_9 c_10
          obtain ⟨y_11, ey_11⟩ : ∃ y : Int32, y = x4_3 + 1 := ⟨_, rfl⟩
          have tl_1 : (1 : Int32).toInt = 1 := by decide
          have ty_11 := z_addE ey_11
          refine lv_iinc (v := y_11) (lv' := [(4, .int y_11), (0, .ref pa), (1, .ref ba), (2, .int i), (3, .int n)]) hx hb d_Part_get_43 hl (k := 0) rfl (by rw [ey_11]; rfl) (by decide) rfl (fun ls hl => ?_)
          refine lv_goto (tgt := 3) hx hb d_Part_get_46 (by decide) ?_
          exact ih_3 y_11 (by first | assumption | trivial | omega | (dsimp only; omega)) (by omega) _ _ (hP.part [] rfl) (hD.part [] (by decide) rfl) hS _ (lv_sub hl [0, 1, 2, 3, 4] rfl)
        · have tc_10 := bool_t h_9 c_10
          refine lv_aload_n hx hb d_Part_get_35 rfl (lv_at hl 1 rfl) ?_
          obtain ⟨k_12, hk_12⟩ := List.getElem?_of_mem (show ((pa, .inr (6, [.int kd, .int x, .int y, .int mI, b0, .ref qi, .ref qn])) : Nat × va_E) ∈ ([] ++ pl) from List.mem_append_right _ hself)
          refine va_get (D := G.1) (ci := 6) (v := .ref qi) (C := R_Part) (T := F_Part) (N := 7) hx hb hw i_Part hown hE.1 hP k_12 hk_12 rfl 5 (by decide) (hw _ m_548) (fun _ h9 => h9) rfl d_Part_get_36 ?_
          refine lv_iload hx hb d_Part_get_39 (lv_at hl 0 rfl) ?_
          obtain ⟨k_13, hk_13⟩ := List.getElem?_of_mem (show ((qi, .inl (G.2.1 2, nI9, .inr (.inr (.inr (.inr gI))))) : Nat × va_E) ∈ ([] ++ pl) from List.mem_append_right _ hqi)
          refine va_aldq hx hb hE.1 hP k_13 2 hk_13 rfl (i := x4_3) (z_in (by omega) (by omega)) d_Part_get_41 ?_
          exact ret (gI x4_3.toNatClampNeg) () (Nat.le_of_ble_eq_true rfl) (Nat.le_of_ble_eq_true rfl) (Nat.le_of_ble_eq_true rfl) (Nat.le_of_ble_eq_true rfl) d_Part_get_42 (Or.inr ⟨_, cl_lt (by omega) (by omega), rfl⟩) (hP.part (cx := []) [] rfl) (hD.part (cx := []) [] (by decide) rfl) hS
  refine lv_iconst (v := 0) hx hb d_Part_get_0 (by decide) ?_
  refine lv_istore (lv' := [(4, .int 0), (0, .ref pa), (1, .ref ba), (2, .int i), (3, .int n)]) hx hb d_Part_get_1 hl (by decide) rfl (fun ls hl => ?_)
  have tl_0 : (0 : Int32).toInt = 0 := by decide
  exact J_3 _ 0 (by first | assumption | trivial | omega | (dsimp only; omega)) (Nat.lt_succ_self _) _ _ (hP.part [] rfl) (hD.part [] (by decide) rfl) hS _ (lv_sub hl [0, 1, 2, 3, 4] rfl)
def rm_M_longer : Room := { frames := 0, cells := 1, slots := 64, locals := 0 }
set_option maxHeartbeats 4000000 in
set_option maxRecDepth 100000 in
theorem c_M_longer (l : Launch) (G : GG) (ra : Nat) (nr : Nat) (gr : Nat → Option Nat) (pl : va_W) (hnr : 1 ≤ nr ∧ nr ≤ 32) (hgr : ∀ j, j < nr → ∃ c fs, gr j = some c ∧ (c, .inr (6, fs)) ∈ pl) : MR l y_M_longer b_M_longer 3 (.array (.object "ValueTextsModel$Part")) rm_M_longer G [.ref ra] ([(ra, .inl (G.2.1 2, nr, .inr (.inr (.inr (.inr gr)))))] ++ pl) (fun (v : Nat) (u : Nat × (Nat → Option Nat)) => (u.1 = v) ∧ (∀ j, j < nr → u.2 j = gr j)) (fun (u : Nat × (Nat → Option Nat)) => ([(ra, .inl (G.2.1 2, nr, .inr (.inr (.inr (.inr gr))))), (u.1, .inl (G.2.1 2, (2 * nr), .inr (.inr (.inr (.inr u.2)))))] ++ pl)) 1 64 := by
  refine MR.of (cc := b_M_longer) (maxL := 3) (ty := .array (.object "ValueTextsModel$Part")) (C := R_M) (by decide +kernel) rfl (Nat.le_of_ble_eq_true rfl) (Or.inr ⟨_, rfl⟩) ?_
  intro p e s m args below meth c A Q H ls hx hb hml hown hw hE hA hP hD hS ret hl
  have hl : lv_has ls 3 [(0, .ref ra)] := hl
  have hn1 := z_n (n := nr) (by omega)
  have J_10 : ∀ (fu : Nat) (x2_10 : Int32) (qx0_10 : Nat) (fx0_10 : Nat → Option Nat) (hk0_10 : 0 ≤ x2_10.toInt ∧ x2_10.toInt ≤ nr) (hk1_10 : ∀ j : Nat, (j : Int) < x2_10.toInt → fx0_10 j = gr j), (nr - x2_10.toInt).toNat < fu → ∀ (H : Heap) (locs : List Loc), va_P G.1 vwCl ([(ra, .inl (G.2.1 2, nr, .inr (.inr (.inr (.inr gr))))), (qx0_10, .inl (G.2.1 2, (2 * nr), .inr (.inr (.inr (.inr fx0_10)))))] ++ pl) H → va_D A ([(ra, .inl (G.2.1 2, nr, .inr (.inr (.inr (.inr gr))))), (qx0_10, .inl (G.2.1 2, (2 * nr), .inr (.inr (.inr (.inr fx0_10)))))] ++ pl) → va_S A s.heap H locs → ∀ ls : Array Slot, lv_has ls 3 [(2, .int x2_10), (1, .ref qx0_10), (0, .ref ra)] → W p l e rm_M_longer s m args below meth c H locs 1 64 Q (F0 m 10 ls []) := by
    intro fu
    induction fu with
    | zero =>
      intro x2_10 qx0_10 fx0_10 hk0_10 hk1_10 hm
      exact absurd hm (Nat.not_lt_zero _)
    | succ fu ih_10 =>
      intro x2_10 qx0_10 fx0_10 hk0_10 hk1_10 hm_10 H locs hP hD hS ls hl
      refine lv_iload_n hx hb d_M_longer_10 rfl (lv_at hl 0 rfl) ?_
      refine lv_aload_n hx hb d_M_longer_11 rfl (lv_at hl 2 rfl) ?_
      refine va_alen (v := nI nr) hx hb hE.1 hP 0 2 rfl rfl rfl d_M_longer_12 ?_
      refine lv_icmp_ge (tgt := 28) hx hb d_M_longer_13 (by decide) (fun c_1 => ?_) (fun c_1 => ?_)
      · have tc_1 := z_le.mp c_1
        refine lv_aload_n hx hb d_M_longer_28 rfl (lv_at hl 1 rfl) ?_
        exact ret qx0_10 (qx0_10, fx0_10) (Nat.le_of_ble_eq_true rfl) (Nat.le_of_ble_eq_true rfl) d_M_longer_29 ⟨rfl, (fun j hj => by first | exact hk1_10 j (by omega))⟩ (hP.part (cx := [(ra, .inl (G.2.1 2, nr, .inr (.inr (.inr (.inr gr))))), (qx0_10, .inl (G.2.1 2, (2 * nr), .inr (.inr (.inr (.inr fx0_10)))))]) [0, 1] rfl) (hD.part (cx := [(ra, .inl (G.2.1 2, nr, .inr (.inr (.inr (.inr gr))))), (qx0_10, .inl (G.2.1 2, (2 * nr), .inr (.inr (.inr (.inr fx0_10)))))]) [0, 1] (by decide) rfl) hS
      · have tc_1 := z_nle c_1
        refine lv_aload_n hx hb d_M_longer_16 rfl (lv_at hl 1 rfl) ?_
        refine lv_iload_n hx hb d_M_longer_17 rfl (lv_at hl 0 rfl) ?_
        refine lv_aload_n hx hb d_M_longer_18 rfl (lv_at hl 2 rfl) ?_
        refine lv_iload_n hx hb d_M_longer_19 rfl (lv_at hl 0 rfl) ?_
        refine va_aldq hx hb hE.1 hP 0 2 rfl rfl (i := x2_10) (z_in (by omega) (by omega)) d_M_longer_20 ?_
        obtain ⟨c9, fs9, hc9, hm9⟩ := hgr _ (cl_lt (x := x2_10) (by omega) (by omega))
        rw [hc9]
        obtain ⟨k_2, hk_2⟩ := List.getElem?_of_mem (show ((c9, .inr (6, fs9)) : Nat × va_E) ∈ ([(ra, .inl (G.2.1 2, nr, .inr (.inr (.inr (.inr gr))))), (qx0_10, .inl (G.2.1 2, (2 * nr), .inr (.inr (.inr (.inr fx0_10)))))] ++ pl) from List.mem_append_right _ hm9)
        refine va_astq hx hb hE.1 hP hD hS 1 2 k_2 6 rfl rfl hk_2 rfl (i := x2_10) (z_in (by omega) (by omega)) d_M_longer_21 (fun H locs hP hD hS => ?_)
        obtain ⟨g_3, eg_3⟩ : ∃ y : Nat → Option Nat, y = va_up fx0_10 x2_10.toNatClampNeg (some c9) := ⟨_, rfl⟩
        rw [← eg_3] at hP hD
        have hP : va_P G.1 vwCl ([(ra, .inl (G.2.1 2, nr, .inr (.inr (.inr (.inr gr))))), (qx0_10, .inl (G.2.1 2, (2 * nr), .inr (.inr (.inr (.inr g_3)))))] ++ pl) H := hP
        have hD : va_D A ([(ra, .inl (G.2.1 2, nr, .inr (.inr (.inr (.inr gr))))), (qx0_10, .inl (G.2.1 2, (2 * nr), .inr (.inr (.inr (.inr g_3)))))] ++ pl) := hD
        obtain ⟨y_4, ey_4⟩ : ∃ y : Int32, y = x2_10 + 1 := ⟨_, rfl⟩
        have tl_1 : (1 : Int32).toInt = 1 := by decide
        have ty_4 := z_addE ey_4
        refine lv_iinc (v := y_4) (lv' := [(2, .int y_4), (1, .ref qx0_10), (0, .ref ra)]) hx hb d_M_longer_22 hl (k := 0) rfl (by rw [ey_4]; rfl) (by decide) rfl (fun ls hl => ?_)
        refine lv_goto (tgt := 10) hx hb d_M_longer_25 (by decide) ?_
        exact ih_10 y_4 qx0_10 g_3 (by first | assumption | trivial | omega | (dsimp only; omega)) (lo_step hk1_10 (by omega) (by omega) hc9 (by assumption)) (by omega) _ _ (hP.part [0, 1] rfl) (hD.part [0, 1] (by decide) rfl) hS _ (lv_sub hl [0, 1, 2] rfl)
  refine lv_iconst (v := 2) hx hb d_M_longer_0 (by decide) ?_
  refine lv_aload_n hx hb d_M_longer_1 rfl (lv_at hl 0 rfl) ?_
  refine va_alen (v := nI nr) hx hb hE.1 hP 0 2 rfl rfl rfl d_M_longer_2 ?_
  refine lv_imul hx hb d_M_longer_3 ?_
  refine lv_topi (fun y_5 ey_5 => ?_)
  have tl_2 : (2 : Int32).toInt = 2 := by decide
  have ty_5 := z_mulL (k := 2) (by decide) ey_5
  refine gc_newq (N' := (2 * nr)) hx hb hown (hw _ m_535) hE hP hD hS hA (z_nn (by omega)) (cl_of (by omega)) (by show (2 * nr) * 4 ≤ 536870912; omega) (Nat.le_of_ble_eq_true rfl) (by show 0 + 2 * nr ≤ 64; omega) d_M_longer_4 (fun q_6 H hP hD hS => ?_)
  have hP := pl_front hP
  have hD := pl_frontD hD
  have hP : va_P G.1 vwCl ([(ra, .inl (G.2.1 2, nr, .inr (.inr (.inr (.inr gr))))), (q_6, .inl (G.2.1 2, (2 * nr), .inr (.inr (.inr (.inr (fun _ => none))))))] ++ pl) H := hP
  have hD : va_D A ([(ra, .inl (G.2.1 2, nr, .inr (.inr (.inr (.inr gr))))), (q_6, .inl (G.2.1 2, (2 * nr), .inr (.inr (.inr (.inr (fun _ => none))))))] ++ pl) := hD
  refine W.widen (k := 1) (n := 64) (Nat.le_refl _) (by omega) ?_
  refine lv_astore_n (lv' := [(1, .ref q_6), (0, .ref ra)]) hx hb d_M_longer_7 rfl hl (by decide) rfl (fun ls hl => ?_)
  refine lv_iconst (v := 0) hx hb d_M_longer_8 (by decide) ?_
  refine lv_istore_n (lv' := [(2, .int 0), (1, .ref q_6), (0, .ref ra)]) hx hb d_M_longer_9 rfl hl (by decide) rfl (fun ls hl => ?_)
  have tl_0 : (0 : Int32).toInt = 0 := by decide
  exact J_10 _ 0 q_6 (fun _ => none) (by first | assumption | trivial | omega | (dsimp only; omega)) (fun j hj => absurd hj (by rw [z_0]; omega)) (Nat.lt_succ_self _) _ _ (hP.part [0, 1] rfl) (hD.part [0, 1] (by decide) rfl) hS _ (lv_sub hl [0, 1, 2] rfl)
