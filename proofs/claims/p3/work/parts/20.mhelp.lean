/-! how the heap grows: cells, and slots in all -/
def TS (H : Heap) : Nat := H.foldl (fun n c => n + c.slots.size) 0
def Gr (H H1 : Heap) (k n : Nat) : Prop := H1.size ≤ H.size + k ∧ TS H1 ≤ TS H + n
theorem Gr.tr {A B C : Heap} {k n k' n' : Nat} (h1 : Gr A B k n) (h2 : Gr B C k' n') : Gr A C (k + k') (n + n') := by
  have a1 := h1.1
  have a2 := h2.1
  have b1 := h1.2
  have b2 := h2.2
  exact ⟨by omega, by omega⟩
theorem ts_true {s : State} (h : s.slotsTrue = true) : s.slotsUsed = TS s.heap := by
  have h1 : (s.slotsUsed == s.heap.foldl (fun n c => n + c.slots.size) 0) = true := h
  exact eq_of_beq h1
section GRS
variable {p : Program} {l : Launch} {e : Env} {R : Room} {s : State} {m : MethodId} {args : Array Value} {below : List Frame} {meth : Method} {c : Code} {H : Heap} {locs : List Loc} {cells slots : Nat} {Q : State → Prop}
theorem stand_true {T : State} (X : Stand p l e R s m args below meth c T locs cells slots) : s.slotsTrue = true := by
  have h := X.room
  simp only [State.hasRoom, Bool.and_eq_true] at h
  exact h.2
theorem gr_stand {T : State} (X : Stand p l e R s m args below meth c T locs cells slots) : Gr s.heap T.heap cells slots := by
  refine ⟨X.heapSize, ?_⟩
  have h := X.used
  rw [ts_true X.book, ts_true (stand_true X)] at h
  exact h
theorem gr_with {g : JFrame} (f : Gr s.heap H cells slots → W p l e R s m args below meth c H locs cells slots Q g) : W p l e R s m args below meth c H locs cells slots Q g := fun T hT X => f (by rw [← hT]; exact gr_stand X) T hT X
theorem gr_narrow {g : JFrame} {k n : Nat} (h : Gr s.heap H k n) (kk : W p l e R s m args below meth c H locs k n Q g) : W p l e R s m args below meth c H locs cells slots Q g := by
  intro T hT X
  refine kk T hT { X with same := ⟨X.same.1, X.same.2.1, ?_, X.same.2.2.2.1, ?_, X.same.2.2.2.2.2⟩ }
  · show T.heap.size ≤ _
    rw [hT]
    exact h.1
  · have h1 : T.slotsUsed = s.slotsUsed + _ := X.same.2.2.2.1
    rw [ts_true X.book, ts_true (stand_true X), hT] at h1
    have h2 := h.2
    omega
end GRS
/-! contracts that answer a reference or null; how much has come is told by the answer -/
def gQ (G : GG) {S : Type} (post : Option Nat → S → Prop) (w1 : S → va_W) (cu nu : Option Nat → S → Nat) (A : Nat → Prop) : Array Value → State → Outcome → State → Prop := fun _ st oc t => (∃ (r : Option Nat) (u : S), oc = .returned (some (va_rf r)) ∧ (post r u ∧ Gr st.heap t.heap (cu r u) (nu r u)) ∧ gB G w1 A u t) ∧ va_F A st t
def MO (l : Launch) (y : MethodName) (cc : ByteArray) (maxL : Nat) (ty : FieldType) (rm : Room) (G : GG) (av : List Value) (cells : va_W) {S : Type} (post : Option Nat → S → Prop) (w1 : S → va_W) (cu nu : Option Nat → S → Nat) (mc ms : Nat) : Prop :=
  ∀ sz : Nat, Met l y (wsU y cc maxL (some ty)) rm (gP G av cells sz) (gQ G post w1 cu nu (va_A cells sz)) mc ms (va_A cells sz)
set_option maxHeartbeats 1000000 in
theorem MO.of {l : Launch} {y : MethodName} {rm : Room} {G : GG} {av : List Value} {cells : va_W} {S : Type} {post : Option Nat → S → Prop} {w1 : S → va_W} {cu nu : Option Nat → S → Nat} {mc ms : Nat} {cc : ByteArray} {maxL : Nat} {ty : FieldType} {C : String}
    (hy : plainName y.cls = true) (hC : y.cls = C) (hlen : (lg_sl av).length ≤ maxL) (hty : (∃ n, ty = .object n) ∨ ∃ t, ty = .array t)
    (body : ∀ (p : Program) (e : Env) (s : State) (m : MethodId) (args : Array Value) (below : List Frame) (meth : Method) (c : Code) (A : Nat → Prop) (Q : State → Prop) (H : Heap) (ls : Array Slot),
      p.tables.exec = Jvm.exec → c.code = cc → c.maxLocals = maxL → s.vm.findClass C = some m.cls → (∀ w ∈ bigW, w.before args s = true) → KE G A s → (∀ q, s.heap.size ≤ q → A q) → va_P G.1 vwCl cells H → va_D A cells → va_S A s.heap H [] →
      (∀ {pc : Nat} {ls : Array Slot} {H : Heap} {locs : List Loc} {k n : Nat} (r : Option Nat) (u : S), k ≤ cu r u → n ≤ nu r u → cu r u ≤ mc → nu r u ≤ ms → decode cc pc = .ok (.areturn, 1) → post r u → va_P G.1 vwCl (w1 u) H → va_D A (w1 u) → va_S A s.heap H locs → W p l e rm s m args below meth c H locs k n Q (F0 m pc ls [va_rf r])) →
      lv_has ls maxL (lv_args 0 av) → W p l e rm s m args below meth c H [] 0 0 Q (F0 m 0 ls [])) : MO l y cc maxL ty rm G av cells post w1 cu nu mc ms := by
  intro sz
  refine Met.ofW (cc := cc) (maxL := maxL) (ret := some ty) hy rfl ?_
  intro p e s m args below meth c s₁ B hml hv
  obtain ⟨rfl, hsz, hP, hD0, hE⟩ := hv
  have hlocks := B.notSynchronized
  subst hsz
  rw [lg_entry_eq]
  refine body p e s m _ below meth c (va_A cells s.heap.size) _ s.heap _ B.exec B.bytes hml (by rw [← hC]; exact findClass_of_methodNamed B.named) (fun w h => atoms_spec B.pre w (List.mem_cons_of_mem _ h)) hE (fun q h => Or.inr h) hP hD0.self va_S.rf ?_ (lv_entry av hlen)
  intro pc ls H locs k n r u hk hn hk2 hn2 hd hpost hP' hD' hS'
  refine gr_with (fun hg => ?_)
  refine W.widen (Nat.le_trans hk hk2) (Nat.le_trans hn hn2) ?_
  have hg2 : Gr s.heap H (cu r u) (nu r u) := ⟨Nat.le_trans hg.1 (Nat.add_le_add_left hk _), Nat.le_trans hg.2 (Nat.add_le_add_left hn _)⟩
  refine W.aret B.exec B.bytes B.returns hty ?_ (fun t ht hW => ⟨⟨r, u, rfl, ⟨hpost, by rw [ht]; exact hg2⟩, by rw [ht]; exact hP', hD'⟩, hS'.F ht⟩) hS'.2.2 hd
  cases r with
  | none => exact Or.inl rfl
  | some a => exact Or.inr ⟨a, rfl⟩
/-! worlds with a pool behind them -/
theorem pl_front {D : va_G} {X pl : va_W} {q : Nat × va_E} {H : Heap} (h : va_P D vwCl ((X ++ pl) ++ [q]) H) : va_P D vwCl ((X ++ [q]) ++ pl) H := by
  intro k z hk
  have hm : z ∈ (X ++ [q]) ++ pl := List.mem_of_getElem? hk
  have hm2 : z ∈ (X ++ pl) ++ [q] := by
    simp only [List.mem_append] at hm ⊢
    rcases hm with (h1 | h1) | h1
    · exact Or.inl (Or.inl h1)
    · exact Or.inr h1
    · exact Or.inl (Or.inr h1)
  obtain ⟨j, hj⟩ := List.getElem?_of_mem hm2
  exact h j z hj
theorem pl_mem {D : va_G} {ws : va_W} {q : Nat × va_E} {H : Heap} (h : va_P D vwCl ws H) (hq : q ∈ ws) : va_at D vwCl q H := by
  obtain ⟨j, hj⟩ := List.getElem?_of_mem hq
  exact h j q hj
theorem pl_ix {X pl : va_W} {q : Nat × va_E} (k : Nat) (z : Nat × va_E) (hk : ((X ++ [q]) ++ pl)[k]? = some z) : ((X ++ pl) ++ [q])[if k < X.length then k else if k = X.length then X.length + pl.length else k - 1]? = some z := by
  by_cases h1 : k < X.length
  · rw [if_pos h1]
    rw [List.getElem?_append_left (by simp; omega), List.getElem?_append_left h1] at hk
    rw [List.getElem?_append_left (by simp; omega), List.getElem?_append_left h1]
    exact hk
  · rw [if_neg h1]
    by_cases h2 : k = X.length
    · rw [if_pos h2]
      subst h2
      rw [List.getElem?_append_left (by simp), List.getElem?_append_right (by omega)] at hk
      rw [List.getElem?_append_right (by simp)]
      simpa using hk
    · rw [if_neg h2]
      rw [List.getElem?_append_right (by simp; omega)] at hk
      have hl : k - (X ++ [q]).length < pl.length := (List.getElem?_eq_some_iff.mp hk).1
      have e : k - (X ++ [q]).length = k - 1 - X.length := by simp; omega
      rw [e] at hk hl
      rw [List.getElem?_append_left (by simp; omega), List.getElem?_append_right (by omega)]
      exact hk
theorem pl_frontD {A : Nat → Prop} {X pl : va_W} {q : Nat × va_E} (h : va_D A ((X ++ pl) ++ [q])) : va_D A ((X ++ [q]) ++ pl) := by
  refine ⟨fun i j x y hi hj hxy => ?_, fun k z hk => h.2 _ z (pl_ix k z hk)⟩
  have e := h.1 _ _ x y (pl_ix i x hi) (pl_ix j y hj) hxy
  have li : i < ((X ++ [q]) ++ pl).length := (List.getElem?_eq_some_iff.mp hi).1
  have lj : j < ((X ++ [q]) ++ pl).length := (List.getElem?_eq_some_iff.mp hj).1
  simp only [List.length_append, List.length_cons, List.length_nil] at li lj
  by_cases a1 : i < X.length
  · by_cases b1 : j < X.length
    · simpa [a1, b1] using e
    · by_cases b2 : j = X.length
      · simp only [a1, b1, b2, if_true, if_false] at e; simp at e; omega
      · simp only [a1, b1, b2, if_true, if_false] at e; omega
  · by_cases a2 : i = X.length
    · by_cases b1 : j < X.length
      · simp only [a1, a2, b1, if_true, if_false] at e; simp at e; omega
      · by_cases b2 : j = X.length
        · omega
        · simp only [a1, a2, b1, b2, if_true, if_false] at e; simp at e; omega
    · by_cases b1 : j < X.length
      · simp only [a1, a2, b1, if_true, if_false] at e; omega
      · by_cases b2 : j = X.length
        · simp only [a1, a2, b1, b2, if_true, if_false] at e; simp at e; omega
        · simp only [a1, a2, b1, b2, if_false] at e; omega
section GH
variable {p : Program} {l : Launch} {e : Env} {R : Room} {s : State} {m : MethodId} {args : Array Value} {below : List Frame} {meth : Method} {c : Code} {H : Heap} {locs : List Loc} {cells slots : Nat} {Q : State → Prop}
variable {cc : ByteArray} {pc : Nat} {ls : Array Slot} {rest : List Value} {A : Nat → Prop} {G : GG} {X cx wr ws wc pl : va_W}
variable {y : MethodName} {bytes : ByteArray} {maxL nL mc ms n index : Nat} {ret : Option FieldType} {wy : List Cond} {rm : Room} {Ts : List Cond} {own C host : String} {b : Nat} {As st0 : List Value} {lv : List (Nat × Value)}
variable {Qc : Array Value → State → Outcome → State → Prop} {a : Array Value}
/-- the callee's start, where it gets the pool too -/
theorem gp_here {av : List Value} (hE : KE G A s) (hP : va_P G.1 vwCl (X ++ pl) H) (hD : va_D A (X ++ pl)) (hS : va_S A s.heap H locs) (hA : ∀ q, s.heap.size ≤ q → A q) (isC : List Nat) (hC : isC.map (fun i => X[i]?) = cx.map some) (hnC : va_nd isC = true) : ∀ U : State, U.heap = H → s.WarmedH U.vm → gP G av (cx ++ pl) H.size av.toArray U := by
  intro U hU hW
  have hFc := va_freeP (cx := cx) hD hS hA isC hC
  refine ⟨rfl, by rw [hU], by rw [hU]; exact hP.part isC hC, (hD.part isC hnC hC).weaken (fun _ _ _ _ => trivial), KE.go hE hS hFc hU hW⟩
theorem gh_V (S : CallFix p m c cc nL s args Ts own) (hM : Met l y wy rm (gP G (.ref b :: As) wc H.size) Qc mc ms (va_A wc H.size)) (cw : CallW R s args own C index y bytes maxL ret wy rm mc ms n) (hh : ∀ U : State, U.heap = H → s.WarmedH U.vm → gP G (.ref b :: As) wc H.size (Value.ref b :: As).toArray U)
    (hrecv : ∃ cellB : Cell, H[b]? = some cellB ∧ cellB.vm.isStatics = false ∧ s.vm.findClass C = some cellB.cls)
    (hn : As.length = n) (hl : lv_has ls nL lv) (hst : st0 = As.reverse ++ .ref b :: rest) (hro : (rest.map fun v => v.category).sum ≤ 8) (hdg : decode cc pc = .ok (.invokevirtual index, 3)) (hf : cells + mc ≤ R.cells ∧ slots + ms ≤ R.slots) :
    va_Run p l e R s m args below meth c H locs cells slots mc ms (F0 m pc ls st0) rest (Qc (Value.ref b :: As).toArray) (va_A wc H.size) :=
  va_runV (As := As) (rest := rest) S hM cw ⟨gP.blind, hrecv, hh⟩ rfl hn hl.1 hst (lv_room hro) hdg hf
theorem gh_S (S : CallFix p m c cc nL s args Ts own) (hM : Met l y wy rm (gP G As wc H.size) Qc mc ms (va_A wc H.size)) (cw : CallB R s args own index y bytes maxL ret wy rm mc ms n ∧ (Cond.static y).before args s = true) (hh : ∀ U : State, U.heap = H → s.WarmedH U.vm → gP G As wc H.size As.toArray U)
    (hn : As.length = n) (hl : lv_has ls nL lv) (hst : st0 = As.reverse ++ rest) (hro : (rest.map fun v => v.category).sum ≤ 8) (hdg : decode cc pc = .ok (.invokestatic index, 3)) (hf : cells + mc ≤ R.cells ∧ slots + ms ≤ R.slots) :
    va_Run p l e R s m args below meth c H locs cells slots mc ms (F0 m pc ls st0) rest (Qc As.toArray) (va_A wc H.size) :=
  va_runS (As := As) (rest := rest) S hM cw ⟨gP.blind, hh⟩ rfl hn hl.1 hst (lv_room hro) hdg hf
theorem gh_SN (S : CallFix p m c cc nL s args Ts own) (hM : Met l y wy rm (gP G As wc H.size) Qc mc ms (va_A wc H.size)) (cw : va_CN R s args own index y host bytes maxL ret wy rm mc ms n ∧ (Cond.static y).before args s = true ∧ True) (hh : ∀ U : State, U.heap = H → s.WarmedH U.vm → gP G As wc H.size As.toArray U)
    (hn : As.length = n) (hl : lv_has ls nL lv) (hst : st0 = As.reverse ++ rest) (hro : (rest.map fun v => v.category).sum ≤ 8) (hdg : decode cc pc = .ok (.invokestatic index, 3)) (hf : cells + mc ≤ R.cells ∧ slots + ms ≤ R.slots) :
    va_Run p l e R s m args below meth c H locs cells slots mc ms (F0 m pc ls st0) rest (Qc As.toArray) (va_A wc H.size) :=
  va_runSN (As := As) (rest := rest) S hM cw ⟨gP.blind, hh⟩ rfl hn hl.1 hst (lv_room hro) hdg hf
theorem gh_I (S : CallFix p m c cc nL s args Ts own) (hM : Met l y wy rm (gP G (.ref b :: As) wc H.size) Qc mc ms (va_A wc H.size)) (cw : CallB R s args own index y bytes maxL none wy rm mc ms n ∧ y.name = "<init>" ∧ (Cond.instanceMethod y).before args s = true) (hh : ∀ U : State, U.heap = H → s.WarmedH U.vm → gP G (.ref b :: As) wc H.size (Value.ref b :: As).toArray U)
    (hn : As.length = n) (hl : lv_has ls nL lv) (hst : st0 = As.reverse ++ .ref b :: rest) (hro : (rest.map fun v => v.category).sum ≤ 8) (hdg : decode cc pc = .ok (.invokespecial index, 3)) (hf : cells + mc ≤ R.cells ∧ slots + ms ≤ R.slots) :
    va_Run p l e R s m args below meth c H locs cells slots mc ms (F0 m pc ls st0) rest (Qc (Value.ref b :: As).toArray) (va_A wc H.size) :=
  va_runI (As := As) (rest := rest) S hM cw ⟨gP.blind, hh⟩ rfl hn hl.1 hst (lv_room hro) hdg hf
/-- behind a call that had no pool: the pool stays -/
theorem gq_i {S : Type} {post : Int32 → S → Prop} {w1 : S → va_W} (hr : va_Run p l e R s m args below meth c H locs cells slots mc ms (F0 m pc ls st0) rest (va_Qi post (gB G w1 (va_A cx H.size)) (va_A cx H.size) a) (va_A cx H.size))
    (hP : va_P G.1 vwCl (X ++ pl) H) (hD : va_D A (X ++ pl)) (hS : va_S A s.heap H locs) (hA : ∀ q, s.heap.size ≤ q → A q) (isC isR : List Nat) (hC0 : isC.map (fun i => (X ++ pl)[i]?) = cx.map some) (hC : isC.map (fun i => X[i]?) = cx.map some) (hR : isR.map (fun i => X[i]?) = wr.map some) (hn : va_nd isR = true) (hdis : ∀ i ∈ isR, i ∉ isC)
    (kk : ∀ (r : Int32) (u : S) (H1 : Heap) (locs1 : List Loc), post r u → va_P G.1 vwCl ((wr ++ w1 u) ++ pl) H1 → va_D A ((wr ++ w1 u) ++ pl) → va_S A s.heap H1 locs1 → W p l e R s m args below meth c H1 locs1 (cells + mc) (slots + ms) Q (F0 m (pc + 3) ls (.int r :: rest))) : W p l e R s m args below meth c H locs cells slots Q (F0 m pc ls st0) := by
  have hFc := va_free (wc := cx) hD hS hA isC hC0
  refine va_calli hr hS (fun q _ h => hFc q h) hFc (fun r u t H1 locs1 ht hvm hw hB hz1 hk1 hS1 => ?_)
  obtain ⟨hP1, hD1⟩ := hB
  rw [ht] at hP1
  obtain ⟨hP2, hD2⟩ := va_joinQ hP hD isC isR hC hR hn hdis hk1 hFc hP1 hD1
  exact kk r u H1 locs1 hw hP2 hD2 hS1
theorem gq_v {S : Type} {post : S → Prop} {w1 : S → va_W} (hr : va_Run p l e R s m args below meth c H locs cells slots mc ms (F0 m pc ls st0) rest (va_Qv post (gB G w1 (va_A cx H.size)) (va_A cx H.size) a) (va_A cx H.size))
    (hP : va_P G.1 vwCl (X ++ pl) H) (hD : va_D A (X ++ pl)) (hS : va_S A s.heap H locs) (hA : ∀ q, s.heap.size ≤ q → A q) (isC isR : List Nat) (hC0 : isC.map (fun i => (X ++ pl)[i]?) = cx.map some) (hC : isC.map (fun i => X[i]?) = cx.map some) (hR : isR.map (fun i => X[i]?) = wr.map some) (hn : va_nd isR = true) (hdis : ∀ i ∈ isR, i ∉ isC)
    (kk : ∀ (u : S) (H1 : Heap) (locs1 : List Loc), post u → va_P G.1 vwCl ((wr ++ w1 u) ++ pl) H1 → va_D A ((wr ++ w1 u) ++ pl) → va_S A s.heap H1 locs1 → W p l e R s m args below meth c H1 locs1 (cells + mc) (slots + ms) Q (F0 m (pc + 3) ls rest)) : W p l e R s m args below meth c H locs cells slots Q (F0 m pc ls st0) := by
  have hFc := va_free (wc := cx) hD hS hA isC hC0
  refine va_callv hr hS (fun q _ h => hFc q h) hFc (fun u t H1 locs1 ht hvm hw hB hz1 hk1 hS1 => ?_)
  obtain ⟨hP1, hD1⟩ := hB
  rw [ht] at hP1
  obtain ⟨hP2, hD2⟩ := va_joinQ hP hD isC isR hC hR hn hdis hk1 hFc hP1 hD1
  exact kk u H1 locs1 hw hP2 hD2 hS1
theorem gq_r {S : Type} {post : Nat → S → Prop} {w1 : S → va_W} (hr : va_Run p l e R s m args below meth c H locs cells slots mc ms (F0 m pc ls st0) rest (va_Qr (S := S) (fun _ => True) (fun u ra t => post ra u ∧ gB G w1 (va_A cx H.size) u t) (va_A cx H.size) a) (va_A cx H.size))
    (hP : va_P G.1 vwCl (X ++ pl) H) (hD : va_D A (X ++ pl)) (hS : va_S A s.heap H locs) (hA : ∀ q, s.heap.size ≤ q → A q) (isC isR : List Nat) (hC0 : isC.map (fun i => (X ++ pl)[i]?) = cx.map some) (hC : isC.map (fun i => X[i]?) = cx.map some) (hR : isR.map (fun i => X[i]?) = wr.map some) (hn : va_nd isR = true) (hdis : ∀ i ∈ isR, i ∉ isC)
    (kk : ∀ (ra : Nat) (u : S) (H1 : Heap) (locs1 : List Loc), post ra u → va_P G.1 vwCl ((wr ++ w1 u) ++ pl) H1 → va_D A ((wr ++ w1 u) ++ pl) → va_S A s.heap H1 locs1 → W p l e R s m args below meth c H1 locs1 (cells + mc) (slots + ms) Q (F0 m (pc + 3) ls (.ref ra :: rest))) : W p l e R s m args below meth c H locs cells slots Q (F0 m pc ls st0) := by
  have hFc := va_free (wc := cx) hD hS hA isC hC0
  refine va_callr hr hS (fun q _ h => hFc q h) hFc (fun u ra t H1 locs1 ht hvm hw hB hz1 hk1 hS1 => ?_)
  obtain ⟨hq, hP1, hD1⟩ := hB
  rw [ht] at hP1
  obtain ⟨hP2, hD2⟩ := va_joinQ hP hD isC isR hC hR hn hdis hk1 hFc hP1 hD1
  exact kk ra u H1 locs1 hq hP2 hD2 hS1
/-- behind a call that had the pool -/
theorem gp_i {S : Type} {post : Int32 → S → Prop} {rx pl1 : S → va_W} (hr : va_Run p l e R s m args below meth c H locs cells slots mc ms (F0 m pc ls st0) rest (va_Qi post (gB G (fun u => rx u ++ pl1 u) (va_A (cx ++ pl) H.size)) (va_A (cx ++ pl) H.size) a) (va_A (cx ++ pl) H.size))
    (hP : va_P G.1 vwCl (X ++ pl) H) (hD : va_D A (X ++ pl)) (hS : va_S A s.heap H locs) (hA : ∀ q, s.heap.size ≤ q → A q) (isC isR : List Nat) (hC : isC.map (fun i => X[i]?) = cx.map some) (hR : isR.map (fun i => X[i]?) = wr.map some) (hn : va_nd isR = true) (hdis : ∀ i ∈ isR, i ∉ isC)
    (kk : ∀ (r : Int32) (u : S) (H1 : Heap) (locs1 : List Loc), post r u → va_P G.1 vwCl ((wr ++ rx u) ++ pl1 u) H1 → va_D A ((wr ++ rx u) ++ pl1 u) → va_S A s.heap H1 locs1 → W p l e R s m args below meth c H1 locs1 (cells + mc) (slots + ms) Q (F0 m (pc + 3) ls (.int r :: rest))) : W p l e R s m args below meth c H locs cells slots Q (F0 m pc ls st0) := by
  have hFc := va_freeP (cx := cx) hD hS hA isC hC
  refine va_calli hr hS (fun q _ h => hFc q h) hFc (fun r u t H1 locs1 ht hvm hw hB hz1 hk1 hS1 => ?_)
  obtain ⟨hP1, hD1⟩ := hB
  rw [ht] at hP1
  obtain ⟨hP2, hD2⟩ := va_joinP hP hD isC isR hC hR hn hdis hk1 hFc hP1 hD1
  exact kk r u H1 locs1 hw hP2 hD2 hS1
theorem gp_v {S : Type} {post : S → Prop} {rx pl1 : S → va_W} (hr : va_Run p l e R s m args below meth c H locs cells slots mc ms (F0 m pc ls st0) rest (va_Qv post (gB G (fun u => rx u ++ pl1 u) (va_A (cx ++ pl) H.size)) (va_A (cx ++ pl) H.size) a) (va_A (cx ++ pl) H.size))
    (hP : va_P G.1 vwCl (X ++ pl) H) (hD : va_D A (X ++ pl)) (hS : va_S A s.heap H locs) (hA : ∀ q, s.heap.size ≤ q → A q) (isC isR : List Nat) (hC : isC.map (fun i => X[i]?) = cx.map some) (hR : isR.map (fun i => X[i]?) = wr.map some) (hn : va_nd isR = true) (hdis : ∀ i ∈ isR, i ∉ isC)
    (kk : ∀ (u : S) (H1 : Heap) (locs1 : List Loc), post u → va_P G.1 vwCl ((wr ++ rx u) ++ pl1 u) H1 → va_D A ((wr ++ rx u) ++ pl1 u) → va_S A s.heap H1 locs1 → W p l e R s m args below meth c H1 locs1 (cells + mc) (slots + ms) Q (F0 m (pc + 3) ls rest)) : W p l e R s m args below meth c H locs cells slots Q (F0 m pc ls st0) := by
  have hFc := va_freeP (cx := cx) hD hS hA isC hC
  refine va_callv hr hS (fun q _ h => hFc q h) hFc (fun u t H1 locs1 ht hvm hw hB hz1 hk1 hS1 => ?_)
  obtain ⟨hP1, hD1⟩ := hB
  rw [ht] at hP1
  obtain ⟨hP2, hD2⟩ := va_joinP hP hD isC isR hC hR hn hdis hk1 hFc hP1 hD1
  exact kk u H1 locs1 hw hP2 hD2 hS1
/-- behind a call that answers a reference or null: what has come is told by the answer -/
theorem gp_o {S : Type} {post : Option Nat → S → Prop} {rx pl1 : S → va_W} {cu nu : Option Nat → S → Nat} (hr : va_Run p l e R s m args below meth c H locs cells slots mc ms (F0 m pc ls st0) rest (gQ G post (fun u => rx u ++ pl1 u) cu nu (va_A (cx ++ pl) H.size) a) (va_A (cx ++ pl) H.size))
    (hP : va_P G.1 vwCl (X ++ pl) H) (hD : va_D A (X ++ pl)) (hS : va_S A s.heap H locs) (hA : ∀ q, s.heap.size ≤ q → A q) (isC isR : List Nat) (hC : isC.map (fun i => X[i]?) = cx.map some) (hR : isR.map (fun i => X[i]?) = wr.map some) (hn : va_nd isR = true) (hdis : ∀ i ∈ isR, i ∉ isC)
    (kk : ∀ (r : Option Nat) (u : S) (H1 : Heap) (locs1 : List Loc), post r u → va_P G.1 vwCl ((wr ++ rx u) ++ pl1 u) H1 → va_D A ((wr ++ rx u) ++ pl1 u) → va_S A s.heap H1 locs1 → W p l e R s m args below meth c H1 locs1 (cells + cu r u) (slots + nu r u) Q (F0 m (pc + 3) ls (va_rf r :: rest))) : W p l e R s m args below meth c H locs cells slots Q (F0 m pc ls st0) := by
  have hFc := va_freeP (cx := cx) hD hS hA isC hC
  intro T hT X0
  obtain ⟨v, st₀, t, T', L, h0, X', hL, e1, e2, ⟨⟨r, u, hv, ⟨hp, hg⟩, hB⟩, hz, hk⟩, st⟩ := hr T hT X0
  cases hv
  obtain ⟨hP1, hD1⟩ := hB
  rw [h0] at hz hk hg
  rw [← e1] at hP1 hz hg
  have hk1 : ∀ q : Nat, q < H.size → ¬ va_A (cx ++ pl) H.size q → T'.heap[q]? = H[q]? := fun q h1 h2 => by rw [e1]; exact hk q h1 h2
  obtain ⟨hP2, hD2⟩ := va_joinP hP hD isC isR hC hR hn hdis hk1 hFc hP1 hD1
  have hS1 : va_S A s.heap T'.heap (locs ++ L) := ⟨Nat.le_trans hS.1 hz, fun q h1 h2 => by rw [hk1 q (Nat.lt_of_lt_of_le h1 hS.1) (fun z => h2 (hFc q z))]; exact hS.2.1 q h1 h2, fun q hq => by
      rcases List.mem_append.mp hq with h | h
      · exact hS.2.2 q h
      · exact hFc _ (hL q h)⟩
  have hg0 : Gr s.heap H cells slots := by rw [← hT]; exact gr_stand X0
  obtain ⟨t2, a1, b1⟩ := gr_narrow (hg0.tr hg) (kk r u T'.heap (locs ++ L) hp hP2 hD2 hS1) T' rfl X'
  exact ⟨t2, st t2 a1, b1⟩
/-- arrays of references, of known classes -/
theorem gc_newq (hexec : p.tables.exec = Jvm.exec) (hb : c.code = cc) (hown : s.vm.findClass own = some m.cls) (hclink : (Cond.classLink own index R_Part).before args s = true) (hE : KE G A s) (hP : va_P G.1 vwCl ws H) (hD : va_D A ws) (hS : va_S A s.heap H locs) (hA : ∀ q, s.heap.size ≤ q → A q)
    {k : Int32} {N' : Nat} (hn : ¬ k < 0) (hN : k.toNatClampNeg = N') (hbytes : N' * 4 ≤ 536870912) (hcells : cells + 1 ≤ R.cells) (hslots : slots + N' ≤ R.slots) (hdg : decode cc pc = .ok (.anewarray index, 3))
    (kk : ∀ (q : Nat) (H1 : Heap), va_P G.1 vwCl (ws ++ [(q, .inl (G.2.1 2, N', .inr (.inr (.inr (.inr (fun _ => none))))))]) H1 → va_D A (ws ++ [(q, .inl (G.2.1 2, N', .inr (.inr (.inr (.inr (fun _ => none))))))]) → va_S A s.heap H1 locs →
      W p l e R s m args below meth c H1 locs (cells + 1) (slots + N') Q (F0 m (pc + 3) ls (.ref q :: rest))) : W p l e R s m args below meth c H locs cells slots Q (F0 m pc ls (.int k :: rest)) := by
  refine va_newq hexec hb hown hclink hE.2.2.2.2.2.1 hE.1 hP hD hS hA hn hN hbytes hcells hslots hdg (fun q cX H1 hK1 hP1 hD1 hS1 => ?_)
  obtain ⟨-, -, -, -, -, h1⟩ := (hK1.2 (tyG G).length (cX, .object R_Part) (by simp)).2
  obtain ⟨-, -, -, -, -, h2⟩ := (hE.1.2 2 _ rfl).2
  have h3 : cX = G.2.1 2 := Option.some.inj (h1.symm.trans h2)
  subst h3
  exact kk q H1 hP1 hD1 hS1
end GH
