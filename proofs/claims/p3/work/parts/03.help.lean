def nS : Nat := 18
def ownS : List String := ["ValueTexts$Reader", "ValueTexts$Reader", "ValueTexts$Reader", "ValueTexts$Writer", "ValueTexts$Writer", "ValueTexts$Writer", "ValueTexts$Writer", "ValueTexts$Writer", "ValueTexts$Writer", "ValueTextsModel", "ValueTextsModel", "ValueTextsModel", "ValueTextsModel", "ValueTextsModel", "ValueTextsModel", "ValueTextsModel", "ValueTextsModel", "ValueTextsModel"]
def idxS : List Nat := [104, 110, 112, 29, 37, 39, 92, 94, 84, 80, 88, 90, 101, 234, 236, 238, 244, 246]
def txS : List String := ["null", "true", "false", "null", "true", "false", "<<", ">>", " R", "null", "true", "false", "R", " R", "[", "<<", "]", ">>"]
def lenS : List Nat := [4, 4, 5, 4, 4, 5, 2, 2, 2, 4, 4, 5, 1, 2, 1, 2, 1, 2]
def bytS : List (List Int32) := [[110, 117, 108, 108], [116, 114, 117, 101], [102, 97, 108, 115, 101], [110, 117, 108, 108], [116, 114, 117, 101], [102, 97, 108, 115, 101], [60, 60], [62, 62], [32, 82], [110, 117, 108, 108], [116, 114, 117, 101], [102, 97, 108, 115, 101], [82], [32, 82], [91], [60, 60], [93], [62, 62]]
/-! MY OWN HELPERS: a contract in one shape (gP, gB; MI, MV), its prologue (MI.of, MV.of), its calls (gc_..) -/
/-- a method's words: its code, and all that keep -/
def wsU (y : MethodName) (cc : ByteArray) (n : Nat) (r : Option FieldType) : List Cond := Cond.code y cc n r :: bigW
theorem good_U {y : MethodName} {cc : ByteArray} {n : Nat} {r : Option FieldType} (h : Cond.code y cc n r ∈ bigW) : GoodIn bigW (wsU y cc n r) := by
  intro w hw
  rcases List.mem_cons.mp hw with e | e
  · rw [e]; exact ⟨h, big_good h⟩
  · exact ⟨e, big_good e⟩
theorem good_V {own C : String} {idx : Nat} {y : MethodName} {cc : ByteArray} {n : Nat} {r : Option FieldType} (h1 : Cond.methodLink own idx y ∈ bigW) (h2 : Cond.instanceMethod y ∈ bigW) (h3 : Cond.selects C y y ∈ bigW) (h4 : Cond.initialized C ∈ bigW) (h5 : Cond.code y cc n r ∈ bigW) : GoodIn bigW (wsV own idx C y (wsU y cc n r)) := by
  intro w hw
  rcases List.mem_append.mp hw with e | e
  · have hm : w ∈ bigW := by
      simp only [List.mem_cons, List.not_mem_nil, or_false] at e
      rcases e with rfl | rfl | rfl | rfl
      · exact h1
      · exact h2
      · exact h3
      · exact h4
    exact ⟨hm, big_good hm⟩
  · exact good_U h5 w e
theorem good_S {own : String} {idx : Nat} {y : MethodName} {cc : ByteArray} {n : Nat} {r : Option FieldType} (h1 : Cond.methodLink own idx y ∈ bigW) (h2 : Cond.static y ∈ bigW) (h4 : Cond.initialized y.cls ∈ bigW) (h5 : Cond.code y cc n r ∈ bigW) : GoodIn bigW (va_wsS own idx y (wsU y cc n r)) := by
  intro w hw
  rcases List.mem_append.mp hw with e | e
  · have hm : w ∈ bigW := by
      simp only [List.mem_cons, List.not_mem_nil, or_false] at e
      rcases e with rfl | rfl | rfl
      · exact h1
      · exact h2
      · exact h4
    exact ⟨hm, big_good hm⟩
  · exact good_U h5 w e
/-- what is fixed for the whole claim: the classes' numbers and slots; the array classes; the places of the String constants -/
abbrev GG : Type := va_G × (Nat → ClassId) × (Nat → Nat) × (Nat → Nat)
abbrev tyG (G : GG) : List (ClassId × FieldType) := [(G.2.1 0, .byte), (G.2.1 1, .int), (G.2.1 2, .object R_Part), (G.2.1 3, .array .byte)]
/-- arrays of byte arrays can be made -/
def ao_B (U : State) : Prop := (Cond.arrayOver (.array .byte)).before #[] U = true
theorem ao_B.moved {u U : State} (hvm : u.vm.Alike U.vm) (h : ao_B u) : ao_B U := by
  obtain ⟨comp, c, k, h1, h2, h3, h4, h5⟩ := arrayOverA_spec h
  obtain ⟨k', hk', he⟩ := hvm.2.2 _ _ h3
  have hi : (U.vm.classes.findIdx? fun (x : Class) => match x.kind with | .array component _ => component == comp | _ => false) = some c := by
    rw [hvm.findIdx?_eq _ (fun _ => rfl)]
    exact h2
  have hkind : k'.kind = .array comp (.array .byte) := by rw [he]; exact h4
  have f1 : U.vm.findClass (FieldType.array FieldType.byte).toString = some comp := by rw [hvm.findClass]; exact h1
  have f2 : U.vm.findClass ("[" ++ (FieldType.array FieldType.byte).toString) = some c := by rw [hvm.findClass]; exact h5
  unfold ao_B Cond.before Cond.holds
  simp only [Cond.value]
  rw [f1, Option.bind_some]
  refine (congrArg (fun o : Option Nat => (o.bind (fun c => (U.vm.classes[c]?).map fun (k : Class) => match k.kind with | .array _ ty => decide (ty = FieldType.array FieldType.byte) && decide (U.vm.findClass ("[" ++ (FieldType.array FieldType.byte).toString) = some c) | _ => false) == some true)) hi).trans ?_
  simp [hk', hkind, f2]
/-- the String constants (by place), and COMPACT_STRINGS -/
def ES (G : GG) (A : Nat → Prop) (U : State) : Prop :=
  (∀ i : Nat, i < nS → vk_S 1 [(lenS.getD i 0)] [(bytS.getD i [])] (fun _ => G.2.2.1 i) (fun _ => G.2.2.2 i) A U U.heap ∧ vk_R (ownS.getD i "") (idxS.getD i 0) (txS.getD i "") (G.2.2.1 i) U) ∧ va_Z "java/lang/String" "COMPACT_STRINGS" "Z" (.int 1) A U U.heap ∧ va_Zq "jdk/internal/util/Preconditions" "SIOOBE_FORMATTER" "Ljava/util/function/BiFunction;" A U U.heap ∧ va_Nw (.methodLinkNest R_Part 28 y_M_isLike R_M) U ∧ va_AO R_Part U ∧ ao_B U
theorem ES.go {G : GG} {A A' : Nat → Prop} {s U : State} {H : Heap} {locs : List Loc} (h : ES G A s) (hS : va_S A s.heap H locs) (hA : ∀ q, A' q → A q) (hU : U.heap = H) (hW : s.WarmedH U.vm) : ES G A' U := by
  refine ⟨fun i hi => ⟨?_, (h.1 i hi).2.warm hW⟩, ?_, ?_, h.2.2.2.1.warmM hW, h.2.2.2.2.1.moved hW.alike, h.2.2.2.2.2.moved hW.alike⟩
  · rw [hU]
    exact (((h.1 i hi).1.moved hW.alike).kept hS.2.1).narrow hA
  · rw [hU]
    exact ((h.2.1.moved hW.alike).kept hS.2.1).narrow hA
  · rw [hU]
    exact ((h.2.2.1.moved hW.alike).kept hS.2.1).narrow hA
theorem ES.blind {G : GG} {A : Nat → Prop} {U : State} {g : JFrame} {mk : MethodId} {a : Array Value} (h : ES G A U) : ES G A (U.calling g mk a) :=
  ⟨fun i hi => ⟨(h.1 i hi).1.moved (u := U) (U := U.calling g mk a) (Vm.Alike.refl U.vm), (h.1 i hi).2.same (u := U) rfl⟩, h.2.1.moved (u := U) (U := U.calling g mk a) (Vm.Alike.refl U.vm), h.2.2.1.moved (u := U) (U := U.calling g mk a) (Vm.Alike.refl U.vm), h.2.2.2.1.same rfl (u := U) rfl, h.2.2.2.2.1.moved (u := U) (U := U.calling g mk a) (Vm.Alike.refl U.vm), h.2.2.2.2.2.moved (u := U) (U := U.calling g mk a) (Vm.Alike.refl U.vm)⟩
/-- what a state knows of the tables and of what lies outside the worlds -/
def KE (G : GG) (A : Nat → Prop) (U : State) : Prop := va_K G.1 vwCl (tyG G) U ∧ ES G A U
theorem KE.go {G : GG} {A A' : Nat → Prop} {s U : State} {H : Heap} {locs : List Loc} (h : KE G A s) (hS : va_S A s.heap H locs) (hA : ∀ q, A' q → A q) (hU : U.heap = H) (hW : s.WarmedH U.vm) : KE G A' U :=
  ⟨va_K.moved hW.alike h.1, ES.go h.2 hS hA hU hW⟩
theorem KE.blind {G : GG} {A : Nat → Prop} {U : State} {g : JFrame} {mk : MethodId} {a : Array Value} (h : KE G A U) : KE G A (U.calling g mk a) :=
  ⟨va_K.moved (u := U) (U := U.calling g mk a) (Vm.Alike.refl U.vm) h.1, h.2.blind⟩
/-- a method's start -/
def gP (G : GG) (av : List Value) (ws : va_W) (sz : Nat) : Array Value → State → Prop :=
  va_Pc av (fun U => U.heap.size = sz ∧ va_P G.1 vwCl ws U.heap ∧ va_D (fun _ => True) ws ∧ KE G (va_A ws sz) U)
/-- the world behind it -/
def gB (G : GG) {S : Type} (w1 : S → va_W) (A : Nat → Prop) : S → State → Prop := fun u t => va_P G.1 vwCl (w1 u) t.heap ∧ va_D A (w1 u)
/-- contracts: an int (a boolean, a byte ..), or nothing, comes back -/
def MI (l : Launch) (y : MethodName) (cc : ByteArray) (maxL : Nat) (ty : FieldType) (rm : Room) (G : GG) (av : List Value) (cells : va_W) {S : Type} (post : Int32 → S → Prop) (w1 : S → va_W) (mc ms : Nat) : Prop :=
  ∀ sz : Nat, Met l y (wsU y cc maxL (some ty)) rm (gP G av cells sz) (va_Qi post (gB G w1 (va_A cells sz)) (va_A cells sz)) mc ms (va_A cells sz)
def MV (l : Launch) (y : MethodName) (cc : ByteArray) (maxL : Nat) (rm : Room) (G : GG) (av : List Value) (cells : va_W) {S : Type} (post : S → Prop) (w1 : S → va_W) (mc ms : Nat) : Prop :=
  ∀ sz : Nat, Met l y (wsU y cc maxL none) rm (gP G av cells sz) (va_Qv post (gB G w1 (va_A cells sz)) (va_A cells sz)) mc ms (va_A cells sz)
/-- a reference comes back: its address is a part of the state behind -/
def MR (l : Launch) (y : MethodName) (cc : ByteArray) (maxL : Nat) (ty : FieldType) (rm : Room) (G : GG) (av : List Value) (cells : va_W) {S : Type} (post : Nat → S → Prop) (w1 : S → va_W) (mc ms : Nat) : Prop :=
  ∀ sz : Nat, Met l y (wsU y cc maxL (some ty)) rm (gP G av cells sz) (va_Qr (S := S) (fun _ => True) (fun u ra t => post ra u ∧ gB G w1 (va_A cells sz) u t) (va_A cells sz)) mc ms (va_A cells sz)
set_option maxHeartbeats 1000000 in
theorem MI.of {l : Launch} {y : MethodName} {rm : Room} {G : GG} {av : List Value} {cells : va_W} {S : Type} {post : Int32 → S → Prop} {w1 : S → va_W} {mc ms : Nat} {cc : ByteArray} {maxL : Nat} {ty : FieldType} {C : String}
    (hy : plainName y.cls = true) (hC : y.cls = C) (hlen : (lg_sl av).length ≤ maxL)
    (body : ∀ (p : Program) (e : Env) (s : State) (m : MethodId) (args : Array Value) (below : List Frame) (meth : Method) (c : Code) (A : Nat → Prop) (Q : State → Prop) (H : Heap) (ls : Array Slot),
      p.tables.exec = Jvm.exec → c.code = cc → c.maxLocals = maxL → s.vm.findClass C = some m.cls → (∀ w ∈ bigW, w.before args s = true) → KE G A s → (∀ q, s.heap.size ≤ q → A q) → va_P G.1 vwCl cells H → va_D A cells → va_S A s.heap H [] →
      (∀ {pc : Nat} {ls : Array Slot} {H : Heap} {locs : List Loc} {k n : Nat} (v : Int32) (u : S), k ≤ mc → n ≤ ms → decode cc pc = .ok (.ireturn, 1) → narrow ty (.int v) = .int v → post v u → va_P G.1 vwCl (w1 u) H → va_D A (w1 u) → va_S A s.heap H locs → W p l e rm s m args below meth c H locs k n Q (F0 m pc ls [.int v])) →
      lv_has ls maxL (lv_args 0 av) → W p l e rm s m args below meth c H [] 0 0 Q (F0 m 0 ls [])) : MI l y cc maxL ty rm G av cells post w1 mc ms := by
  intro sz
  refine Met.ofW (cc := cc) (maxL := maxL) (ret := some ty) hy rfl ?_
  intro p e s m args below meth c s₁ B hml hv
  obtain ⟨rfl, hsz, hP, hD0, hE⟩ := hv
  have hlocks := B.notSynchronized
  subst hsz
  rw [lg_entry_eq]
  refine body p e s m _ below meth c (va_A cells s.heap.size) _ s.heap _ B.exec B.bytes hml (by rw [← hC]; exact findClass_of_methodNamed B.named) (fun w h => atoms_spec B.pre w (List.mem_cons_of_mem _ h)) hE (fun q h => Or.inr h) hP hD0.self va_S.rf ?_ (lv_entry av hlen)
  intro pc ls H locs k n v u hk hn hd hnar hpost hP' hD' hS'
  refine W.widen hk hn ?_
  exact W.zret B.exec B.bytes B.returns hnar (fun t ht hW => ⟨⟨v, u, rfl, hpost, by rw [ht]; exact hP', hD'⟩, hS'.F ht⟩) hS'.2.2 hd
set_option maxHeartbeats 1000000 in
theorem MV.of {l : Launch} {y : MethodName} {rm : Room} {G : GG} {av : List Value} {cells : va_W} {S : Type} {post : S → Prop} {w1 : S → va_W} {mc ms : Nat} {cc : ByteArray} {maxL : Nat} {C : String}
    (hy : plainName y.cls = true) (hC : y.cls = C) (hlen : (lg_sl av).length ≤ maxL)
    (body : ∀ (p : Program) (e : Env) (s : State) (m : MethodId) (args : Array Value) (below : List Frame) (meth : Method) (c : Code) (A : Nat → Prop) (Q : State → Prop) (H : Heap) (ls : Array Slot),
      p.tables.exec = Jvm.exec → c.code = cc → c.maxLocals = maxL → s.vm.findClass C = some m.cls → (∀ w ∈ bigW, w.before args s = true) → KE G A s → (∀ q, s.heap.size ≤ q → A q) → va_P G.1 vwCl cells H → va_D A cells → va_S A s.heap H [] → meth.name = y.name →
      (∀ {pc : Nat} {ls : Array Slot} {H : Heap} {locs : List Loc} {k n : Nat} (u : S), k ≤ mc → n ≤ ms → decode cc pc = .ok (.return_, 1) → post u → va_P G.1 vwCl (w1 u) H → va_D A (w1 u) → va_S A s.heap H locs → W p l e rm s m args below meth c H locs k n Q (F0 m pc ls [])) →
      lv_has ls maxL (lv_args 0 av) → W p l e rm s m args below meth c H [] 0 0 Q (F0 m 0 ls [])) : MV l y cc maxL rm G av cells post w1 mc ms := by
  intro sz
  refine Met.ofW (cc := cc) (maxL := maxL) (ret := none) hy rfl ?_
  intro p e s m args below meth c s₁ B hml hv
  obtain ⟨rfl, hsz, hP, hD0, hE⟩ := hv
  have hlocks := B.notSynchronized
  subst hsz
  rw [lg_entry_eq]
  refine body p e s m _ below meth c (va_A cells s.heap.size) _ s.heap _ B.exec B.bytes hml (by rw [← hC]; exact findClass_of_methodNamed B.named) (fun w h => atoms_spec B.pre w (List.mem_cons_of_mem _ h)) hE (fun q h => Or.inr h) hP hD0.self va_S.rf (name_of_methodNamed B.named B.method).1 ?_ (lv_entry av hlen)
  intro pc ls H locs k n u hk hn hd hpost hP' hD' hS'
  refine W.widen hk hn ?_
  exact W.vret B.exec B.bytes B.returns (fun t ht hW => ⟨⟨u, rfl, hpost, by rw [ht]; exact hP', hD'⟩, hS'.F ht⟩) hS'.2.2 hd
set_option maxHeartbeats 1000000 in
theorem MR.of {l : Launch} {y : MethodName} {rm : Room} {G : GG} {av : List Value} {cells : va_W} {S : Type} {post : Nat → S → Prop} {w1 : S → va_W} {mc ms : Nat} {cc : ByteArray} {maxL : Nat} {ty : FieldType} {C : String}
    (hy : plainName y.cls = true) (hC : y.cls = C) (hlen : (lg_sl av).length ≤ maxL) (hty : (∃ n, ty = .object n) ∨ ∃ t, ty = .array t)
    (body : ∀ (p : Program) (e : Env) (s : State) (m : MethodId) (args : Array Value) (below : List Frame) (meth : Method) (c : Code) (A : Nat → Prop) (Q : State → Prop) (H : Heap) (ls : Array Slot),
      p.tables.exec = Jvm.exec → c.code = cc → c.maxLocals = maxL → s.vm.findClass C = some m.cls → (∀ w ∈ bigW, w.before args s = true) → KE G A s → (∀ q, s.heap.size ≤ q → A q) → va_P G.1 vwCl cells H → va_D A cells → va_S A s.heap H [] →
      (∀ {pc : Nat} {ls : Array Slot} {H : Heap} {locs : List Loc} {k n : Nat} (ra : Nat) (u : S), k ≤ mc → n ≤ ms → decode cc pc = .ok (.areturn, 1) → post ra u → va_P G.1 vwCl (w1 u) H → va_D A (w1 u) → va_S A s.heap H locs → W p l e rm s m args below meth c H locs k n Q (F0 m pc ls [.ref ra])) →
      lv_has ls maxL (lv_args 0 av) → W p l e rm s m args below meth c H [] 0 0 Q (F0 m 0 ls [])) : MR l y cc maxL ty rm G av cells post w1 mc ms := by
  intro sz
  refine Met.ofW (cc := cc) (maxL := maxL) (ret := some ty) hy rfl ?_
  intro p e s m args below meth c s₁ B hml hv
  obtain ⟨rfl, hsz, hP, hD0, hE⟩ := hv
  have hlocks := B.notSynchronized
  subst hsz
  rw [lg_entry_eq]
  refine body p e s m _ below meth c (va_A cells s.heap.size) _ s.heap _ B.exec B.bytes hml (by rw [← hC]; exact findClass_of_methodNamed B.named) (fun w h => atoms_spec B.pre w (List.mem_cons_of_mem _ h)) hE (fun q h => Or.inr h) hP hD0.self va_S.rf ?_ (lv_entry av hlen)
  intro pc ls H locs k n ra u hk hn hd hpost hP' hD' hS'
  refine W.widen hk hn ?_
  exact W.aret B.exec B.bytes B.returns hty (Or.inr ⟨ra, rfl⟩) (fun t ht hW => ⟨⟨u, ra, rfl, trivial, hpost, by rw [ht]; exact hP', hD'⟩, hS'.F ht⟩) hS'.2.2 hd
theorem gP.blind {G : GG} {av : List Value} {ws : va_W} {sz : Nat} : FrameBlind (gP G av ws sz) := by
  intro a U g mk q
  obtain ⟨q0, q1, qP, qD, qE⟩ := q
  exact ⟨q0, q1, qP, qD, KE.blind qE⟩
section GC
variable {p : Program} {l : Launch} {e : Env} {R : Room} {s : State} {m : MethodId} {args : Array Value} {below : List Frame} {meth : Method} {c : Code} {H : Heap} {locs : List Loc} {cells slots : Nat} {Q : State → Prop}
variable {cc : ByteArray} {pc : Nat} {ls : Array Slot} {rest : List Value} {A : Nat → Prop} {G : GG} {ws wc wr : va_W}
variable {y : MethodName} {bytes : ByteArray} {maxL nL mc ms n index : Nat} {ret : Option FieldType} {wy : List Cond} {rm : Room} {Ts : List Cond} {own C host : String} {b : Nat} {As : List Value}
theorem gP.here {av : List Value} (hE : KE G A s) (hP : va_P G.1 vwCl ws H) (hD : va_D A ws) (hS : va_S A s.heap H locs) (hA : ∀ q, s.heap.size ≤ q → A q) (isC : List Nat) (hC : isC.map (fun i => ws[i]?) = wc.map some) (hnC : va_nd isC = true) : ∀ U : State, U.heap = H → s.WarmedH U.vm → gP G av wc H.size av.toArray U := by
  intro U hU hW
  have hFc := va_free (wc := wc) hD hS hA isC hC
  refine ⟨rfl, by rw [hU], fun k q hk => ?_, (hD.sub isC hnC hC).weaken (fun _ _ _ _ => trivial), KE.go hE hS hFc hU hW⟩
  have h1 : (isC.map (fun i => ws[i]?))[k]? = some (some q) := by rw [hC, List.getElem?_map, hk]; rfl
  rw [List.getElem?_map] at h1
  cases hi : isC[k]? with
  | none => rw [hi] at h1; cases h1
  | some i => rw [hi] at h1; rw [hU]; exact hP i q (Option.some.inj h1)
end GC
section GD
variable {p : Program} {l : Launch} {e : Env} {R : Room} {s : State} {m : MethodId} {args : Array Value} {below : List Frame} {meth : Method} {c : Code} {H : Heap} {locs : List Loc} {cells slots : Nat} {Q : State → Prop}
variable {cc : ByteArray} {pc : Nat} {ls : Array Slot} {rest : List Value} {A : Nat → Prop} {G : GG} {ws wc wr : va_W}
variable {y : MethodName} {bytes : ByteArray} {maxL nL mc ms n index : Nat} {ret : Option FieldType} {wy : List Cond} {rm : Room} {Ts : List Cond} {own C host : String} {b : Nat} {As st0 : List Value} {lv : List (Nat × Value)}
variable {Qc : Array Value → State → Outcome → State → Prop} {a : Array Value}
theorem gc_V (S : CallFix p m c cc nL s args Ts own) (hM : Met l y wy rm (gP G (.ref b :: As) wc H.size) Qc mc ms (va_A wc H.size)) (cw : CallW R s args own C index y bytes maxL ret wy rm mc ms n) (hE : KE G A s) (hP : va_P G.1 vwCl ws H) (hD : va_D A ws) (hS : va_S A s.heap H locs) (hA : ∀ q, s.heap.size ≤ q → A q)
    (hrecv : ∃ cellB : Cell, H[b]? = some cellB ∧ cellB.vm.isStatics = false ∧ s.vm.findClass C = some cellB.cls) (isC : List Nat) (hC : isC.map (fun i => ws[i]?) = wc.map some) (hnC : va_nd isC = true)
    (hn : As.length = n) (hl : lv_has ls nL lv) (hst : st0 = As.reverse ++ .ref b :: rest) (hro : (rest.map fun v => v.category).sum ≤ 8) (hdg : decode cc pc = .ok (.invokevirtual index, 3)) (hf : cells + mc ≤ R.cells ∧ slots + ms ≤ R.slots) :
    va_Run p l e R s m args below meth c H locs cells slots mc ms (F0 m pc ls st0) rest (Qc (Value.ref b :: As).toArray) (va_A wc H.size) :=
  va_runV (As := As) (rest := rest) S hM cw ⟨gP.blind, hrecv, gP.here hE hP hD hS hA isC hC hnC⟩ rfl hn hl.1 hst (lv_room hro) hdg hf
theorem gc_S (S : CallFix p m c cc nL s args Ts own) (hM : Met l y wy rm (gP G As wc H.size) Qc mc ms (va_A wc H.size)) (cw : CallB R s args own index y bytes maxL ret wy rm mc ms n ∧ (Cond.static y).before args s = true) (hE : KE G A s) (hP : va_P G.1 vwCl ws H) (hD : va_D A ws) (hS : va_S A s.heap H locs) (hA : ∀ q, s.heap.size ≤ q → A q)
    (isC : List Nat) (hC : isC.map (fun i => ws[i]?) = wc.map some) (hnC : va_nd isC = true)
    (hn : As.length = n) (hl : lv_has ls nL lv) (hst : st0 = As.reverse ++ rest) (hro : (rest.map fun v => v.category).sum ≤ 8) (hdg : decode cc pc = .ok (.invokestatic index, 3)) (hf : cells + mc ≤ R.cells ∧ slots + ms ≤ R.slots) :
    va_Run p l e R s m args below meth c H locs cells slots mc ms (F0 m pc ls st0) rest (Qc As.toArray) (va_A wc H.size) :=
  va_runS (As := As) (rest := rest) S hM cw ⟨gP.blind, gP.here hE hP hD hS hA isC hC hnC⟩ rfl hn hl.1 hst (lv_room hro) hdg hf
theorem gc_I (S : CallFix p m c cc nL s args Ts own) (hM : Met l y wy rm (gP G (.ref b :: As) wc H.size) Qc mc ms (va_A wc H.size)) (cw : CallB R s args own index y bytes maxL none wy rm mc ms n ∧ y.name = "<init>" ∧ (Cond.instanceMethod y).before args s = true) (hE : KE G A s) (hP : va_P G.1 vwCl ws H) (hD : va_D A ws) (hS : va_S A s.heap H locs) (hA : ∀ q, s.heap.size ≤ q → A q)
    (isC : List Nat) (hC : isC.map (fun i => ws[i]?) = wc.map some) (hnC : va_nd isC = true)
    (hn : As.length = n) (hl : lv_has ls nL lv) (hst : st0 = As.reverse ++ .ref b :: rest) (hro : (rest.map fun v => v.category).sum ≤ 8) (hdg : decode cc pc = .ok (.invokespecial index, 3)) (hf : cells + mc ≤ R.cells ∧ slots + ms ≤ R.slots) :
    va_Run p l e R s m args below meth c H locs cells slots mc ms (F0 m pc ls st0) rest (Qc (Value.ref b :: As).toArray) (va_A wc H.size) :=
  va_runI (As := As) (rest := rest) S hM cw ⟨gP.blind, gP.here hE hP hD hS hA isC hC hnC⟩ rfl hn hl.1 hst (lv_room hro) hdg hf
theorem gc_VN (S : CallFix p m c cc nL s args Ts own) (hM : Met l y wy rm (gP G (.ref b :: As) wc H.size) Qc mc ms (va_A wc H.size)) (cw : va_CN R s args own index y host bytes maxL ret wy rm mc ms n ∧ (Cond.instanceMethod y).before args s = true ∧ (Cond.selects C y y).before args s = true) (hE : KE G A s) (hP : va_P G.1 vwCl ws H) (hD : va_D A ws) (hS : va_S A s.heap H locs) (hA : ∀ q, s.heap.size ≤ q → A q)
    (hrecv : ∃ cellB : Cell, H[b]? = some cellB ∧ cellB.vm.isStatics = false ∧ s.vm.findClass C = some cellB.cls) (isC : List Nat) (hC : isC.map (fun i => ws[i]?) = wc.map some) (hnC : va_nd isC = true)
    (hn : As.length = n) (hl : lv_has ls nL lv) (hst : st0 = As.reverse ++ .ref b :: rest) (hro : (rest.map fun v => v.category).sum ≤ 8) (hdg : decode cc pc = .ok (.invokevirtual index, 3)) (hf : cells + mc ≤ R.cells ∧ slots + ms ≤ R.slots) :
    va_Run p l e R s m args below meth c H locs cells slots mc ms (F0 m pc ls st0) rest (Qc (Value.ref b :: As).toArray) (va_A wc H.size) :=
  va_runVN (As := As) (rest := rest) S hM cw ⟨gP.blind, hrecv, gP.here hE hP hD hS hA isC hC hnC⟩ rfl hn hl.1 hst (lv_room hro) hdg hf
theorem gc_SN (S : CallFix p m c cc nL s args Ts own) (hM : Met l y wy rm (gP G As wc H.size) Qc mc ms (va_A wc H.size)) (cw : va_CN R s args own index y host bytes maxL ret wy rm mc ms n ∧ (Cond.static y).before args s = true ∧ True) (hE : KE G A s) (hP : va_P G.1 vwCl ws H) (hD : va_D A ws) (hS : va_S A s.heap H locs) (hA : ∀ q, s.heap.size ≤ q → A q)
    (isC : List Nat) (hC : isC.map (fun i => ws[i]?) = wc.map some) (hnC : va_nd isC = true)
    (hn : As.length = n) (hl : lv_has ls nL lv) (hst : st0 = As.reverse ++ rest) (hro : (rest.map fun v => v.category).sum ≤ 8) (hdg : decode cc pc = .ok (.invokestatic index, 3)) (hf : cells + mc ≤ R.cells ∧ slots + ms ≤ R.slots) :
    va_Run p l e R s m args below meth c H locs cells slots mc ms (F0 m pc ls st0) rest (Qc As.toArray) (va_A wc H.size) :=
  va_runSN (As := As) (rest := rest) S hM cw ⟨gP.blind, gP.here hE hP hD hS hA isC hC hnC⟩ rfl hn hl.1 hst (lv_room hro) hdg hf
theorem gc_IN (S : CallFix p m c cc nL s args Ts own) (hM : Met l y wy rm (gP G (.ref b :: As) wc H.size) Qc mc ms (va_A wc H.size)) (cw : va_CN R s args own index y host bytes maxL none wy rm mc ms n ∧ y.name = "<init>" ∧ (Cond.instanceMethod y).before args s = true) (hE : KE G A s) (hP : va_P G.1 vwCl ws H) (hD : va_D A ws) (hS : va_S A s.heap H locs) (hA : ∀ q, s.heap.size ≤ q → A q)
    (isC : List Nat) (hC : isC.map (fun i => ws[i]?) = wc.map some) (hnC : va_nd isC = true)
    (hn : As.length = n) (hl : lv_has ls nL lv) (hst : st0 = As.reverse ++ .ref b :: rest) (hro : (rest.map fun v => v.category).sum ≤ 8) (hdg : decode cc pc = .ok (.invokespecial index, 3)) (hf : cells + mc ≤ R.cells ∧ slots + ms ≤ R.slots) :
    va_Run p l e R s m args below meth c H locs cells slots mc ms (F0 m pc ls st0) rest (Qc (Value.ref b :: As).toArray) (va_A wc H.size) :=
  va_runIN (As := As) (rest := rest) S hM cw ⟨gP.blind, gP.here hE hP hD hS hA isC hC hnC⟩ rfl hn hl.1 hst (lv_room hro) hdg hf
/-- behind the call: what wasn't the callee's stays -/
theorem gc_i {S : Type} {post : Int32 → S → Prop} {w1 : S → va_W} (hr : va_Run p l e R s m args below meth c H locs cells slots mc ms (F0 m pc ls st0) rest (va_Qi post (gB G w1 (va_A wc H.size)) (va_A wc H.size) a) (va_A wc H.size))
    (hP : va_P G.1 vwCl ws H) (hD : va_D A ws) (hS : va_S A s.heap H locs) (hA : ∀ q, s.heap.size ≤ q → A q) (isC isR : List Nat) (hC : isC.map (fun i => ws[i]?) = wc.map some) (hR : isR.map (fun i => ws[i]?) = wr.map some) (hn : va_nd isR = true) (hdis : ∀ i ∈ isR, i ∉ isC)
    (kk : ∀ (r : Int32) (u : S) (H1 : Heap) (locs1 : List Loc), post r u → va_P G.1 vwCl (wr ++ w1 u) H1 → va_D A (wr ++ w1 u) → va_S A s.heap H1 locs1 → W p l e R s m args below meth c H1 locs1 (cells + mc) (slots + ms) Q (F0 m (pc + 3) ls (.int r :: rest))) : W p l e R s m args below meth c H locs cells slots Q (F0 m pc ls st0) := by
  have hFc := va_free (wc := wc) hD hS hA isC hC
  refine va_calli hr hS (fun q _ h => hFc q h) hFc (fun r u t H1 locs1 ht hvm hw hB hz1 hk1 hS1 => ?_)
  obtain ⟨hP1, hD1⟩ := hB
  rw [ht] at hP1
  obtain ⟨hP2, hD2⟩ := va_join hP hD isC isR hC hR hn hdis hk1 hFc hP1 hD1
  exact kk r u H1 locs1 hw hP2 hD2 hS1
theorem gc_v {S : Type} {post : S → Prop} {w1 : S → va_W} (hr : va_Run p l e R s m args below meth c H locs cells slots mc ms (F0 m pc ls st0) rest (va_Qv post (gB G w1 (va_A wc H.size)) (va_A wc H.size) a) (va_A wc H.size))
    (hP : va_P G.1 vwCl ws H) (hD : va_D A ws) (hS : va_S A s.heap H locs) (hA : ∀ q, s.heap.size ≤ q → A q) (isC isR : List Nat) (hC : isC.map (fun i => ws[i]?) = wc.map some) (hR : isR.map (fun i => ws[i]?) = wr.map some) (hn : va_nd isR = true) (hdis : ∀ i ∈ isR, i ∉ isC)
    (kk : ∀ (u : S) (H1 : Heap) (locs1 : List Loc), post u → va_P G.1 vwCl (wr ++ w1 u) H1 → va_D A (wr ++ w1 u) → va_S A s.heap H1 locs1 → W p l e R s m args below meth c H1 locs1 (cells + mc) (slots + ms) Q (F0 m (pc + 3) ls rest)) : W p l e R s m args below meth c H locs cells slots Q (F0 m pc ls st0) := by
  have hFc := va_free (wc := wc) hD hS hA isC hC
  refine va_callv hr hS (fun q _ h => hFc q h) hFc (fun u t H1 locs1 ht hvm hw hB hz1 hk1 hS1 => ?_)
  obtain ⟨hP1, hD1⟩ := hB
  rw [ht] at hP1
  obtain ⟨hP2, hD2⟩ := va_join hP hD isC isR hC hR hn hdis hk1 hFc hP1 hD1
  exact kk u H1 locs1 hw hP2 hD2 hS1
theorem gc_r {S : Type} {post : Nat → S → Prop} {w1 : S → va_W} (hr : va_Run p l e R s m args below meth c H locs cells slots mc ms (F0 m pc ls st0) rest (va_Qr (S := S) (fun _ => True) (fun u ra t => post ra u ∧ gB G w1 (va_A wc H.size) u t) (va_A wc H.size) a) (va_A wc H.size))
    (hP : va_P G.1 vwCl ws H) (hD : va_D A ws) (hS : va_S A s.heap H locs) (hA : ∀ q, s.heap.size ≤ q → A q) (isC isR : List Nat) (hC : isC.map (fun i => ws[i]?) = wc.map some) (hR : isR.map (fun i => ws[i]?) = wr.map some) (hn : va_nd isR = true) (hdis : ∀ i ∈ isR, i ∉ isC)
    (kk : ∀ (ra : Nat) (u : S) (H1 : Heap) (locs1 : List Loc), post ra u → va_P G.1 vwCl (wr ++ w1 u) H1 → va_D A (wr ++ w1 u) → va_S A s.heap H1 locs1 → W p l e R s m args below meth c H1 locs1 (cells + mc) (slots + ms) Q (F0 m (pc + 3) ls (.ref ra :: rest))) : W p l e R s m args below meth c H locs cells slots Q (F0 m pc ls st0) := by
  have hFc := va_free (wc := wc) hD hS hA isC hC
  refine va_callr hr hS (fun q _ h => hFc q h) hFc (fun u ra t H1 locs1 ht hvm hw hB hz1 hk1 hS1 => ?_)
  obtain ⟨hq, hP1, hD1⟩ := hB
  rw [ht] at hP1
  obtain ⟨hP2, hD2⟩ := va_join hP hD isC isR hC hR hn hdis hk1 hFc hP1 hD1
  exact kk ra u H1 locs1 hq hP2 hD2 hS1
/-- a new array of a class that is known -/
theorem gc_newa (hexec : p.tables.exec = Jvm.exec) (hb : c.code = cc) {atype : ArrayType} (harr : (Cond.arrayClass (newarray.typeOf atype)).before args s = true) {ty : FieldType} (hty : newarray.typeOf atype = ty) (hE : KE G A s) (hP : va_P G.1 vwCl ws H) (hD : va_D A ws) (hS : va_S A s.heap H locs) (hA : ∀ q, s.heap.size ≤ q → A q) (t0 : Nat) {cA : ClassId} (ht : (tyG G)[t0]? = some (cA, ty)) (hnm : ∀ cX : ClassId, va_RA s cX ty → s.vm.findClass ("[" ++ ty.toString) = some cX)
    {n : Int32} {N' : Nat} {a0 : vp_A} (ha : ∀ cA : ClassId, vp_cell cA a0 = arrV cA N' (fun _ => defaultValue ty)) (hn : ¬ n < 0) (hN : n.toNatClampNeg = N') (hbytes : N' * componentBytes ty ≤ 536870912) (hcells : cells + 1 ≤ R.cells) (hslots : slots + N' ≤ R.slots) (hdg : decode cc pc = .ok (.newarray atype, 2))
    (kk : ∀ (q : Nat) (H1 : Heap), va_P G.1 vwCl (ws ++ [(q, .inl (cA, a0))]) H1 → va_D A (ws ++ [(q, .inl (cA, a0))]) → va_S A s.heap H1 locs →
      W p l e R s m args below meth c H1 locs (cells + 1) (slots + N') Q (F0 m (pc + 2) ls (.ref q :: rest))) : W p l e R s m args below meth c H locs cells slots Q (F0 m pc ls (.int n :: rest)) := by
  refine va_newa hexec hb harr hty hE.1 hP hD hS hA ha hn hN hbytes hcells hslots hdg (fun q cX H1 hK1 hP1 hD1 hS1 => ?_)
  have h1 := hnm cX (hK1.2 (tyG G).length (cX, ty) (by simp)).2
  have h2 := hnm cA (hE.1.2 t0 _ ht).2
  have h3 : cX = cA := Option.some.inj (h1.symm.trans h2)
  subst h3
  exact kk q H1 hP1 hD1 hS1
end GD
/-! small facts of numbers -/
theorem nb01 {v : Int32} (h : v = 0 ∨ v = 1) : narrow .boolean (.int v) = .int v := by rcases h with rfl | rfl <;> rfl
theorem z_lt {a b : Int32} : a < b ↔ a.toInt < b.toInt := Int32.lt_iff_toInt_lt
theorem z_le {a b : Int32} : a ≤ b ↔ a.toInt ≤ b.toInt := Int32.le_iff_toInt_le
theorem z_0 : (0 : Int32).toInt = 0 := by decide
theorem z_1 : (1 : Int32).toInt = 1 := by decide
theorem z_b (a : Int32) : -2147483648 ≤ a.toInt ∧ a.toInt < 2147483648 := ⟨by have := Int32.le_toInt a; omega, by have := Int32.toInt_lt a; omega⟩
theorem z_add {x y : Int32} (h1 : -2147483648 ≤ x.toInt + y.toInt) (h2 : x.toInt + y.toInt < 2147483648) : (x + y).toInt = x.toInt + y.toInt := by
  rw [Int32.toInt_add]
  exact Int.bmod_eq_of_le (by omega) (by omega)
theorem z_sub {x y : Int32} (h1 : -2147483648 ≤ x.toInt - y.toInt) (h2 : x.toInt - y.toInt < 2147483648) : (x - y).toInt = x.toInt - y.toInt := by
  rw [Int32.toInt_sub]
  exact Int.bmod_eq_of_le (by omega) (by omega)
theorem z_n {n : Nat} (h : n < 2147483648) : (nI n).toInt = (n : Int) := nI_toInt (by omega)
theorem z_in {x : Int32} {n : Nat} (h1 : 0 ≤ x.toInt) (h2 : x.toInt < n) : vp_in x n := vp_in_iff.mpr ⟨h1, h2⟩
/-- a loop that counts up to B -/
theorem ms_up {x y B : Int32} {n : Nat} (c : ¬ B ≤ x) (e : y = x + 1) (hm : (B.toInt - x.toInt).toNat < n + 1) : (B.toInt - y.toInt).toNat < n := by
  have h := z_b B
  have h2 := z_b x
  rw [z_le] at c
  rw [e, z_add (by rw [z_1]; omega) (by rw [z_1]; omega), z_1]
  omega
theorem ms_upe {x y B : Int32} {n : Nat} (c : ¬ B < x) (e : y = x + 1) (hB : B.toInt < 2147483647) (hm : (B.toInt + 1 - x.toInt).toNat < n + 1) : (B.toInt + 1 - y.toInt).toNat < n := by
  have h2 := z_b x
  rw [z_lt] at c
  rw [e, z_add (by rw [z_1]; omega) (by rw [z_1]; omega), z_1]
  omega
/-- a row: its size is one of its array's -/
def RowOk (N : Nat) (sz : Int32) : Prop := 0 ≤ sz.toInt ∧ sz.toInt ≤ N
theorem row_cut {N : Nat} {sz n : Int32} (hok : RowOk N sz) (c1 : ¬ n < 0) (c2 : ¬ sz < n) : RowOk N n := by
  have h := hok.2
  rw [z_lt, z_0] at c1
  rw [z_lt] at c2
  exact ⟨by omega, by omega⟩
theorem row_in {N : Nat} {sz : Int32} (hN : N ≤ 2000) (hok : RowOk N sz) (c : ¬ nI N ≤ sz) : vp_in sz N := by
  rw [z_le, z_n (by omega)] at c
  exact z_in hok.1 (by omega)
theorem row_add {N : Nat} {sz y : Int32} (hN : N ≤ 2000) (hok : RowOk N sz) (c : ¬ nI N ≤ sz) (e : y = sz + 1) : RowOk N y ∧ (sz.toInt < N → y.toInt = sz.toInt + 1) := by
  rw [z_le, z_n (by omega)] at c
  have h := hok.1
  have e2 : y.toInt = sz.toInt + 1 := by rw [e, z_add (by rw [z_1]; omega) (by rw [z_1]; omega), z_1]
  exact ⟨⟨by omega, by omega⟩, fun _ => e2⟩
theorem row_full {N : Nat} {sz : Int32} (hN : N ≤ 2000) (c : nI N ≤ sz) : sz.toInt < N → sz.toInt = sz.toInt + 1 := by
  rw [z_le, z_n (by omega)] at c
  omega
theorem up_0 {x y B : Int32} (h : 0 ≤ x.toInt) (c : ¬ B ≤ x) (e : y = x + 1) : 0 ≤ y.toInt := by
  have hB := z_b B
  rw [z_le] at c
  rw [e, z_add (by rw [z_1]; omega) (by rw [z_1]; omega), z_1]
  omega
theorem lenS_small : ∀ k, k < nS → lenS.getD k 0 < 2147483648 := by decide +kernel
theorem z_nle {x B : Int32} (c : ¬ B ≤ x) : x.toInt < B.toInt := by rw [z_le] at c; omega
/-! a tree's nodes -/
theorem tr_h1 {i size : Int32} (c1 : ¬ i < 0) (c2 : ¬ size ≤ i) : 0 ≤ i.toInt ∧ i.toInt < size.toInt := by
  rw [z_lt, z_0] at c1
  rw [z_le] at c2
  exact ⟨by omega, by omega⟩
theorem tr_h2 {i size : Int32} (c1 : i < 0) : ¬ (0 ≤ i.toInt ∧ i.toInt < size.toInt) := by
  rw [z_lt, z_0] at c1
  omega
theorem tr_h3 {i size : Int32} (c2 : size ≤ i) : ¬ (0 ≤ i.toInt ∧ i.toInt < size.toInt) := by
  rw [z_le] at c2
  omega
theorem tr_in {i size r : Int32} (hs : RowOk 1000 size) (h : (r = 1 ∧ 0 ≤ i.toInt ∧ i.toInt < size.toInt) ∨ (r = 0 ∧ ¬ (0 ≤ i.toInt ∧ i.toInt < size.toInt))) (c : ¬ r = 0) : vp_in i 1000 := by
  rcases h with h | h
  · have := hs.2
    exact z_in h.2.1 (by omega)
  · exact absurd h.1 c
def tr_num (size : Int32) (f : Nat → Int32) (i : Int32) : Int32 := if 0 ≤ i.toInt ∧ i.toInt < size.toInt then f i.toNatClampNeg else 0
theorem tr_num1 {i size r x : Int32} {f : Nat → Int32} (h : (r = 1 ∧ 0 ≤ i.toInt ∧ i.toInt < size.toInt) ∨ (r = 0 ∧ ¬ (0 ≤ i.toInt ∧ i.toInt < size.toInt))) (c : ¬ r = 0) (e : x = f i.toNatClampNeg) : tr_num size f i = x := by
  rcases h with h | h
  · rw [tr_num, if_pos h.2, e]
  · exact absurd h.1 c
theorem tr_num0 {i size r : Int32} {f : Nat → Int32} (h : (r = 1 ∧ 0 ≤ i.toInt ∧ i.toInt < size.toInt) ∨ (r = 0 ∧ ¬ (0 ≤ i.toInt ∧ i.toInt < size.toInt))) (c : r = 0) : tr_num size f i = 0 := by
  rcases h with h | h
  · rw [h.1] at c
    exact absurd c (by decide)
  · rw [tr_num, if_neg h.2]
