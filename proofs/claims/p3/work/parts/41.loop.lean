theorem sw_P {D : va_G} {a b : va_W} {H : Heap} (h : va_P D vwCl (a ++ b) H) : va_P D vwCl (b ++ a) H := by
  intro k z hk
  have hm := List.mem_of_getElem? hk
  obtain ⟨j, hj⟩ := List.getElem?_of_mem (List.mem_append.mpr (List.mem_append.mp hm).symm)
  exact h j z hj
theorem sw_ix {a b : va_W} (k : Nat) (z : Nat × va_E) (hk : (b ++ a)[k]? = some z) : (a ++ b)[if k < b.length then a.length + k else k - b.length]? = some z := by
  have hlt : k < (b ++ a).length := (List.getElem?_eq_some_iff.mp hk).1
  rw [List.length_append] at hlt
  by_cases h1 : k < b.length
  · rw [if_pos h1, List.getElem?_append_right (by omega)]
    rw [List.getElem?_append_left h1] at hk
    rw [show a.length + k - a.length = k by omega]
    exact hk
  · rw [if_neg h1, List.getElem?_append_left (by omega)]
    rw [List.getElem?_append_right (by omega)] at hk
    exact hk
theorem sw_D {A : Nat → Prop} {a b : va_W} (h : va_D A (a ++ b)) : va_D A (b ++ a) := by
  refine ⟨fun i j x y hi hj hxy => ?_, fun k z hk => h.2 _ z (sw_ix k z hk)⟩
  have e := h.1 _ _ x y (sw_ix i x hi) (sw_ix j y hj) hxy
  have li : i < (b ++ a).length := (List.getElem?_eq_some_iff.mp hi).1
  have lj : j < (b ++ a).length := (List.getElem?_eq_some_iff.mp hj).1
  rw [List.length_append] at li lj
  split at e <;> split at e <;> omega
theorem nd_range' : ∀ (n s : Nat), va_nd (List.range' s n) = true := by
  intro n
  induction n with
  | zero => intro s; rfl
  | succ n ih =>
    intro s
    rw [List.range'_succ]
    show (decide (s ∉ List.range' (s + 1) n) && va_nd (List.range' (s + 1) n)) = true
    rw [ih, Bool.and_true, decide_eq_true_eq]
    simp [List.mem_range']
    intros
    omega
theorem nd_range (n : Nat) : va_nd (List.range n) = true := by
  rw [List.range_eq_range']
  exact nd_range' n 0
theorem range_get (X : va_W) : (List.range X.length).map (fun i => X[i]?) = X.map some := by
  apply List.ext_getElem?
  intro n
  simp only [List.getElem?_map]
  by_cases h : n < X.length
  · rw [List.getElem?_range h, List.getElem?_eq_getElem h]
    simp [h]
  · rw [List.getElem?_eq_none (by simpa using h), List.getElem?_eq_none (by simpa using h)]
    rfl
theorem xW_head (G : GG) (x : Nat) (u : SX) : ∃ fs, (x, .inr (0, fs)) ∈ xW G x u := by
  obtain ⟨fl, ad, fv, iv⟩ := u
  cases fl
  · exact ⟨_, List.mem_cons_self⟩
  · exact ⟨_, List.mem_cons_self⟩
theorem mW_head (G : GG) (x : Nat) (u : SM) : ∃ fs, (x, .inr (5, fs)) ∈ mW G x u := by
  obtain ⟨tx, ⟨al, pt⟩, ad, iv, fv, pl⟩ := u
  exact ⟨_, List.mem_cons_self⟩
theorem law_recv {s : State} {H : Heap} {G : GG} {A : Nat → Prop} {a ci : Nat} {q : vw_C} {fs : List Value} {ws : va_W} (hE : KE G A s) (hP : va_P G.1 vwCl ws H) (hc : vwCl[ci]? = some q) (hm : (a, .inr (ci, fs)) ∈ ws) : ∃ cell : Cell, H[a]? = some cell ∧ cell.vm.isStatics = false ∧ s.vm.findClass q.1 = some cell.cls := by
  obtain ⟨k, hk⟩ := List.getElem?_of_mem hm
  exact va_recv hE.1 hP (q0 := k) hc hk
section LAWC
variable {p : Program} {l : Launch} {e : Env} {R : Room} {s : State} {m : MethodId} {args : Array Value} {below : List Frame} {meth : Method} {c : Code} {H : Heap} {locs : List Loc} {cells slots : Nat} {Q : State → Prop}
variable {cc : ByteArray} {pc : Nat} {ls : Array Slot} {rest : List Value} {A : Nat → Prop} {G : GG} {X pl : va_W}
variable {y : MethodName} {bytes cy : ByteArray} {maxL nL mc ms n index : Nat} {rm : Room} {Ts : List Cond} {own C : String} {b : Nat} {As st0 : List Value} {lv : List (Nat × Value)} {ret : Option FieldType}
/-- a call of which only the part pl of the world is the callee's -/
theorem lawcall {S : Type} {post : Int32 → S → Prop} {w1 : S → va_W} (F : CallFix p m c cc nL s args Ts own) (hM : MI l y cy maxL .int rm G (.ref b :: As) pl post w1 mc ms) (cw : CallW R s args own C index y bytes maxL ret (wsU y cy maxL (some .int)) rm mc ms n) (hE : KE G A s)
    (hP : va_P G.1 vwCl (X ++ pl) H) (hD : va_D A (X ++ pl)) (hS : va_S A s.heap H locs) (hA : ∀ q, s.heap.size ≤ q → A q) (hrecv : ∃ cellB : Cell, H[b]? = some cellB ∧ cellB.vm.isStatics = false ∧ s.vm.findClass C = some cellB.cls)
    (hn : As.length = n) (hl : lv_has ls nL lv) (hst : st0 = As.reverse ++ .ref b :: rest) (hro : (rest.map fun v => v.category).sum ≤ 8) (hdg : decode cc pc = .ok (.invokevirtual index, 3)) (hf : cells + mc ≤ R.cells ∧ slots + ms ≤ R.slots)
    (kk : ∀ (r : Int32) (u : S) (H1 : Heap) (locs1 : List Loc), post r u → va_P G.1 vwCl (X ++ w1 u) H1 → va_D A (X ++ w1 u) → va_S A s.heap H1 locs1 → W p l e R s m args below meth c H1 locs1 (cells + mc) (slots + ms) Q (F0 m (pc + 3) ls (.int r :: rest))) : W p l e R s m args below meth c H locs cells slots Q (F0 m pc ls st0) := by
  refine gp_i (X := X) (cx := []) (wr := X) (rx := fun _ => []) (pl1 := w1) (gh_V (wc := [] ++ pl) F (hM H.size) cw (gp_here (X := X) (cx := []) hE hP hD hS hA [] rfl (by decide)) hrecv hn hl hst hro hdg hf) hP hD hS hA [] (List.range X.length) rfl (range_get X) (nd_range _) (fun _ _ h => absurd h List.not_mem_nil) (fun r u H1 locs1 hp hP1 hD1 hS1 => ?_)
  rw [List.append_nil] at hP1 hD1
  exact kk r u H1 locs1 hp hP1 hD1 hS1
theorem lawinit {S : Type} {post : S → Prop} {w1 : S → va_W} (F : CallFix p m c cc nL s args Ts own) (hM : MV l y cy maxL rm G [.ref b] pl post w1 mc ms) (cw : CallB R s args own index y bytes maxL none (wsU y cy maxL none) rm mc ms 0 ∧ y.name = "<init>" ∧ (Cond.instanceMethod y).before args s = true) (hE : KE G A s)
    (hP : va_P G.1 vwCl (X ++ pl) H) (hD : va_D A (X ++ pl)) (hS : va_S A s.heap H locs) (hA : ∀ q, s.heap.size ≤ q → A q)
    (hl : lv_has ls nL lv) (hst : st0 = .ref b :: rest) (hro : (rest.map fun v => v.category).sum ≤ 8) (hdg : decode cc pc = .ok (.invokespecial index, 3)) (hf : cells + mc ≤ R.cells ∧ slots + ms ≤ R.slots)
    (kk : ∀ (u : S) (H1 : Heap) (locs1 : List Loc), post u → va_P G.1 vwCl (X ++ w1 u) H1 → va_D A (X ++ w1 u) → va_S A s.heap H1 locs1 → W p l e R s m args below meth c H1 locs1 (cells + mc) (slots + ms) Q (F0 m (pc + 3) ls rest)) : W p l e R s m args below meth c H locs cells slots Q (F0 m pc ls st0) := by
  refine gp_v (X := X) (cx := []) (wr := X) (rx := fun _ => []) (pl1 := w1) (gh_I (wc := [] ++ pl) (As := []) F (hM H.size) cw (gp_here (X := X) (cx := []) hE hP hD hS hA [] rfl (by decide)) rfl hl hst hro hdg hf) hP hD hS hA [] (List.range X.length) rfl (range_get X) (nd_range _) (fun _ _ h => absurd h List.not_mem_nil) (fun u H1 locs1 hp hP1 hD1 hS1 => ?_)
  rw [List.append_nil] at hP1 hD1
  exact kk u H1 locs1 hp hP1 hD1 hS1
end LAWC
theorem fdT_b {z : Int32} (h : 0 ≤ z.toInt ∧ z.toInt ≤ 1000) : 0 ≤ (fdT z).toInt ∧ (fdT z).toInt ≤ z.toInt + 20 := by
  unfold fdT
  by_cases q : z.toInt + 20 ≤ 1000
  · rw [if_pos q]
    have t20 : (20 : Int32).toInt = 20 := by decide
    rw [z_add (by rw [t20]; omega) (by rw [t20]; omega), t20]
    omega
  · rw [if_neg q]; omega
theorem edT_b {z n : Int32} (h : 0 ≤ z.toInt) : 0 ≤ (edT z n).toInt ∧ (edT z n).toInt ≤ z.toInt := by
  unfold edT
  by_cases q : 0 ≤ n.toInt ∧ n.toInt ≤ z.toInt
  · rw [if_pos q]; exact q
  · rw [if_neg q]; omega
theorem gw_V_feed : GoodIn bigW (wsV R_law 13 R_V y_V_feed (wsU y_V_feed b_V_feed 6 (some .int))) := good_V (big_r (i := 81) (show tables_1[81]? = some (Cond.methodLink R_L 13 y_V_feed) by decide +kernel) (by decide +kernel)) (big_r (i := 82) (show tables_1[82]? = some (Cond.instanceMethod y_V_feed) by decide +kernel) (by decide +kernel)) (big_r (i := 83) (show tables_1[83]? = some (Cond.selects R_V y_V_feed y_V_feed) by decide +kernel) (by decide +kernel)) (big_r (i := 1) (show tables_1[1]? = some (Cond.initialized R_V) by decide +kernel) (by decide +kernel)) (big_r (i := 84) (show tables_1[84]? = some (Cond.code y_V_feed b_V_feed 6 (some .int)) by decide +kernel) (by decide +kernel))
theorem gw_M_feed : GoodIn bigW (wsV R_law 17 R_M y_M_feed (wsU y_M_feed b_M_feed 8 (some .int))) := good_V (big_r (i := 490) (show tables_1[490]? = some (Cond.methodLink R_L 17 y_M_feed) by decide +kernel) (by decide +kernel)) (big_r (i := 491) (show tables_1[491]? = some (Cond.instanceMethod y_M_feed) by decide +kernel) (by decide +kernel)) (big_r (i := 492) (show tables_1[492]? = some (Cond.selects R_M y_M_feed y_M_feed) by decide +kernel) (by decide +kernel)) (big_r (i := 4) (show tables_1[4]? = some (Cond.initialized R_M) by decide +kernel) (by decide +kernel)) (big_r (i := 493) (show tables_1[493]? = some (Cond.code y_M_feed b_M_feed 8 (some .int)) by decide +kernel) (by decide +kernel))
theorem gw_V_end : GoodIn bigW (wsV R_law 18 R_V y_V_end (wsU y_V_end b_V_end 2 (some .int))) := good_V (big_r (i := 97) (show tables_1[97]? = some (Cond.methodLink R_L 18 y_V_end) by decide +kernel) (by decide +kernel)) (big_r (i := 98) (show tables_1[98]? = some (Cond.instanceMethod y_V_end) by decide +kernel) (by decide +kernel)) (big_r (i := 99) (show tables_1[99]? = some (Cond.selects R_V y_V_end y_V_end) by decide +kernel) (by decide +kernel)) (big_r (i := 1) (show tables_1[1]? = some (Cond.initialized R_V) by decide +kernel) (by decide +kernel)) (big_r (i := 100) (show tables_1[100]? = some (Cond.code y_V_end b_V_end 2 (some .int)) by decide +kernel) (by decide +kernel))
theorem gw_M_end : GoodIn bigW (wsV R_law 22 R_M y_M_end (wsU y_M_end b_M_end 2 (some .int))) := good_V (big_r (i := 494) (show tables_1[494]? = some (Cond.methodLink R_L 22 y_M_end) by decide +kernel) (by decide +kernel)) (big_r (i := 495) (show tables_1[495]? = some (Cond.instanceMethod y_M_end) by decide +kernel) (by decide +kernel)) (big_r (i := 496) (show tables_1[496]? = some (Cond.selects R_M y_M_end y_M_end) by decide +kernel) (by decide +kernel)) (big_r (i := 4) (show tables_1[4]? = some (Cond.initialized R_M) by decide +kernel) (by decide +kernel)) (big_r (i := 497) (show tables_1[497]? = some (Cond.code y_M_end b_M_end 2 (some .int)) by decide +kernel) (by decide +kernel))
theorem gw_V_read : GoodIn bigW (wsV R_law 23 R_V y_V_read (wsU y_V_read b_V_read 3 (some .int))) := good_V (big_r (i := 105) (show tables_1[105]? = some (Cond.methodLink R_L 23 y_V_read) by decide +kernel) (by decide +kernel)) (big_r (i := 106) (show tables_1[106]? = some (Cond.instanceMethod y_V_read) by decide +kernel) (by decide +kernel)) (big_r (i := 107) (show tables_1[107]? = some (Cond.selects R_V y_V_read y_V_read) by decide +kernel) (by decide +kernel)) (big_r (i := 1) (show tables_1[1]? = some (Cond.initialized R_V) by decide +kernel) (by decide +kernel)) (big_r (i := 108) (show tables_1[108]? = some (Cond.code y_V_read b_V_read 3 (some .int)) by decide +kernel) (by decide +kernel))
theorem gw_M_read : GoodIn bigW (wsV R_law 27 R_M y_M_read (wsU y_M_read b_M_read 2 (some .int))) := good_V (big_r (i := 501) (show tables_1[501]? = some (Cond.methodLink R_L 27 y_M_read) by decide +kernel) (by decide +kernel)) (big_r (i := 502) (show tables_1[502]? = some (Cond.instanceMethod y_M_read) by decide +kernel) (by decide +kernel)) (big_r (i := 503) (show tables_1[503]? = some (Cond.selects R_M y_M_read y_M_read) by decide +kernel) (by decide +kernel)) (big_r (i := 4) (show tables_1[4]? = some (Cond.initialized R_M) by decide +kernel) (by decide +kernel)) (big_r (i := 504) (show tables_1[504]? = some (Cond.code y_M_read b_M_read 2 (some .int)) by decide +kernel) (by decide +kernel))
theorem gw_V_write : GoodIn bigW (wsV R_law 28 R_V y_V_write (wsU y_V_write b_V_write 1 (some .int))) := good_V (big_r (i := 316) (show tables_1[316]? = some (Cond.methodLink R_L 28 y_V_write) by decide +kernel) (by decide +kernel)) (big_r (i := 317) (show tables_1[317]? = some (Cond.instanceMethod y_V_write) by decide +kernel) (by decide +kernel)) (big_r (i := 318) (show tables_1[318]? = some (Cond.selects R_V y_V_write y_V_write) by decide +kernel) (by decide +kernel)) (big_r (i := 1) (show tables_1[1]? = some (Cond.initialized R_V) by decide +kernel) (by decide +kernel)) (big_r (i := 319) (show tables_1[319]? = some (Cond.code y_V_write b_V_write 1 (some .int)) by decide +kernel) (by decide +kernel))
theorem gw_M_write : GoodIn bigW (wsV R_law 31 R_M y_M_write (wsU y_M_write b_M_write 1 (some .int))) := good_V (big_r (i := 711) (show tables_1[711]? = some (Cond.methodLink R_L 31 y_M_write) by decide +kernel) (by decide +kernel)) (big_r (i := 712) (show tables_1[712]? = some (Cond.instanceMethod y_M_write) by decide +kernel) (by decide +kernel)) (big_r (i := 713) (show tables_1[713]? = some (Cond.selects R_M y_M_write y_M_write) by decide +kernel) (by decide +kernel)) (big_r (i := 4) (show tables_1[4]? = some (Cond.initialized R_M) by decide +kernel) (by decide +kernel)) (big_r (i := 714) (show tables_1[714]? = some (Cond.code y_M_write b_M_write 1 (some .int)) by decide +kernel) (by decide +kernel))
theorem gw_V_top : GoodIn bigW (wsV R_law 32 R_V y_V_top (wsU y_V_top b_V_top 1 (some .int))) := good_V (big_r (i := 393) (show tables_1[393]? = some (Cond.methodLink R_L 32 y_V_top) by decide +kernel) (by decide +kernel)) (big_r (i := 394) (show tables_1[394]? = some (Cond.instanceMethod y_V_top) by decide +kernel) (by decide +kernel)) (big_r (i := 395) (show tables_1[395]? = some (Cond.selects R_V y_V_top y_V_top) by decide +kernel) (by decide +kernel)) (big_r (i := 1) (show tables_1[1]? = some (Cond.initialized R_V) by decide +kernel) (by decide +kernel)) (big_r (i := 396) (show tables_1[396]? = some (Cond.code y_V_top b_V_top 1 (some .int)) by decide +kernel) (by decide +kernel))
theorem gw_M_top : GoodIn bigW (wsV R_law 35 R_M y_M_top (wsU y_M_top b_M_top 1 (some .int))) := good_V (big_r (i := 671) (show tables_1[671]? = some (Cond.methodLink R_L 35 y_M_top) by decide +kernel) (by decide +kernel)) (big_r (i := 672) (show tables_1[672]? = some (Cond.instanceMethod y_M_top) by decide +kernel) (by decide +kernel)) (big_r (i := 673) (show tables_1[673]? = some (Cond.selects R_M y_M_top y_M_top) by decide +kernel) (by decide +kernel)) (big_r (i := 4) (show tables_1[4]? = some (Cond.initialized R_M) by decide +kernel) (by decide +kernel)) (big_r (i := 674) (show tables_1[674]? = some (Cond.code y_M_top b_M_top 1 (some .int)) by decide +kernel) (by decide +kernel))
theorem gw_V_item : GoodIn bigW (wsV R_law 36 R_V y_V_item (wsU y_V_item b_V_item 2 (some .int))) := good_V (big_r (i := 401) (show tables_1[401]? = some (Cond.methodLink R_L 36 y_V_item) by decide +kernel) (by decide +kernel)) (big_r (i := 402) (show tables_1[402]? = some (Cond.instanceMethod y_V_item) by decide +kernel) (by decide +kernel)) (big_r (i := 403) (show tables_1[403]? = some (Cond.selects R_V y_V_item y_V_item) by decide +kernel) (by decide +kernel)) (big_r (i := 1) (show tables_1[1]? = some (Cond.initialized R_V) by decide +kernel) (by decide +kernel)) (big_r (i := 404) (show tables_1[404]? = some (Cond.code y_V_item b_V_item 2 (some .int)) by decide +kernel) (by decide +kernel))
theorem gw_M_item : GoodIn bigW (wsV R_law 39 R_M y_M_item (wsU y_M_item b_M_item 2 (some .int))) := good_V (big_r (i := 679) (show tables_1[679]? = some (Cond.methodLink R_L 39 y_M_item) by decide +kernel) (by decide +kernel)) (big_r (i := 680) (show tables_1[680]? = some (Cond.instanceMethod y_M_item) by decide +kernel) (by decide +kernel)) (big_r (i := 681) (show tables_1[681]? = some (Cond.selects R_M y_M_item y_M_item) by decide +kernel) (by decide +kernel)) (big_r (i := 4) (show tables_1[4]? = some (Cond.initialized R_M) by decide +kernel) (by decide +kernel)) (big_r (i := 682) (show tables_1[682]? = some (Cond.code y_M_item b_M_item 2 (some .int)) by decide +kernel) (by decide +kernel))
theorem gw_V_find : GoodIn bigW (wsV R_law 40 R_V y_V_find (wsU y_V_find b_V_find 2 (some .int))) := good_V (big_r (i := 417) (show tables_1[417]? = some (Cond.methodLink R_L 40 y_V_find) by decide +kernel) (by decide +kernel)) (big_r (i := 418) (show tables_1[418]? = some (Cond.instanceMethod y_V_find) by decide +kernel) (by decide +kernel)) (big_r (i := 419) (show tables_1[419]? = some (Cond.selects R_V y_V_find y_V_find) by decide +kernel) (by decide +kernel)) (big_r (i := 1) (show tables_1[1]? = some (Cond.initialized R_V) by decide +kernel) (by decide +kernel)) (big_r (i := 420) (show tables_1[420]? = some (Cond.code y_V_find b_V_find 2 (some .int)) by decide +kernel) (by decide +kernel))
theorem gw_M_find : GoodIn bigW (wsV R_law 43 R_M y_M_find (wsU y_M_find b_M_find 2 (some .int))) := good_V (big_r (i := 683) (show tables_1[683]? = some (Cond.methodLink R_L 43 y_M_find) by decide +kernel) (by decide +kernel)) (big_r (i := 684) (show tables_1[684]? = some (Cond.instanceMethod y_M_find) by decide +kernel) (by decide +kernel)) (big_r (i := 685) (show tables_1[685]? = some (Cond.selects R_M y_M_find y_M_find) by decide +kernel) (by decide +kernel)) (big_r (i := 4) (show tables_1[4]? = some (Cond.initialized R_M) by decide +kernel) (by decide +kernel)) (big_r (i := 686) (show tables_1[686]? = some (Cond.code y_M_find b_M_find 2 (some .int)) by decide +kernel) (by decide +kernel))
theorem gw_V_look : GoodIn bigW (wsV R_law 44 R_V y_V_look (wsU y_V_look b_V_look 2 (some .int))) := good_V (big_r (i := 422) (show tables_1[422]? = some (Cond.methodLink R_L 44 y_V_look) by decide +kernel) (by decide +kernel)) (big_r (i := 423) (show tables_1[423]? = some (Cond.instanceMethod y_V_look) by decide +kernel) (by decide +kernel)) (big_r (i := 424) (show tables_1[424]? = some (Cond.selects R_V y_V_look y_V_look) by decide +kernel) (by decide +kernel)) (big_r (i := 1) (show tables_1[1]? = some (Cond.initialized R_V) by decide +kernel) (by decide +kernel)) (big_r (i := 425) (show tables_1[425]? = some (Cond.code y_V_look b_V_look 2 (some .int)) by decide +kernel) (by decide +kernel))
theorem gw_M_look : GoodIn bigW (wsV R_law 47 R_M y_M_look (wsU y_M_look b_M_look 2 (some .int))) := good_V (big_r (i := 687) (show tables_1[687]? = some (Cond.methodLink R_L 47 y_M_look) by decide +kernel) (by decide +kernel)) (big_r (i := 688) (show tables_1[688]? = some (Cond.instanceMethod y_M_look) by decide +kernel) (by decide +kernel)) (big_r (i := 689) (show tables_1[689]? = some (Cond.selects R_M y_M_look y_M_look) by decide +kernel) (by decide +kernel)) (big_r (i := 4) (show tables_1[4]? = some (Cond.initialized R_M) by decide +kernel) (by decide +kernel)) (big_r (i := 690) (show tables_1[690]? = some (Cond.code y_M_look b_M_look 2 (some .int)) by decide +kernel) (by decide +kernel))
theorem gw_V_bytes : GoodIn bigW (wsV R_law 48 R_V y_V_bytes (wsU y_V_bytes b_V_bytes 3 (some .int))) := good_V (big_r (i := 432) (show tables_1[432]? = some (Cond.methodLink R_L 48 y_V_bytes) by decide +kernel) (by decide +kernel)) (big_r (i := 433) (show tables_1[433]? = some (Cond.instanceMethod y_V_bytes) by decide +kernel) (by decide +kernel)) (big_r (i := 434) (show tables_1[434]? = some (Cond.selects R_V y_V_bytes y_V_bytes) by decide +kernel) (by decide +kernel)) (big_r (i := 1) (show tables_1[1]? = some (Cond.initialized R_V) by decide +kernel) (by decide +kernel)) (big_r (i := 435) (show tables_1[435]? = some (Cond.code y_V_bytes b_V_bytes 3 (some .int)) by decide +kernel) (by decide +kernel))
theorem gw_M_bytes : GoodIn bigW (wsV R_law 51 R_M y_M_bytes (wsU y_M_bytes b_M_bytes 2 (some .int))) := good_V (big_r (i := 697) (show tables_1[697]? = some (Cond.methodLink R_L 51 y_M_bytes) by decide +kernel) (by decide +kernel)) (big_r (i := 698) (show tables_1[698]? = some (Cond.instanceMethod y_M_bytes) by decide +kernel) (by decide +kernel)) (big_r (i := 699) (show tables_1[699]? = some (Cond.selects R_M y_M_bytes y_M_bytes) by decide +kernel) (by decide +kernel)) (big_r (i := 4) (show tables_1[4]? = some (Cond.initialized R_M) by decide +kernel) (by decide +kernel)) (big_r (i := 700) (show tables_1[700]? = some (Cond.code y_M_bytes b_M_bytes 2 (some .int)) by decide +kernel) (by decide +kernel))
theorem gw_V_octet : GoodIn bigW (wsV R_law 52 R_V y_V_octet (wsU y_V_octet b_V_octet 2 (some .int))) := good_V (big_r (i := 442) (show tables_1[442]? = some (Cond.methodLink R_L 52 y_V_octet) by decide +kernel) (by decide +kernel)) (big_r (i := 443) (show tables_1[443]? = some (Cond.instanceMethod y_V_octet) by decide +kernel) (by decide +kernel)) (big_r (i := 444) (show tables_1[444]? = some (Cond.selects R_V y_V_octet y_V_octet) by decide +kernel) (by decide +kernel)) (big_r (i := 1) (show tables_1[1]? = some (Cond.initialized R_V) by decide +kernel) (by decide +kernel)) (big_r (i := 445) (show tables_1[445]? = some (Cond.code y_V_octet b_V_octet 2 (some .int)) by decide +kernel) (by decide +kernel))
theorem gw_M_octet : GoodIn bigW (wsV R_law 55 R_M y_M_octet (wsU y_M_octet b_M_octet 2 (some .int))) := good_V (big_r (i := 706) (show tables_1[706]? = some (Cond.methodLink R_L 55 y_M_octet) by decide +kernel) (by decide +kernel)) (big_r (i := 707) (show tables_1[707]? = some (Cond.instanceMethod y_M_octet) by decide +kernel) (by decide +kernel)) (big_r (i := 708) (show tables_1[708]? = some (Cond.selects R_M y_M_octet y_M_octet) by decide +kernel) (by decide +kernel)) (big_r (i := 4) (show tables_1[4]? = some (Cond.initialized R_M) by decide +kernel) (by decide +kernel)) (big_r (i := 709) (show tables_1[709]? = some (Cond.code y_M_octet b_M_octet 2 (some .int)) by decide +kernel) (by decide +kernel))
set_option maxHeartbeats 4000000 in
set_option maxRecDepth 100000 in
theorem lc_feed {p : Program} {e : Env} {s : State} {m : MethodId} {below : List Frame} {meth : Method} {c : Code} (l : Launch) {b L : Nat} {xs : Nat → Int32} (hL : L ≤ 3072) (C0 : lw_At p s m meth c b L xs) {G : GG} (hE : KE G (fun q : Nat => s.heap.size ≤ q) s) (x mm : Nat) (k : Nat) (hk : 6 * k + 6 ≤ L) (i : Int32) (hi : i.toInt = 6 * k) (u : SX) (v : SM) (cn sn : Nat) (ls : Array Slot) (hl : lv_has ls 4 [(3, .int i), (2, .ref mm), (1, .ref x), (0, .ref b)]) (hT : (∀ (u1 : SX) (v1 : SM) (cn1 sn1 : Nat) (H : Heap) (locs : List Loc), xOk u1 → mOk G v1 → u1.2.2.2 0 = v1.2.2.2.1 2 → cn1 + 3 * (v1.2.2.2.1 2).toInt.toNat ≤ 40 + 120 * (k + 1) → sn1 + 140 * (v1.2.2.2.1 2).toInt.toNat ≤ 17200 + 10520 * (k + 1) → va_P G.1 vwCl (xW G x u1 ++ mW G mm v1) H → va_D (fun q : Nat => s.heap.size ≤ q) (xW G x u1 ++ mW G mm v1) → va_S (fun q : Nat => s.heap.size ≤ q) s.heap H locs → W p l e room_1 s m #[Value.ref b] below meth c H locs cn1 sn1 (lw_Z below #[Value.ref b] s) (F0 m 318 ls []))) (H : Heap) (locs : List Loc) : xOk u → mOk G v → u.2.2.2 0 = v.2.2.2.1 2 → cn + 3 * (v.2.2.2.1 2).toInt.toNat ≤ 40 + 120 * k → sn + 140 * (v.2.2.2.1 2).toInt.toNat ≤ 17200 + 10520 * k → va_P G.1 vwCl (xW G x u ++ mW G mm v) H → va_D (fun q : Nat => s.heap.size ≤ q) (xW G x u ++ mW G mm v) → va_S (fun q : Nat => s.heap.size ≤ q) s.heap H locs → W p l e room_1 s m #[Value.ref b] below meth c H locs cn sn (lw_Z below #[Value.ref b] s) (F0 m 88 ls []) := by
  obtain ⟨hx, hb, hr, hml, hown, hts, hX, hbl, hlocks, hgv⟩ := id C0
  have hA : ∀ q : Nat, s.heap.size ≤ q → (fun q : Nat => s.heap.size ≤ q) q := fun _ h => h
  have hbA : ¬ (fun q : Nat => s.heap.size ≤ q) b := Nat.not_le.mpr hbl
  have hw : ∀ w ∈ bigW, w.before #[Value.ref b] s = true := fun w h => hts w (List.mem_filter.mp h).1
  have hown : s.vm.findClass R_law = some m.cls := hown
  intro hu hv huv hcn hsn hP hD hS
  have hv1 := hv.1
  have tl_1 : (1 : Int32).toInt = 1 := by decide
  have tl_2 : (2 : Int32).toInt = 2 := by decide
  have tl_3 : (3 : Int32).toInt = 3 := by decide
  have tl_4 : (4 : Int32).toInt = 4 := by decide
  have tl_5 : (5 : Int32).toInt = 5 := by decide
  refine lv_aload_n hx hb d_law_88 rfl (lv_at hl 2 rfl) ?_
  refine lv_aload_n hx hb d_law_89 rfl (lv_at hl 3 rfl) ?_
  refine lv_iload_n hx hb d_law_90 rfl (lv_at hl 0 rfl) ?_
  refine lv_iconst (v := 1) hx hb d_law_91 (by decide) ?_
  refine lv_iadd hx hb d_law_92 ?_
  refine lv_topi (fun yV1 eyV1 => ?_)
  have tyV1 := z_addE eyV1
  refine va_sld hx hb hX hbl hbA hS (z_in (by omega) (by omega)) d_law_93 ?_
  obtain ⟨nV1, hnV1⟩ : ∃ z : Int32, z = xs yV1.toNatClampNeg := ⟨_, rfl⟩
  rw [← hnV1]
  refine lv_aload_n hx hb d_law_94 rfl (lv_at hl 3 rfl) ?_
  refine lv_iload_n hx hb d_law_95 rfl (lv_at hl 0 rfl) ?_
  refine lv_iconst (v := 2) hx hb d_law_96 (by decide) ?_
  refine lv_iadd hx hb d_law_97 ?_
  refine lv_topi (fun yV2 eyV2 => ?_)
  have tyV2 := z_addE eyV2
  refine va_sld hx hb hX hbl hbA hS (z_in (by omega) (by omega)) d_law_98 ?_
  obtain ⟨nV2, hnV2⟩ : ∃ z : Int32, z = xs yV2.toNatClampNeg := ⟨_, rfl⟩
  rw [← hnV2]
  refine lv_aload_n hx hb d_law_99 rfl (lv_at hl 3 rfl) ?_
  refine lv_iload_n hx hb d_law_100 rfl (lv_at hl 0 rfl) ?_
  refine lv_iconst (v := 3) hx hb d_law_101 (by decide) ?_
  refine lv_iadd hx hb d_law_102 ?_
  refine lv_topi (fun yV3 eyV3 => ?_)
  have tyV3 := z_addE eyV3
  refine va_sld hx hb hX hbl hbA hS (z_in (by omega) (by omega)) d_law_103 ?_
  obtain ⟨nV3, hnV3⟩ : ∃ z : Int32, z = xs yV3.toNatClampNeg := ⟨_, rfl⟩
  rw [← hnV3]
  refine lv_aload_n hx hb d_law_104 rfl (lv_at hl 3 rfl) ?_
  refine lv_iload_n hx hb d_law_105 rfl (lv_at hl 0 rfl) ?_
  refine lv_iconst (v := 4) hx hb d_law_106 (by decide) ?_
  refine lv_iadd hx hb d_law_107 ?_
  refine lv_topi (fun yV4 eyV4 => ?_)
  have tyV4 := z_addE eyV4
  refine va_sld hx hb hX hbl hbA hS (z_in (by omega) (by omega)) d_law_108 ?_
  obtain ⟨nV4, hnV4⟩ : ∃ z : Int32, z = xs yV4.toNatClampNeg := ⟨_, rfl⟩
  rw [← hnV4]
  refine lv_aload_n hx hb d_law_109 rfl (lv_at hl 3 rfl) ?_
  refine lv_iload_n hx hb d_law_110 rfl (lv_at hl 0 rfl) ?_
  refine lv_iconst (v := 5) hx hb d_law_111 (by decide) ?_
  refine lv_iadd hx hb d_law_112 ?_
  refine lv_topi (fun yV5 eyV5 => ?_)
  have tyV5 := z_addE eyV5
  refine va_sld hx hb hX hbl hbA hS (z_in (by omega) (by omega)) d_law_113 ?_
  obtain ⟨nV5, hnV5⟩ : ∃ z : Int32, z = xs yV5.toNatClampNeg := ⟨_, rfl⟩
  rw [← hnV5]
  have hP := sw_P hP
  have hD := sw_D hD
  refine lawcall (X := mW G mm v) (pl := xW G x u) (As := [.int nV1, .int nV2, .int nV3, .int nV4, .int nV5]) (rest := []) (w1 := fun w => xW G x w) ⟨hx, hb, hml, hown, hw⟩ (k_V_feed l G x u nV1 nV2 nV3 nV4 nV5 hu) (cwV 5 hw gw_V_feed rfl rfl rfl hy_V_feed ⟨Nat.le_of_ble_eq_true rfl, Nat.le_of_ble_eq_true rfl⟩) hE hP hD hS hA (law_recv hE hP (ci := 0) rfl (List.mem_append_right _ (xW_head _ _ _).choose_spec)) rfl hl rfl (Nat.le_of_ble_eq_true rfl) d_law_114 ⟨by show cn + 0 ≤ 600000; omega, by show sn + 0 ≤ 7302249; omega⟩ (fun rV u1 H locs hp1 hP hD hS => ?_)
  refine lv_pop hx hb d_law_117 rfl ?_
  refine lv_aload_n hx hb d_law_118 rfl (lv_at hl 1 rfl) ?_
  refine lv_aload_n hx hb d_law_119 rfl (lv_at hl 3 rfl) ?_
  refine lv_iload_n hx hb d_law_120 rfl (lv_at hl 0 rfl) ?_
  refine lv_iconst (v := 1) hx hb d_law_121 (by decide) ?_
  refine lv_iadd hx hb d_law_122 ?_
  refine lv_topi (fun yM1 eyM1 => ?_)
  have tyM1 := z_addE eyM1
  refine va_sld hx hb hX hbl hbA hS (z_in (by omega) (by omega)) d_law_123 ?_
  obtain ⟨nM1, hnM1⟩ : ∃ z : Int32, z = xs yM1.toNatClampNeg := ⟨_, rfl⟩
  rw [← hnM1]
  refine lv_aload_n hx hb d_law_124 rfl (lv_at hl 3 rfl) ?_
  refine lv_iload_n hx hb d_law_125 rfl (lv_at hl 0 rfl) ?_
  refine lv_iconst (v := 2) hx hb d_law_126 (by decide) ?_
  refine lv_iadd hx hb d_law_127 ?_
  refine lv_topi (fun yM2 eyM2 => ?_)
  have tyM2 := z_addE eyM2
  refine va_sld hx hb hX hbl hbA hS (z_in (by omega) (by omega)) d_law_128 ?_
  obtain ⟨nM2, hnM2⟩ : ∃ z : Int32, z = xs yM2.toNatClampNeg := ⟨_, rfl⟩
  rw [← hnM2]
  refine lv_aload_n hx hb d_law_129 rfl (lv_at hl 3 rfl) ?_
  refine lv_iload_n hx hb d_law_130 rfl (lv_at hl 0 rfl) ?_
  refine lv_iconst (v := 3) hx hb d_law_131 (by decide) ?_
  refine lv_iadd hx hb d_law_132 ?_
  refine lv_topi (fun yM3 eyM3 => ?_)
  have tyM3 := z_addE eyM3
  refine va_sld hx hb hX hbl hbA hS (z_in (by omega) (by omega)) d_law_133 ?_
  obtain ⟨nM3, hnM3⟩ : ∃ z : Int32, z = xs yM3.toNatClampNeg := ⟨_, rfl⟩
  rw [← hnM3]
  refine lv_aload_n hx hb d_law_134 rfl (lv_at hl 3 rfl) ?_
  refine lv_iload_n hx hb d_law_135 rfl (lv_at hl 0 rfl) ?_
  refine lv_iconst (v := 4) hx hb d_law_136 (by decide) ?_
  refine lv_iadd hx hb d_law_137 ?_
  refine lv_topi (fun yM4 eyM4 => ?_)
  have tyM4 := z_addE eyM4
  refine va_sld hx hb hX hbl hbA hS (z_in (by omega) (by omega)) d_law_138 ?_
  obtain ⟨nM4, hnM4⟩ : ∃ z : Int32, z = xs yM4.toNatClampNeg := ⟨_, rfl⟩
  rw [← hnM4]
  refine lv_aload_n hx hb d_law_139 rfl (lv_at hl 3 rfl) ?_
  refine lv_iload_n hx hb d_law_140 rfl (lv_at hl 0 rfl) ?_
  refine lv_iconst (v := 5) hx hb d_law_141 (by decide) ?_
  refine lv_iadd hx hb d_law_142 ?_
  refine lv_topi (fun yM5 eyM5 => ?_)
  have tyM5 := z_addE eyM5
  refine va_sld hx hb hX hbl hbA hS (z_in (by omega) (by omega)) d_law_143 ?_
  obtain ⟨nM5, hnM5⟩ : ∃ z : Int32, z = xs yM5.toNatClampNeg := ⟨_, rfl⟩
  rw [← hnM5]
  have hP := sw_P hP
  have hD := sw_D hD
  refine lawcall (X := xW G x u1) (pl := mW G mm v) (As := [.int nM1, .int nM2, .int nM3, .int nM4, .int nM5]) (rest := []) (w1 := fun w => mW G mm w) ⟨hx, hb, hml, hown, hw⟩ (k_M_feed l G mm v nM1 nM2 nM3 nM4 nM5 hv) (cwV 5 hw gw_M_feed rfl rfl rfl hy_M_feed ⟨Nat.le_of_ble_eq_true rfl, Nat.le_of_ble_eq_true rfl⟩) hE hP hD hS hA (law_recv hE hP (ci := 5) rfl (List.mem_append_right _ (mW_head _ _ _).choose_spec)) rfl hl rfl (Nat.le_of_ble_eq_true rfl) d_law_144 ⟨by show cn + 0 + 1 ≤ 600000; omega, by show sn + 0 + 5 ≤ 7302249; omega⟩ (fun rM v1 H locs hp2 hP hD hS => ?_)
  refine lv_pop hx hb d_law_147 rfl ?_
  obtain ⟨hu1, hp1⟩ := hp1
  obtain ⟨hv1b, hp2⟩ := hp2
  refine lv_goto (tgt := 318) hx hb d_law_148 (by decide) ?_
  have hz := fdT_b hv1
  have e2 := hp2.2
  refine hT u1 v1 _ _ H locs hu1 hv1b (by rw [hp1.2, hp2.2, huv]) ?_ ?_ hP hD hS
  · rw [e2]; omega
  · rw [e2]; omega
set_option maxHeartbeats 4000000 in
set_option maxRecDepth 100000 in
theorem lc_end {p : Program} {e : Env} {s : State} {m : MethodId} {below : List Frame} {meth : Method} {c : Code} (l : Launch) {b L : Nat} {xs : Nat → Int32} (hL : L ≤ 3072) (C0 : lw_At p s m meth c b L xs) {G : GG} (hE : KE G (fun q : Nat => s.heap.size ≤ q) s) (x mm : Nat) (k : Nat) (hk : 6 * k + 6 ≤ L) (i : Int32) (hi : i.toInt = 6 * k) (u : SX) (v : SM) (cn sn : Nat) (ls : Array Slot) (hl : lv_has ls 4 [(3, .int i), (2, .ref mm), (1, .ref x), (0, .ref b)]) (hT : (∀ (u1 : SX) (v1 : SM) (cn1 sn1 : Nat) (H : Heap) (locs : List Loc), xOk u1 → mOk G v1 → u1.2.2.2 0 = v1.2.2.2.1 2 → cn1 + 3 * (v1.2.2.2.1 2).toInt.toNat ≤ 40 + 120 * (k + 1) → sn1 + 140 * (v1.2.2.2.1 2).toInt.toNat ≤ 17200 + 10520 * (k + 1) → va_P G.1 vwCl (xW G x u1 ++ mW G mm v1) H → va_D (fun q : Nat => s.heap.size ≤ q) (xW G x u1 ++ mW G mm v1) → va_S (fun q : Nat => s.heap.size ≤ q) s.heap H locs → W p l e room_1 s m #[Value.ref b] below meth c H locs cn1 sn1 (lw_Z below #[Value.ref b] s) (F0 m 318 ls []))) (H : Heap) (locs : List Loc) : xOk u → mOk G v → u.2.2.2 0 = v.2.2.2.1 2 → cn + 3 * (v.2.2.2.1 2).toInt.toNat ≤ 40 + 120 * k → sn + 140 * (v.2.2.2.1 2).toInt.toNat ≤ 17200 + 10520 * k → va_P G.1 vwCl (xW G x u ++ mW G mm v) H → va_D (fun q : Nat => s.heap.size ≤ q) (xW G x u ++ mW G mm v) → va_S (fun q : Nat => s.heap.size ≤ q) s.heap H locs → W p l e room_1 s m #[Value.ref b] below meth c H locs cn sn (lw_Z below #[Value.ref b] s) (F0 m 151 ls []) := by
  obtain ⟨hx, hb, hr, hml, hown, hts, hX, hbl, hlocks, hgv⟩ := id C0
  have hA : ∀ q : Nat, s.heap.size ≤ q → (fun q : Nat => s.heap.size ≤ q) q := fun _ h => h
  have hbA : ¬ (fun q : Nat => s.heap.size ≤ q) b := Nat.not_le.mpr hbl
  have hw : ∀ w ∈ bigW, w.before #[Value.ref b] s = true := fun w h => hts w (List.mem_filter.mp h).1
  have hown : s.vm.findClass R_law = some m.cls := hown
  intro hu hv huv hcn hsn hP hD hS
  have hv1 := hv.1
  have tl_1 : (1 : Int32).toInt = 1 := by decide
  have tl_2 : (2 : Int32).toInt = 2 := by decide
  have tl_3 : (3 : Int32).toInt = 3 := by decide
  have tl_4 : (4 : Int32).toInt = 4 := by decide
  have tl_5 : (5 : Int32).toInt = 5 := by decide
  refine lv_aload_n hx hb d_law_151 rfl (lv_at hl 2 rfl) ?_
  refine lv_aload_n hx hb d_law_152 rfl (lv_at hl 3 rfl) ?_
  refine lv_iload_n hx hb d_law_153 rfl (lv_at hl 0 rfl) ?_
  refine lv_iconst (v := 1) hx hb d_law_154 (by decide) ?_
  refine lv_iadd hx hb d_law_155 ?_
  refine lv_topi (fun yV1 eyV1 => ?_)
  have tyV1 := z_addE eyV1
  refine va_sld hx hb hX hbl hbA hS (z_in (by omega) (by omega)) d_law_156 ?_
  obtain ⟨nV1, hnV1⟩ : ∃ z : Int32, z = xs yV1.toNatClampNeg := ⟨_, rfl⟩
  rw [← hnV1]
  have hP := sw_P hP
  have hD := sw_D hD
  refine lawcall (X := mW G mm v) (pl := xW G x u) (As := [.int nV1]) (rest := []) (w1 := fun w => xW G x w) ⟨hx, hb, hml, hown, hw⟩ (k_V_end l G x u nV1 hu) (cwV 1 hw gw_V_end rfl rfl rfl hy_V_end ⟨Nat.le_of_ble_eq_true rfl, Nat.le_of_ble_eq_true rfl⟩) hE hP hD hS hA (law_recv hE hP (ci := 0) rfl (List.mem_append_right _ (xW_head _ _ _).choose_spec)) rfl hl rfl (Nat.le_of_ble_eq_true rfl) d_law_157 ⟨by show cn + 0 ≤ 600000; omega, by show sn + 0 ≤ 7302249; omega⟩ (fun rV u1 H locs hp1 hP hD hS => ?_)
  refine lv_aload_n hx hb d_law_160 rfl (lv_at hl 1 rfl) ?_
  refine lv_aload_n hx hb d_law_161 rfl (lv_at hl 3 rfl) ?_
  refine lv_iload_n hx hb d_law_162 rfl (lv_at hl 0 rfl) ?_
  refine lv_iconst (v := 1) hx hb d_law_163 (by decide) ?_
  refine lv_iadd hx hb d_law_164 ?_
  refine lv_topi (fun yM1 eyM1 => ?_)
  have tyM1 := z_addE eyM1
  refine va_sld hx hb hX hbl hbA hS (z_in (by omega) (by omega)) d_law_165 ?_
  obtain ⟨nM1, hnM1⟩ : ∃ z : Int32, z = xs yM1.toNatClampNeg := ⟨_, rfl⟩
  rw [← hnM1]
  have hP := sw_P hP
  have hD := sw_D hD
  refine lawcall (X := xW G x u1) (pl := mW G mm v) (As := [.int nM1]) (rest := [.int rV]) (w1 := fun w => mW G mm w) ⟨hx, hb, hml, hown, hw⟩ (k_M_end l G mm v nM1 hv) (cwV 1 hw gw_M_end rfl rfl rfl hy_M_end ⟨Nat.le_of_ble_eq_true rfl, Nat.le_of_ble_eq_true rfl⟩) hE hP hD hS hA (law_recv hE hP (ci := 5) rfl (List.mem_append_right _ (mW_head _ _ _).choose_spec)) rfl hl rfl (Nat.le_of_ble_eq_true rfl) d_law_166 ⟨by show cn + 0 + 0 ≤ 600000; omega, by show sn + 0 + 0 ≤ 7302249; omega⟩ (fun rM v1 H locs hp2 hP hD hS => ?_)
  obtain ⟨hu1, hp1⟩ := hp1
  obtain ⟨hv1b, hp2⟩ := hp2
  have en : nV1 = nM1 := by rw [hnV1, hnM1, eyV1, eyM1]
  have er : rV = rM := by rw [hp1.1, hp2.1, huv, en]
  refine lv_icmp_eq (tgt := 318) hx hb d_law_169 (by decide) (fun _ => ?_) (fun c1 => absurd er c1)
  have hz := edT_b (n := nM1) hv1.1
  have e2 := hp2.2
  refine hT u1 v1 _ _ H locs hu1 hv1b (by rw [hp1.2, hp2.2, huv, en]) ?_ ?_ hP hD hS
  · rw [e2]; omega
  · rw [e2]; omega
set_option maxHeartbeats 4000000 in
set_option maxRecDepth 100000 in
theorem lc_read {p : Program} {e : Env} {s : State} {m : MethodId} {below : List Frame} {meth : Method} {c : Code} (l : Launch) {b L : Nat} {xs : Nat → Int32} (hL : L ≤ 3072) (C0 : lw_At p s m meth c b L xs) {G : GG} (hE : KE G (fun q : Nat => s.heap.size ≤ q) s) (x mm : Nat) (k : Nat) (hk : 6 * k + 6 ≤ L) (i : Int32) (hi : i.toInt = 6 * k) (u : SX) (v : SM) (cn sn : Nat) (ls : Array Slot) (hl : lv_has ls 4 [(3, .int i), (2, .ref mm), (1, .ref x), (0, .ref b)]) (hT : (∀ (u1 : SX) (v1 : SM) (cn1 sn1 : Nat) (H : Heap) (locs : List Loc), xOk u1 → mOk G v1 → u1.2.2.2 0 = v1.2.2.2.1 2 → cn1 + 3 * (v1.2.2.2.1 2).toInt.toNat ≤ 40 + 120 * (k + 1) → sn1 + 140 * (v1.2.2.2.1 2).toInt.toNat ≤ 17200 + 10520 * (k + 1) → va_P G.1 vwCl (xW G x u1 ++ mW G mm v1) H → va_D (fun q : Nat => s.heap.size ≤ q) (xW G x u1 ++ mW G mm v1) → va_S (fun q : Nat => s.heap.size ≤ q) s.heap H locs → W p l e room_1 s m #[Value.ref b] below meth c H locs cn1 sn1 (lw_Z below #[Value.ref b] s) (F0 m 318 ls []))) (H : Heap) (locs : List Loc) : xOk u → mOk G v → u.2.2.2 0 = v.2.2.2.1 2 → cn + 3 * (v.2.2.2.1 2).toInt.toNat ≤ 40 + 120 * k → sn + 140 * (v.2.2.2.1 2).toInt.toNat ≤ 17200 + 10520 * k → va_P G.1 vwCl (xW G x u ++ mW G mm v) H → va_D (fun q : Nat => s.heap.size ≤ q) (xW G x u ++ mW G mm v) → va_S (fun q : Nat => s.heap.size ≤ q) s.heap H locs → W p l e room_1 s m #[Value.ref b] below meth c H locs cn sn (lw_Z below #[Value.ref b] s) (F0 m 174 ls []) := by
  obtain ⟨hx, hb, hr, hml, hown, hts, hX, hbl, hlocks, hgv⟩ := id C0
  have hA : ∀ q : Nat, s.heap.size ≤ q → (fun q : Nat => s.heap.size ≤ q) q := fun _ h => h
  have hbA : ¬ (fun q : Nat => s.heap.size ≤ q) b := Nat.not_le.mpr hbl
  have hw : ∀ w ∈ bigW, w.before #[Value.ref b] s = true := fun w h => hts w (List.mem_filter.mp h).1
  have hown : s.vm.findClass R_law = some m.cls := hown
  intro hu hv huv hcn hsn hP hD hS
  have hv1 := hv.1
  have tl_1 : (1 : Int32).toInt = 1 := by decide
  have tl_2 : (2 : Int32).toInt = 2 := by decide
  have tl_3 : (3 : Int32).toInt = 3 := by decide
  have tl_4 : (4 : Int32).toInt = 4 := by decide
  have tl_5 : (5 : Int32).toInt = 5 := by decide
  refine lv_aload_n hx hb d_law_174 rfl (lv_at hl 2 rfl) ?_
  have hP := sw_P hP
  have hD := sw_D hD
  refine lawcall (X := mW G mm v) (pl := xW G x u) (As := []) (rest := []) (w1 := fun w => xW G x w) ⟨hx, hb, hml, hown, hw⟩ (k_V_read l G x u hu) (cwV 0 hw gw_V_read rfl rfl rfl hy_V_read ⟨Nat.le_of_ble_eq_true rfl, Nat.le_of_ble_eq_true rfl⟩) hE hP hD hS hA (law_recv hE hP (ci := 0) rfl (List.mem_append_right _ (xW_head _ _ _).choose_spec)) rfl hl rfl (Nat.le_of_ble_eq_true rfl) d_law_175 ⟨by show cn + 8 ≤ 600000; omega, by show sn + 5011 ≤ 7302249; omega⟩ (fun rV u1 H locs hp1 hP hD hS => ?_)
  refine lv_pop hx hb d_law_178 rfl ?_
  refine lv_aload_n hx hb d_law_179 rfl (lv_at hl 1 rfl) ?_
  have hP := sw_P hP
  have hD := sw_D hD
  refine lawcall (X := xW G x u1) (pl := mW G mm v) (As := []) (rest := []) (w1 := fun w => mW G mm w) ⟨hx, hb, hml, hown, hw⟩ (k_M_read l G mm v hv) (cwV 0 hw gw_M_read rfl rfl rfl hy_M_read ⟨Nat.le_of_ble_eq_true rfl, Nat.le_of_ble_eq_true rfl⟩) hE hP hD hS hA (law_recv hE hP (ci := 5) rfl (List.mem_append_right _ (mW_head _ _ _).choose_spec)) rfl hl rfl (Nat.le_of_ble_eq_true rfl) d_law_180 ⟨by show cn + 8 + (3 * (v.2.2.2.1 2).toInt.toNat + 41) ≤ 600000; omega, by show sn + 5011 + (140 * (v.2.2.2.1 2).toInt.toNat + 2700) ≤ 7302249; omega⟩ (fun rM v1 H locs hp2 hP hD hS => ?_)
  refine lv_pop hx hb d_law_183 rfl ?_
  obtain ⟨hu1, hp1⟩ := hp1
  obtain ⟨hv1b, hp2⟩ := hp2
  refine lv_goto (tgt := 318) hx hb d_law_184 (by decide) ?_
  have e2 := hp2
  have hz : (0 : Int32).toInt = 0 := by decide
  refine hT u1 v1 _ _ H locs hu1 hv1b (by rw [hp1, hp2]) ?_ ?_ hP hD hS
  · rw [e2]; omega
  · rw [e2]; omega
set_option maxHeartbeats 4000000 in
set_option maxRecDepth 100000 in
theorem lc_write {p : Program} {e : Env} {s : State} {m : MethodId} {below : List Frame} {meth : Method} {c : Code} (l : Launch) {b L : Nat} {xs : Nat → Int32} (hL : L ≤ 3072) (C0 : lw_At p s m meth c b L xs) {G : GG} (hE : KE G (fun q : Nat => s.heap.size ≤ q) s) (x mm : Nat) (k : Nat) (hk : 6 * k + 6 ≤ L) (i : Int32) (hi : i.toInt = 6 * k) (u : SX) (v : SM) (cn sn : Nat) (ls : Array Slot) (hl : lv_has ls 4 [(3, .int i), (2, .ref mm), (1, .ref x), (0, .ref b)]) (hT : (∀ (u1 : SX) (v1 : SM) (cn1 sn1 : Nat) (H : Heap) (locs : List Loc), xOk u1 → mOk G v1 → u1.2.2.2 0 = v1.2.2.2.1 2 → cn1 + 3 * (v1.2.2.2.1 2).toInt.toNat ≤ 40 + 120 * (k + 1) → sn1 + 140 * (v1.2.2.2.1 2).toInt.toNat ≤ 17200 + 10520 * (k + 1) → va_P G.1 vwCl (xW G x u1 ++ mW G mm v1) H → va_D (fun q : Nat => s.heap.size ≤ q) (xW G x u1 ++ mW G mm v1) → va_S (fun q : Nat => s.heap.size ≤ q) s.heap H locs → W p l e room_1 s m #[Value.ref b] below meth c H locs cn1 sn1 (lw_Z below #[Value.ref b] s) (F0 m 318 ls []))) (H : Heap) (locs : List Loc) : xOk u → mOk G v → u.2.2.2 0 = v.2.2.2.1 2 → cn + 3 * (v.2.2.2.1 2).toInt.toNat ≤ 40 + 120 * k → sn + 140 * (v.2.2.2.1 2).toInt.toNat ≤ 17200 + 10520 * k → va_P G.1 vwCl (xW G x u ++ mW G mm v) H → va_D (fun q : Nat => s.heap.size ≤ q) (xW G x u ++ mW G mm v) → va_S (fun q : Nat => s.heap.size ≤ q) s.heap H locs → W p l e room_1 s m #[Value.ref b] below meth c H locs cn sn (lw_Z below #[Value.ref b] s) (F0 m 187 ls []) := by
  obtain ⟨hx, hb, hr, hml, hown, hts, hX, hbl, hlocks, hgv⟩ := id C0
  have hA : ∀ q : Nat, s.heap.size ≤ q → (fun q : Nat => s.heap.size ≤ q) q := fun _ h => h
  have hbA : ¬ (fun q : Nat => s.heap.size ≤ q) b := Nat.not_le.mpr hbl
  have hw : ∀ w ∈ bigW, w.before #[Value.ref b] s = true := fun w h => hts w (List.mem_filter.mp h).1
  have hown : s.vm.findClass R_law = some m.cls := hown
  intro hu hv huv hcn hsn hP hD hS
  have hv1 := hv.1
  have tl_1 : (1 : Int32).toInt = 1 := by decide
  have tl_2 : (2 : Int32).toInt = 2 := by decide
  have tl_3 : (3 : Int32).toInt = 3 := by decide
  have tl_4 : (4 : Int32).toInt = 4 := by decide
  have tl_5 : (5 : Int32).toInt = 5 := by decide
  refine lv_aload_n hx hb d_law_187 rfl (lv_at hl 2 rfl) ?_
  have hP := sw_P hP
  have hD := sw_D hD
  refine lawcall (X := mW G mm v) (pl := xW G x u) (As := []) (rest := []) (w1 := fun w => xW G x w) ⟨hx, hb, hml, hown, hw⟩ (k_V_write l G x u hu) (cwV 0 hw gw_V_write rfl rfl rfl hy_V_write ⟨Nat.le_of_ble_eq_true rfl, Nat.le_of_ble_eq_true rfl⟩) hE hP hD hS hA (law_recv hE hP (ci := 0) rfl (List.mem_append_right _ (xW_head _ _ _).choose_spec)) rfl hl rfl (Nat.le_of_ble_eq_true rfl) d_law_188 ⟨by show cn + 1 ≤ 600000; omega, by show sn + 2 ≤ 7302249; omega⟩ (fun rV u1 H locs hp1 hP hD hS => ?_)
  refine lv_pop hx hb d_law_191 rfl ?_
  refine lv_aload_n hx hb d_law_192 rfl (lv_at hl 1 rfl) ?_
  have hP := sw_P hP
  have hD := sw_D hD
  refine lawcall (X := xW G x u1) (pl := mW G mm v) (As := []) (rest := []) (w1 := fun w => mW G mm w) ⟨hx, hb, hml, hown, hw⟩ (k_M_write l G mm v hv) (cwV 0 hw gw_M_write rfl rfl rfl hy_M_write ⟨Nat.le_of_ble_eq_true rfl, Nat.le_of_ble_eq_true rfl⟩) hE hP hD hS hA (law_recv hE hP (ci := 5) rfl (List.mem_append_right _ (mW_head _ _ _).choose_spec)) rfl hl rfl (Nat.le_of_ble_eq_true rfl) d_law_193 ⟨by show cn + 1 + 0 ≤ 600000; omega, by show sn + 2 + 0 ≤ 7302249; omega⟩ (fun rM v1 H locs hp2 hP hD hS => ?_)
  refine lv_pop hx hb d_law_196 rfl ?_
  obtain ⟨hu1, hp1⟩ := hp1
  obtain ⟨hv1b, hp2⟩ := hp2
  refine lv_goto (tgt := 318) hx hb d_law_197 (by decide) ?_
  have e2 := hp2
  refine hT u1 v1 _ _ H locs hu1 hv1b (by rw [hp1, hp2, huv]) ?_ ?_ hP hD hS
  · rw [e2]; omega
  · rw [e2]; omega
set_option maxHeartbeats 4000000 in
set_option maxRecDepth 100000 in
theorem lc_top {p : Program} {e : Env} {s : State} {m : MethodId} {below : List Frame} {meth : Method} {c : Code} (l : Launch) {b L : Nat} {xs : Nat → Int32} (hL : L ≤ 3072) (C0 : lw_At p s m meth c b L xs) {G : GG} (hE : KE G (fun q : Nat => s.heap.size ≤ q) s) (x mm : Nat) (k : Nat) (hk : 6 * k + 6 ≤ L) (i : Int32) (hi : i.toInt = 6 * k) (u : SX) (v : SM) (cn sn : Nat) (ls : Array Slot) (hl : lv_has ls 4 [(3, .int i), (2, .ref mm), (1, .ref x), (0, .ref b)]) (hT : (∀ (u1 : SX) (v1 : SM) (cn1 sn1 : Nat) (H : Heap) (locs : List Loc), xOk u1 → mOk G v1 → u1.2.2.2 0 = v1.2.2.2.1 2 → cn1 + 3 * (v1.2.2.2.1 2).toInt.toNat ≤ 40 + 120 * (k + 1) → sn1 + 140 * (v1.2.2.2.1 2).toInt.toNat ≤ 17200 + 10520 * (k + 1) → va_P G.1 vwCl (xW G x u1 ++ mW G mm v1) H → va_D (fun q : Nat => s.heap.size ≤ q) (xW G x u1 ++ mW G mm v1) → va_S (fun q : Nat => s.heap.size ≤ q) s.heap H locs → W p l e room_1 s m #[Value.ref b] below meth c H locs cn1 sn1 (lw_Z below #[Value.ref b] s) (F0 m 318 ls []))) (H : Heap) (locs : List Loc) : xOk u → mOk G v → u.2.2.2 0 = v.2.2.2.1 2 → cn + 3 * (v.2.2.2.1 2).toInt.toNat ≤ 40 + 120 * k → sn + 140 * (v.2.2.2.1 2).toInt.toNat ≤ 17200 + 10520 * k → va_P G.1 vwCl (xW G x u ++ mW G mm v) H → va_D (fun q : Nat => s.heap.size ≤ q) (xW G x u ++ mW G mm v) → va_S (fun q : Nat => s.heap.size ≤ q) s.heap H locs → W p l e room_1 s m #[Value.ref b] below meth c H locs cn sn (lw_Z below #[Value.ref b] s) (F0 m 200 ls []) := by
  obtain ⟨hx, hb, hr, hml, hown, hts, hX, hbl, hlocks, hgv⟩ := id C0
  have hA : ∀ q : Nat, s.heap.size ≤ q → (fun q : Nat => s.heap.size ≤ q) q := fun _ h => h
  have hbA : ¬ (fun q : Nat => s.heap.size ≤ q) b := Nat.not_le.mpr hbl
  have hw : ∀ w ∈ bigW, w.before #[Value.ref b] s = true := fun w h => hts w (List.mem_filter.mp h).1
  have hown : s.vm.findClass R_law = some m.cls := hown
  intro hu hv huv hcn hsn hP hD hS
  have hv1 := hv.1
  have tl_1 : (1 : Int32).toInt = 1 := by decide
  have tl_2 : (2 : Int32).toInt = 2 := by decide
  have tl_3 : (3 : Int32).toInt = 3 := by decide
  have tl_4 : (4 : Int32).toInt = 4 := by decide
  have tl_5 : (5 : Int32).toInt = 5 := by decide
  refine lv_aload_n hx hb d_law_200 rfl (lv_at hl 2 rfl) ?_
  have hP := sw_P hP
  have hD := sw_D hD
  refine lawcall (X := mW G mm v) (pl := xW G x u) (As := []) (rest := []) (w1 := fun w => xW G x w) ⟨hx, hb, hml, hown, hw⟩ (k_V_top l G x u hu) (cwV 0 hw gw_V_top rfl rfl rfl hy_V_top ⟨Nat.le_of_ble_eq_true rfl, Nat.le_of_ble_eq_true rfl⟩) hE hP hD hS hA (law_recv hE hP (ci := 0) rfl (List.mem_append_right _ (xW_head _ _ _).choose_spec)) rfl hl rfl (Nat.le_of_ble_eq_true rfl) d_law_201 ⟨by show cn + 0 ≤ 600000; omega, by show sn + 0 ≤ 7302249; omega⟩ (fun rV u1 H locs hp1 hP hD hS => ?_)
  refine lv_pop hx hb d_law_204 rfl ?_
  refine lv_aload_n hx hb d_law_205 rfl (lv_at hl 1 rfl) ?_
  have hP := sw_P hP
  have hD := sw_D hD
  refine lawcall (X := xW G x u1) (pl := mW G mm v) (As := []) (rest := []) (w1 := fun w => mW G mm w) ⟨hx, hb, hml, hown, hw⟩ (k_M_top l G mm v hv) (cwV 0 hw gw_M_top rfl rfl rfl hy_M_top ⟨Nat.le_of_ble_eq_true rfl, Nat.le_of_ble_eq_true rfl⟩) hE hP hD hS hA (law_recv hE hP (ci := 5) rfl (List.mem_append_right _ (mW_head _ _ _).choose_spec)) rfl hl rfl (Nat.le_of_ble_eq_true rfl) d_law_206 ⟨by show cn + 0 + 0 ≤ 600000; omega, by show sn + 0 + 0 ≤ 7302249; omega⟩ (fun rM v1 H locs hp2 hP hD hS => ?_)
  refine lv_pop hx hb d_law_209 rfl ?_
  obtain ⟨hu1, hp1⟩ := hp1
  obtain ⟨hv1b, hp2⟩ := hp2
  refine lv_goto (tgt := 318) hx hb d_law_210 (by decide) ?_
  have e2 := hp2
  refine hT u1 v1 _ _ H locs hu1 hv1b (by rw [hp1, hp2, huv]) ?_ ?_ hP hD hS
  · rw [e2]; omega
  · rw [e2]; omega
set_option maxHeartbeats 4000000 in
set_option maxRecDepth 100000 in
theorem lc_item {p : Program} {e : Env} {s : State} {m : MethodId} {below : List Frame} {meth : Method} {c : Code} (l : Launch) {b L : Nat} {xs : Nat → Int32} (hL : L ≤ 3072) (C0 : lw_At p s m meth c b L xs) {G : GG} (hE : KE G (fun q : Nat => s.heap.size ≤ q) s) (x mm : Nat) (k : Nat) (hk : 6 * k + 6 ≤ L) (i : Int32) (hi : i.toInt = 6 * k) (u : SX) (v : SM) (cn sn : Nat) (ls : Array Slot) (hl : lv_has ls 4 [(3, .int i), (2, .ref mm), (1, .ref x), (0, .ref b)]) (hT : (∀ (u1 : SX) (v1 : SM) (cn1 sn1 : Nat) (H : Heap) (locs : List Loc), xOk u1 → mOk G v1 → u1.2.2.2 0 = v1.2.2.2.1 2 → cn1 + 3 * (v1.2.2.2.1 2).toInt.toNat ≤ 40 + 120 * (k + 1) → sn1 + 140 * (v1.2.2.2.1 2).toInt.toNat ≤ 17200 + 10520 * (k + 1) → va_P G.1 vwCl (xW G x u1 ++ mW G mm v1) H → va_D (fun q : Nat => s.heap.size ≤ q) (xW G x u1 ++ mW G mm v1) → va_S (fun q : Nat => s.heap.size ≤ q) s.heap H locs → W p l e room_1 s m #[Value.ref b] below meth c H locs cn1 sn1 (lw_Z below #[Value.ref b] s) (F0 m 318 ls []))) (H : Heap) (locs : List Loc) : xOk u → mOk G v → u.2.2.2 0 = v.2.2.2.1 2 → cn + 3 * (v.2.2.2.1 2).toInt.toNat ≤ 40 + 120 * k → sn + 140 * (v.2.2.2.1 2).toInt.toNat ≤ 17200 + 10520 * k → va_P G.1 vwCl (xW G x u ++ mW G mm v) H → va_D (fun q : Nat => s.heap.size ≤ q) (xW G x u ++ mW G mm v) → va_S (fun q : Nat => s.heap.size ≤ q) s.heap H locs → W p l e room_1 s m #[Value.ref b] below meth c H locs cn sn (lw_Z below #[Value.ref b] s) (F0 m 213 ls []) := by
  obtain ⟨hx, hb, hr, hml, hown, hts, hX, hbl, hlocks, hgv⟩ := id C0
  have hA : ∀ q : Nat, s.heap.size ≤ q → (fun q : Nat => s.heap.size ≤ q) q := fun _ h => h
  have hbA : ¬ (fun q : Nat => s.heap.size ≤ q) b := Nat.not_le.mpr hbl
  have hw : ∀ w ∈ bigW, w.before #[Value.ref b] s = true := fun w h => hts w (List.mem_filter.mp h).1
  have hown : s.vm.findClass R_law = some m.cls := hown
  intro hu hv huv hcn hsn hP hD hS
  have hv1 := hv.1
  have tl_1 : (1 : Int32).toInt = 1 := by decide
  have tl_2 : (2 : Int32).toInt = 2 := by decide
  have tl_3 : (3 : Int32).toInt = 3 := by decide
  have tl_4 : (4 : Int32).toInt = 4 := by decide
  have tl_5 : (5 : Int32).toInt = 5 := by decide
  refine lv_aload_n hx hb d_law_213 rfl (lv_at hl 2 rfl) ?_
  refine lv_aload_n hx hb d_law_214 rfl (lv_at hl 3 rfl) ?_
  refine lv_iload_n hx hb d_law_215 rfl (lv_at hl 0 rfl) ?_
  refine lv_iconst (v := 1) hx hb d_law_216 (by decide) ?_
  refine lv_iadd hx hb d_law_217 ?_
  refine lv_topi (fun yV1 eyV1 => ?_)
  have tyV1 := z_addE eyV1
  refine va_sld hx hb hX hbl hbA hS (z_in (by omega) (by omega)) d_law_218 ?_
  obtain ⟨nV1, hnV1⟩ : ∃ z : Int32, z = xs yV1.toNatClampNeg := ⟨_, rfl⟩
  rw [← hnV1]
  have hP := sw_P hP
  have hD := sw_D hD
  refine lawcall (X := mW G mm v) (pl := xW G x u) (As := [.int nV1]) (rest := []) (w1 := fun w => xW G x w) ⟨hx, hb, hml, hown, hw⟩ (k_V_item l G x u nV1 hu) (cwV 1 hw gw_V_item rfl rfl rfl hy_V_item ⟨Nat.le_of_ble_eq_true rfl, Nat.le_of_ble_eq_true rfl⟩) hE hP hD hS hA (law_recv hE hP (ci := 0) rfl (List.mem_append_right _ (xW_head _ _ _).choose_spec)) rfl hl rfl (Nat.le_of_ble_eq_true rfl) d_law_219 ⟨by show cn + 0 ≤ 600000; omega, by show sn + 0 ≤ 7302249; omega⟩ (fun rV u1 H locs hp1 hP hD hS => ?_)
  refine lv_pop hx hb d_law_222 rfl ?_
  refine lv_aload_n hx hb d_law_223 rfl (lv_at hl 1 rfl) ?_
  refine lv_aload_n hx hb d_law_224 rfl (lv_at hl 3 rfl) ?_
  refine lv_iload_n hx hb d_law_225 rfl (lv_at hl 0 rfl) ?_
  refine lv_iconst (v := 1) hx hb d_law_226 (by decide) ?_
  refine lv_iadd hx hb d_law_227 ?_
  refine lv_topi (fun yM1 eyM1 => ?_)
  have tyM1 := z_addE eyM1
  refine va_sld hx hb hX hbl hbA hS (z_in (by omega) (by omega)) d_law_228 ?_
  obtain ⟨nM1, hnM1⟩ : ∃ z : Int32, z = xs yM1.toNatClampNeg := ⟨_, rfl⟩
  rw [← hnM1]
  have hP := sw_P hP
  have hD := sw_D hD
  refine lawcall (X := xW G x u1) (pl := mW G mm v) (As := [.int nM1]) (rest := []) (w1 := fun w => mW G mm w) ⟨hx, hb, hml, hown, hw⟩ (k_M_item l G mm v nM1 hv) (cwV 1 hw gw_M_item rfl rfl rfl hy_M_item ⟨Nat.le_of_ble_eq_true rfl, Nat.le_of_ble_eq_true rfl⟩) hE hP hD hS hA (law_recv hE hP (ci := 5) rfl (List.mem_append_right _ (mW_head _ _ _).choose_spec)) rfl hl rfl (Nat.le_of_ble_eq_true rfl) d_law_229 ⟨by show cn + 0 + 0 ≤ 600000; omega, by show sn + 0 + 0 ≤ 7302249; omega⟩ (fun rM v1 H locs hp2 hP hD hS => ?_)
  refine lv_pop hx hb d_law_232 rfl ?_
  obtain ⟨hu1, hp1⟩ := hp1
  obtain ⟨hv1b, hp2⟩ := hp2
  refine lv_goto (tgt := 318) hx hb d_law_233 (by decide) ?_
  have e2 := hp2
  refine hT u1 v1 _ _ H locs hu1 hv1b (by rw [hp1, hp2, huv]) ?_ ?_ hP hD hS
  · rw [e2]; omega
  · rw [e2]; omega
set_option maxHeartbeats 4000000 in
set_option maxRecDepth 100000 in
theorem lc_find {p : Program} {e : Env} {s : State} {m : MethodId} {below : List Frame} {meth : Method} {c : Code} (l : Launch) {b L : Nat} {xs : Nat → Int32} (hL : L ≤ 3072) (C0 : lw_At p s m meth c b L xs) {G : GG} (hE : KE G (fun q : Nat => s.heap.size ≤ q) s) (x mm : Nat) (k : Nat) (hk : 6 * k + 6 ≤ L) (i : Int32) (hi : i.toInt = 6 * k) (u : SX) (v : SM) (cn sn : Nat) (ls : Array Slot) (hl : lv_has ls 4 [(3, .int i), (2, .ref mm), (1, .ref x), (0, .ref b)]) (hT : (∀ (u1 : SX) (v1 : SM) (cn1 sn1 : Nat) (H : Heap) (locs : List Loc), xOk u1 → mOk G v1 → u1.2.2.2 0 = v1.2.2.2.1 2 → cn1 + 3 * (v1.2.2.2.1 2).toInt.toNat ≤ 40 + 120 * (k + 1) → sn1 + 140 * (v1.2.2.2.1 2).toInt.toNat ≤ 17200 + 10520 * (k + 1) → va_P G.1 vwCl (xW G x u1 ++ mW G mm v1) H → va_D (fun q : Nat => s.heap.size ≤ q) (xW G x u1 ++ mW G mm v1) → va_S (fun q : Nat => s.heap.size ≤ q) s.heap H locs → W p l e room_1 s m #[Value.ref b] below meth c H locs cn1 sn1 (lw_Z below #[Value.ref b] s) (F0 m 318 ls []))) (H : Heap) (locs : List Loc) : xOk u → mOk G v → u.2.2.2 0 = v.2.2.2.1 2 → cn + 3 * (v.2.2.2.1 2).toInt.toNat ≤ 40 + 120 * k → sn + 140 * (v.2.2.2.1 2).toInt.toNat ≤ 17200 + 10520 * k → va_P G.1 vwCl (xW G x u ++ mW G mm v) H → va_D (fun q : Nat => s.heap.size ≤ q) (xW G x u ++ mW G mm v) → va_S (fun q : Nat => s.heap.size ≤ q) s.heap H locs → W p l e room_1 s m #[Value.ref b] below meth c H locs cn sn (lw_Z below #[Value.ref b] s) (F0 m 236 ls []) := by
  obtain ⟨hx, hb, hr, hml, hown, hts, hX, hbl, hlocks, hgv⟩ := id C0
  have hA : ∀ q : Nat, s.heap.size ≤ q → (fun q : Nat => s.heap.size ≤ q) q := fun _ h => h
  have hbA : ¬ (fun q : Nat => s.heap.size ≤ q) b := Nat.not_le.mpr hbl
  have hw : ∀ w ∈ bigW, w.before #[Value.ref b] s = true := fun w h => hts w (List.mem_filter.mp h).1
  have hown : s.vm.findClass R_law = some m.cls := hown
  intro hu hv huv hcn hsn hP hD hS
  have hv1 := hv.1
  have tl_1 : (1 : Int32).toInt = 1 := by decide
  have tl_2 : (2 : Int32).toInt = 2 := by decide
  have tl_3 : (3 : Int32).toInt = 3 := by decide
  have tl_4 : (4 : Int32).toInt = 4 := by decide
  have tl_5 : (5 : Int32).toInt = 5 := by decide
  refine lv_aload_n hx hb d_law_236 rfl (lv_at hl 2 rfl) ?_
  have hP := sw_P hP
  have hD := sw_D hD
  refine lawcall (X := mW G mm v) (pl := xW G x u) (As := []) (rest := []) (w1 := fun w => xW G x w) ⟨hx, hb, hml, hown, hw⟩ (k_V_find l G x u hu) (cwV 0 hw gw_V_find rfl rfl rfl hy_V_find ⟨Nat.le_of_ble_eq_true rfl, Nat.le_of_ble_eq_true rfl⟩) hE hP hD hS hA (law_recv hE hP (ci := 0) rfl (List.mem_append_right _ (xW_head _ _ _).choose_spec)) rfl hl rfl (Nat.le_of_ble_eq_true rfl) d_law_237 ⟨by show cn + 0 ≤ 600000; omega, by show sn + 0 ≤ 7302249; omega⟩ (fun rV u1 H locs hp1 hP hD hS => ?_)
  refine lv_pop hx hb d_law_240 rfl ?_
  refine lv_aload_n hx hb d_law_241 rfl (lv_at hl 1 rfl) ?_
  have hP := sw_P hP
  have hD := sw_D hD
  refine lawcall (X := xW G x u1) (pl := mW G mm v) (As := []) (rest := []) (w1 := fun w => mW G mm w) ⟨hx, hb, hml, hown, hw⟩ (k_M_find l G mm v hv) (cwV 0 hw gw_M_find rfl rfl rfl hy_M_find ⟨Nat.le_of_ble_eq_true rfl, Nat.le_of_ble_eq_true rfl⟩) hE hP hD hS hA (law_recv hE hP (ci := 5) rfl (List.mem_append_right _ (mW_head _ _ _).choose_spec)) rfl hl rfl (Nat.le_of_ble_eq_true rfl) d_law_242 ⟨by show cn + 0 + 0 ≤ 600000; omega, by show sn + 0 + 0 ≤ 7302249; omega⟩ (fun rM v1 H locs hp2 hP hD hS => ?_)
  refine lv_pop hx hb d_law_245 rfl ?_
  obtain ⟨hu1, hp1⟩ := hp1
  obtain ⟨hv1b, hp2⟩ := hp2
  refine lv_goto (tgt := 318) hx hb d_law_246 (by decide) ?_
  have e2 := hp2
  have hz : (0 : Int32).toInt = 0 := by decide
  refine hT u1 v1 _ _ H locs hu1 hv1b (by rw [hp1, hp2]) ?_ ?_ hP hD hS
  · rw [e2]; omega
  · rw [e2]; omega
set_option maxHeartbeats 4000000 in
set_option maxRecDepth 100000 in
theorem lc_look {p : Program} {e : Env} {s : State} {m : MethodId} {below : List Frame} {meth : Method} {c : Code} (l : Launch) {b L : Nat} {xs : Nat → Int32} (hL : L ≤ 3072) (C0 : lw_At p s m meth c b L xs) {G : GG} (hE : KE G (fun q : Nat => s.heap.size ≤ q) s) (x mm : Nat) (k : Nat) (hk : 6 * k + 6 ≤ L) (i : Int32) (hi : i.toInt = 6 * k) (u : SX) (v : SM) (cn sn : Nat) (ls : Array Slot) (hl : lv_has ls 4 [(3, .int i), (2, .ref mm), (1, .ref x), (0, .ref b)]) (hT : (∀ (u1 : SX) (v1 : SM) (cn1 sn1 : Nat) (H : Heap) (locs : List Loc), xOk u1 → mOk G v1 → u1.2.2.2 0 = v1.2.2.2.1 2 → cn1 + 3 * (v1.2.2.2.1 2).toInt.toNat ≤ 40 + 120 * (k + 1) → sn1 + 140 * (v1.2.2.2.1 2).toInt.toNat ≤ 17200 + 10520 * (k + 1) → va_P G.1 vwCl (xW G x u1 ++ mW G mm v1) H → va_D (fun q : Nat => s.heap.size ≤ q) (xW G x u1 ++ mW G mm v1) → va_S (fun q : Nat => s.heap.size ≤ q) s.heap H locs → W p l e room_1 s m #[Value.ref b] below meth c H locs cn1 sn1 (lw_Z below #[Value.ref b] s) (F0 m 318 ls []))) (H : Heap) (locs : List Loc) : xOk u → mOk G v → u.2.2.2 0 = v.2.2.2.1 2 → cn + 3 * (v.2.2.2.1 2).toInt.toNat ≤ 40 + 120 * k → sn + 140 * (v.2.2.2.1 2).toInt.toNat ≤ 17200 + 10520 * k → va_P G.1 vwCl (xW G x u ++ mW G mm v) H → va_D (fun q : Nat => s.heap.size ≤ q) (xW G x u ++ mW G mm v) → va_S (fun q : Nat => s.heap.size ≤ q) s.heap H locs → W p l e room_1 s m #[Value.ref b] below meth c H locs cn sn (lw_Z below #[Value.ref b] s) (F0 m 249 ls []) := by
  obtain ⟨hx, hb, hr, hml, hown, hts, hX, hbl, hlocks, hgv⟩ := id C0
  have hA : ∀ q : Nat, s.heap.size ≤ q → (fun q : Nat => s.heap.size ≤ q) q := fun _ h => h
  have hbA : ¬ (fun q : Nat => s.heap.size ≤ q) b := Nat.not_le.mpr hbl
  have hw : ∀ w ∈ bigW, w.before #[Value.ref b] s = true := fun w h => hts w (List.mem_filter.mp h).1
  have hown : s.vm.findClass R_law = some m.cls := hown
  intro hu hv huv hcn hsn hP hD hS
  have hv1 := hv.1
  have tl_1 : (1 : Int32).toInt = 1 := by decide
  have tl_2 : (2 : Int32).toInt = 2 := by decide
  have tl_3 : (3 : Int32).toInt = 3 := by decide
  have tl_4 : (4 : Int32).toInt = 4 := by decide
  have tl_5 : (5 : Int32).toInt = 5 := by decide
  refine lv_aload_n hx hb d_law_249 rfl (lv_at hl 2 rfl) ?_
  refine lv_aload_n hx hb d_law_250 rfl (lv_at hl 3 rfl) ?_
  refine lv_iload_n hx hb d_law_251 rfl (lv_at hl 0 rfl) ?_
  refine lv_iconst (v := 1) hx hb d_law_252 (by decide) ?_
  refine lv_iadd hx hb d_law_253 ?_
  refine lv_topi (fun yV1 eyV1 => ?_)
  have tyV1 := z_addE eyV1
  refine va_sld hx hb hX hbl hbA hS (z_in (by omega) (by omega)) d_law_254 ?_
  obtain ⟨nV1, hnV1⟩ : ∃ z : Int32, z = xs yV1.toNatClampNeg := ⟨_, rfl⟩
  rw [← hnV1]
  have hP := sw_P hP
  have hD := sw_D hD
  refine lawcall (X := mW G mm v) (pl := xW G x u) (As := [.int nV1]) (rest := []) (w1 := fun w => xW G x w) ⟨hx, hb, hml, hown, hw⟩ (k_V_look l G x u nV1 hu) (cwV 1 hw gw_V_look rfl rfl rfl hy_V_look ⟨Nat.le_of_ble_eq_true rfl, Nat.le_of_ble_eq_true rfl⟩) hE hP hD hS hA (law_recv hE hP (ci := 0) rfl (List.mem_append_right _ (xW_head _ _ _).choose_spec)) rfl hl rfl (Nat.le_of_ble_eq_true rfl) d_law_255 ⟨by show cn + 0 ≤ 600000; omega, by show sn + 0 ≤ 7302249; omega⟩ (fun rV u1 H locs hp1 hP hD hS => ?_)
  refine lv_pop hx hb d_law_258 rfl ?_
  refine lv_aload_n hx hb d_law_259 rfl (lv_at hl 1 rfl) ?_
  refine lv_aload_n hx hb d_law_260 rfl (lv_at hl 3 rfl) ?_
  refine lv_iload_n hx hb d_law_261 rfl (lv_at hl 0 rfl) ?_
  refine lv_iconst (v := 1) hx hb d_law_262 (by decide) ?_
  refine lv_iadd hx hb d_law_263 ?_
  refine lv_topi (fun yM1 eyM1 => ?_)
  have tyM1 := z_addE eyM1
  refine va_sld hx hb hX hbl hbA hS (z_in (by omega) (by omega)) d_law_264 ?_
  obtain ⟨nM1, hnM1⟩ : ∃ z : Int32, z = xs yM1.toNatClampNeg := ⟨_, rfl⟩
  rw [← hnM1]
  have hP := sw_P hP
  have hD := sw_D hD
  refine lawcall (X := xW G x u1) (pl := mW G mm v) (As := [.int nM1]) (rest := []) (w1 := fun w => mW G mm w) ⟨hx, hb, hml, hown, hw⟩ (k_M_look l G mm v nM1 hv) (cwV 1 hw gw_M_look rfl rfl rfl hy_M_look ⟨Nat.le_of_ble_eq_true rfl, Nat.le_of_ble_eq_true rfl⟩) hE hP hD hS hA (law_recv hE hP (ci := 5) rfl (List.mem_append_right _ (mW_head _ _ _).choose_spec)) rfl hl rfl (Nat.le_of_ble_eq_true rfl) d_law_265 ⟨by show cn + 0 + 0 ≤ 600000; omega, by show sn + 0 + 0 ≤ 7302249; omega⟩ (fun rM v1 H locs hp2 hP hD hS => ?_)
  refine lv_pop hx hb d_law_268 rfl ?_
  obtain ⟨hu1, hp1⟩ := hp1
  obtain ⟨hv1b, hp2⟩ := hp2
  refine lv_goto (tgt := 318) hx hb d_law_269 (by decide) ?_
  have e2 := hp2
  refine hT u1 v1 _ _ H locs hu1 hv1b (by rw [hp1, hp2, huv]) ?_ ?_ hP hD hS
  · rw [e2]; omega
  · rw [e2]; omega
set_option maxHeartbeats 4000000 in
set_option maxRecDepth 100000 in
theorem lc_bytes {p : Program} {e : Env} {s : State} {m : MethodId} {below : List Frame} {meth : Method} {c : Code} (l : Launch) {b L : Nat} {xs : Nat → Int32} (hL : L ≤ 3072) (C0 : lw_At p s m meth c b L xs) {G : GG} (hE : KE G (fun q : Nat => s.heap.size ≤ q) s) (x mm : Nat) (k : Nat) (hk : 6 * k + 6 ≤ L) (i : Int32) (hi : i.toInt = 6 * k) (u : SX) (v : SM) (cn sn : Nat) (ls : Array Slot) (hl : lv_has ls 4 [(3, .int i), (2, .ref mm), (1, .ref x), (0, .ref b)]) (hT : (∀ (u1 : SX) (v1 : SM) (cn1 sn1 : Nat) (H : Heap) (locs : List Loc), xOk u1 → mOk G v1 → u1.2.2.2 0 = v1.2.2.2.1 2 → cn1 + 3 * (v1.2.2.2.1 2).toInt.toNat ≤ 40 + 120 * (k + 1) → sn1 + 140 * (v1.2.2.2.1 2).toInt.toNat ≤ 17200 + 10520 * (k + 1) → va_P G.1 vwCl (xW G x u1 ++ mW G mm v1) H → va_D (fun q : Nat => s.heap.size ≤ q) (xW G x u1 ++ mW G mm v1) → va_S (fun q : Nat => s.heap.size ≤ q) s.heap H locs → W p l e room_1 s m #[Value.ref b] below meth c H locs cn1 sn1 (lw_Z below #[Value.ref b] s) (F0 m 318 ls []))) (H : Heap) (locs : List Loc) : xOk u → mOk G v → u.2.2.2 0 = v.2.2.2.1 2 → cn + 3 * (v.2.2.2.1 2).toInt.toNat ≤ 40 + 120 * k → sn + 140 * (v.2.2.2.1 2).toInt.toNat ≤ 17200 + 10520 * k → va_P G.1 vwCl (xW G x u ++ mW G mm v) H → va_D (fun q : Nat => s.heap.size ≤ q) (xW G x u ++ mW G mm v) → va_S (fun q : Nat => s.heap.size ≤ q) s.heap H locs → W p l e room_1 s m #[Value.ref b] below meth c H locs cn sn (lw_Z below #[Value.ref b] s) (F0 m 272 ls []) := by
  obtain ⟨hx, hb, hr, hml, hown, hts, hX, hbl, hlocks, hgv⟩ := id C0
  have hA : ∀ q : Nat, s.heap.size ≤ q → (fun q : Nat => s.heap.size ≤ q) q := fun _ h => h
  have hbA : ¬ (fun q : Nat => s.heap.size ≤ q) b := Nat.not_le.mpr hbl
  have hw : ∀ w ∈ bigW, w.before #[Value.ref b] s = true := fun w h => hts w (List.mem_filter.mp h).1
  have hown : s.vm.findClass R_law = some m.cls := hown
  intro hu hv huv hcn hsn hP hD hS
  have hv1 := hv.1
  have tl_1 : (1 : Int32).toInt = 1 := by decide
  have tl_2 : (2 : Int32).toInt = 2 := by decide
  have tl_3 : (3 : Int32).toInt = 3 := by decide
  have tl_4 : (4 : Int32).toInt = 4 := by decide
  have tl_5 : (5 : Int32).toInt = 5 := by decide
  refine lv_aload_n hx hb d_law_272 rfl (lv_at hl 2 rfl) ?_
  refine lv_aload_n hx hb d_law_273 rfl (lv_at hl 3 rfl) ?_
  refine lv_iload_n hx hb d_law_274 rfl (lv_at hl 0 rfl) ?_
  refine lv_iconst (v := 1) hx hb d_law_275 (by decide) ?_
  refine lv_iadd hx hb d_law_276 ?_
  refine lv_topi (fun yV1 eyV1 => ?_)
  have tyV1 := z_addE eyV1
  refine va_sld hx hb hX hbl hbA hS (z_in (by omega) (by omega)) d_law_277 ?_
  obtain ⟨nV1, hnV1⟩ : ∃ z : Int32, z = xs yV1.toNatClampNeg := ⟨_, rfl⟩
  rw [← hnV1]
  have hP := sw_P hP
  have hD := sw_D hD
  refine lawcall (X := mW G mm v) (pl := xW G x u) (As := [.int nV1]) (rest := []) (w1 := fun w => xW G x w) ⟨hx, hb, hml, hown, hw⟩ (k_V_bytes l G x u nV1 hu) (cwV 1 hw gw_V_bytes rfl rfl rfl hy_V_bytes ⟨Nat.le_of_ble_eq_true rfl, Nat.le_of_ble_eq_true rfl⟩) hE hP hD hS hA (law_recv hE hP (ci := 0) rfl (List.mem_append_right _ (xW_head _ _ _).choose_spec)) rfl hl rfl (Nat.le_of_ble_eq_true rfl) d_law_278 ⟨by show cn + 0 ≤ 600000; omega, by show sn + 0 ≤ 7302249; omega⟩ (fun rV u1 H locs hp1 hP hD hS => ?_)
  refine lv_pop hx hb d_law_281 rfl ?_
  refine lv_aload_n hx hb d_law_282 rfl (lv_at hl 1 rfl) ?_
  refine lv_aload_n hx hb d_law_283 rfl (lv_at hl 3 rfl) ?_
  refine lv_iload_n hx hb d_law_284 rfl (lv_at hl 0 rfl) ?_
  refine lv_iconst (v := 1) hx hb d_law_285 (by decide) ?_
  refine lv_iadd hx hb d_law_286 ?_
  refine lv_topi (fun yM1 eyM1 => ?_)
  have tyM1 := z_addE eyM1
  refine va_sld hx hb hX hbl hbA hS (z_in (by omega) (by omega)) d_law_287 ?_
  obtain ⟨nM1, hnM1⟩ : ∃ z : Int32, z = xs yM1.toNatClampNeg := ⟨_, rfl⟩
  rw [← hnM1]
  have hP := sw_P hP
  have hD := sw_D hD
  refine lawcall (X := xW G x u1) (pl := mW G mm v) (As := [.int nM1]) (rest := []) (w1 := fun w => mW G mm w) ⟨hx, hb, hml, hown, hw⟩ (k_M_bytes l G mm v nM1 hv) (cwV 1 hw gw_M_bytes rfl rfl rfl hy_M_bytes ⟨Nat.le_of_ble_eq_true rfl, Nat.le_of_ble_eq_true rfl⟩) hE hP hD hS hA (law_recv hE hP (ci := 5) rfl (List.mem_append_right _ (mW_head _ _ _).choose_spec)) rfl hl rfl (Nat.le_of_ble_eq_true rfl) d_law_288 ⟨by show cn + 0 + 0 ≤ 600000; omega, by show sn + 0 + 0 ≤ 7302249; omega⟩ (fun rM v1 H locs hp2 hP hD hS => ?_)
  refine lv_pop hx hb d_law_291 rfl ?_
  obtain ⟨hu1, hp1⟩ := hp1
  obtain ⟨hv1b, hp2⟩ := hp2
  refine lv_goto (tgt := 318) hx hb d_law_292 (by decide) ?_
  have e2 := hp2
  refine hT u1 v1 _ _ H locs hu1 hv1b (by rw [hp1, hp2, huv]) ?_ ?_ hP hD hS
  · rw [e2]; omega
  · rw [e2]; omega
set_option maxHeartbeats 4000000 in
set_option maxRecDepth 100000 in
theorem lc_octet {p : Program} {e : Env} {s : State} {m : MethodId} {below : List Frame} {meth : Method} {c : Code} (l : Launch) {b L : Nat} {xs : Nat → Int32} (hL : L ≤ 3072) (C0 : lw_At p s m meth c b L xs) {G : GG} (hE : KE G (fun q : Nat => s.heap.size ≤ q) s) (x mm : Nat) (k : Nat) (hk : 6 * k + 6 ≤ L) (i : Int32) (hi : i.toInt = 6 * k) (u : SX) (v : SM) (cn sn : Nat) (ls : Array Slot) (hl : lv_has ls 4 [(3, .int i), (2, .ref mm), (1, .ref x), (0, .ref b)]) (hT : (∀ (u1 : SX) (v1 : SM) (cn1 sn1 : Nat) (H : Heap) (locs : List Loc), xOk u1 → mOk G v1 → u1.2.2.2 0 = v1.2.2.2.1 2 → cn1 + 3 * (v1.2.2.2.1 2).toInt.toNat ≤ 40 + 120 * (k + 1) → sn1 + 140 * (v1.2.2.2.1 2).toInt.toNat ≤ 17200 + 10520 * (k + 1) → va_P G.1 vwCl (xW G x u1 ++ mW G mm v1) H → va_D (fun q : Nat => s.heap.size ≤ q) (xW G x u1 ++ mW G mm v1) → va_S (fun q : Nat => s.heap.size ≤ q) s.heap H locs → W p l e room_1 s m #[Value.ref b] below meth c H locs cn1 sn1 (lw_Z below #[Value.ref b] s) (F0 m 318 ls []))) (H : Heap) (locs : List Loc) : xOk u → mOk G v → u.2.2.2 0 = v.2.2.2.1 2 → cn + 3 * (v.2.2.2.1 2).toInt.toNat ≤ 40 + 120 * k → sn + 140 * (v.2.2.2.1 2).toInt.toNat ≤ 17200 + 10520 * k → va_P G.1 vwCl (xW G x u ++ mW G mm v) H → va_D (fun q : Nat => s.heap.size ≤ q) (xW G x u ++ mW G mm v) → va_S (fun q : Nat => s.heap.size ≤ q) s.heap H locs → W p l e room_1 s m #[Value.ref b] below meth c H locs cn sn (lw_Z below #[Value.ref b] s) (F0 m 295 ls []) := by
  obtain ⟨hx, hb, hr, hml, hown, hts, hX, hbl, hlocks, hgv⟩ := id C0
  have hA : ∀ q : Nat, s.heap.size ≤ q → (fun q : Nat => s.heap.size ≤ q) q := fun _ h => h
  have hbA : ¬ (fun q : Nat => s.heap.size ≤ q) b := Nat.not_le.mpr hbl
  have hw : ∀ w ∈ bigW, w.before #[Value.ref b] s = true := fun w h => hts w (List.mem_filter.mp h).1
  have hown : s.vm.findClass R_law = some m.cls := hown
  intro hu hv huv hcn hsn hP hD hS
  have hv1 := hv.1
  have tl_1 : (1 : Int32).toInt = 1 := by decide
  have tl_2 : (2 : Int32).toInt = 2 := by decide
  have tl_3 : (3 : Int32).toInt = 3 := by decide
  have tl_4 : (4 : Int32).toInt = 4 := by decide
  have tl_5 : (5 : Int32).toInt = 5 := by decide
  refine lv_aload_n hx hb d_law_295 rfl (lv_at hl 2 rfl) ?_
  refine lv_aload_n hx hb d_law_296 rfl (lv_at hl 3 rfl) ?_
  refine lv_iload_n hx hb d_law_297 rfl (lv_at hl 0 rfl) ?_
  refine lv_iconst (v := 1) hx hb d_law_298 (by decide) ?_
  refine lv_iadd hx hb d_law_299 ?_
  refine lv_topi (fun yV1 eyV1 => ?_)
  have tyV1 := z_addE eyV1
  refine va_sld hx hb hX hbl hbA hS (z_in (by omega) (by omega)) d_law_300 ?_
  obtain ⟨nV1, hnV1⟩ : ∃ z : Int32, z = xs yV1.toNatClampNeg := ⟨_, rfl⟩
  rw [← hnV1]
  have hP := sw_P hP
  have hD := sw_D hD
  refine lawcall (X := mW G mm v) (pl := xW G x u) (As := [.int nV1]) (rest := []) (w1 := fun w => xW G x w) ⟨hx, hb, hml, hown, hw⟩ (k_V_octet l G x u nV1 hu) (cwV 1 hw gw_V_octet rfl rfl rfl hy_V_octet ⟨Nat.le_of_ble_eq_true rfl, Nat.le_of_ble_eq_true rfl⟩) hE hP hD hS hA (law_recv hE hP (ci := 0) rfl (List.mem_append_right _ (xW_head _ _ _).choose_spec)) rfl hl rfl (Nat.le_of_ble_eq_true rfl) d_law_301 ⟨by show cn + 0 ≤ 600000; omega, by show sn + 0 ≤ 7302249; omega⟩ (fun rV u1 H locs hp1 hP hD hS => ?_)
  refine lv_pop hx hb d_law_304 rfl ?_
  refine lv_aload_n hx hb d_law_305 rfl (lv_at hl 1 rfl) ?_
  refine lv_aload_n hx hb d_law_306 rfl (lv_at hl 3 rfl) ?_
  refine lv_iload_n hx hb d_law_307 rfl (lv_at hl 0 rfl) ?_
  refine lv_iconst (v := 1) hx hb d_law_308 (by decide) ?_
  refine lv_iadd hx hb d_law_309 ?_
  refine lv_topi (fun yM1 eyM1 => ?_)
  have tyM1 := z_addE eyM1
  refine va_sld hx hb hX hbl hbA hS (z_in (by omega) (by omega)) d_law_310 ?_
  obtain ⟨nM1, hnM1⟩ : ∃ z : Int32, z = xs yM1.toNatClampNeg := ⟨_, rfl⟩
  rw [← hnM1]
  have hP := sw_P hP
  have hD := sw_D hD
  refine lawcall (X := xW G x u1) (pl := mW G mm v) (As := [.int nM1]) (rest := []) (w1 := fun w => mW G mm w) ⟨hx, hb, hml, hown, hw⟩ (k_M_octet l G mm v nM1 hv) (cwV 1 hw gw_M_octet rfl rfl rfl hy_M_octet ⟨Nat.le_of_ble_eq_true rfl, Nat.le_of_ble_eq_true rfl⟩) hE hP hD hS hA (law_recv hE hP (ci := 5) rfl (List.mem_append_right _ (mW_head _ _ _).choose_spec)) rfl hl rfl (Nat.le_of_ble_eq_true rfl) d_law_311 ⟨by show cn + 0 + 0 ≤ 600000; omega, by show sn + 0 + 0 ≤ 7302249; omega⟩ (fun rM v1 H locs hp2 hP hD hS => ?_)
  refine lv_pop hx hb d_law_314 rfl ?_
  obtain ⟨hu1, hp1⟩ := hp1
  obtain ⟨hv1b, hp2⟩ := hp2
  refine lv_goto (tgt := 318) hx hb d_law_315 (by decide) ?_
  have e2 := hp2
  refine hT u1 v1 _ _ H locs hu1 hv1b (by rw [hp1, hp2, huv]) ?_ ?_ hP hD hS
  · rw [e2]; omega
  · rw [e2]; omega
set_option maxHeartbeats 4000000 in
set_option maxRecDepth 100000 in
theorem law_loop {p : Program} {e : Env} {s : State} {m : MethodId} {below : List Frame} {meth : Method} {c : Code} (l : Launch) {b L : Nat} {xs : Nat → Int32} (hL : L ≤ 3072) (C0 : lw_At p s m meth c b L xs) {G : GG} (hE : KE G (fun q : Nat => s.heap.size ≤ q) s) (x mm : Nat) : ∀ (fu k : Nat) (i : Int32) (u : SX) (v : SM) (cn sn : Nat) (H : Heap) (locs : List Loc) (ls : Array Slot), L - 6 * k < fu → 6 * k ≤ 3072 → i.toInt = 6 * k → lv_has ls 4 [(3, .int i), (2, .ref mm), (1, .ref x), (0, .ref b)] → xOk u → mOk G v → u.2.2.2 0 = v.2.2.2.1 2 → cn + 3 * (v.2.2.2.1 2).toInt.toNat ≤ 40 + 120 * k → sn + 140 * (v.2.2.2.1 2).toInt.toNat ≤ 17200 + 10520 * k → va_P G.1 vwCl (xW G x u ++ mW G mm v) H → va_D (fun q : Nat => s.heap.size ≤ q) (xW G x u ++ mW G mm v) → va_S (fun q : Nat => s.heap.size ≤ q) s.heap H locs → W p l e room_1 s m #[Value.ref b] below meth c H locs cn sn (lw_Z below #[Value.ref b] s) (F0 m 18 ls []) := by
  obtain ⟨hx, hb, hr, hml, hown, hts, hX, hbl, hlocks, hgv⟩ := id C0
  have hA : ∀ q : Nat, s.heap.size ≤ q → (fun q : Nat => s.heap.size ≤ q) q := fun _ h => h
  have hbA : ¬ (fun q : Nat => s.heap.size ≤ q) b := Nat.not_le.mpr hbl
  have hw : ∀ w ∈ bigW, w.before #[Value.ref b] s = true := fun w h => hts w (List.mem_filter.mp h).1
  have hown : s.vm.findClass R_law = some m.cls := hown
  intro fu
  induction fu with
  | zero => intro k i u v cn sn H locs ls h; exact absurd h (Nat.not_lt_zero _)
  | succ fu ih =>
    intro k i u v cn sn H locs ls hfu h6 hi hl hu hv huv hcn hsn hP hD hS
    have hv1 := hv.1
    have tl_6 : (6 : Int32).toInt = 6 := by decide
    have hL2 : (Int32.ofNat L).toInt = L := z_n (n := L) (by omega)
    refine lv_iload_n hx hb d_law_18 rfl (lv_at hl 0 rfl) ?_
    refine lv_aload_n hx hb d_law_19 rfl (lv_at hl 3 rfl) ?_
    refine va_slen hx hb hX hbl hbA hS d_law_20 ?_
    refine lv_bipush (v := 6) hx hb d_law_21 (by decide) ?_
    refine lv_isub hx hb d_law_23 ?_
    refine lv_topi (fun y1 ey1 => ?_)
    have ty1 := z_subE ey1
    refine lv_icmp_gt (tgt := 324) hx hb d_law_24 (by decide) (fun c1 => ?_) (fun c1 => ?_)
    · refine lv_iconst (v := 1) hx hb d_law_324 (by decide) ?_
      refine va_forget (fun q hq => hS.2.2 q hq) ?_
      refine W.widen (k := 600000) (n := 7302249) (by omega) (by omega) ?_
      exact lw_ret hx hb hr hlocks d_law_325
    · have tc1 := z_nlt c1
      have hk : 6 * k + 6 ≤ L := by omega
      have hT : ∀ (u1 : SX) (v1 : SM) (cn1 sn1 : Nat) (H : Heap) (locs : List Loc), xOk u1 → mOk G v1 → u1.2.2.2 0 = v1.2.2.2.1 2 → cn1 + 3 * (v1.2.2.2.1 2).toInt.toNat ≤ 40 + 120 * (k + 1) → sn1 + 140 * (v1.2.2.2.1 2).toInt.toNat ≤ 17200 + 10520 * (k + 1) → va_P G.1 vwCl (xW G x u1 ++ mW G mm v1) H → va_D (fun q : Nat => s.heap.size ≤ q) (xW G x u1 ++ mW G mm v1) → va_S (fun q : Nat => s.heap.size ≤ q) s.heap H locs → W p l e room_1 s m #[Value.ref b] below meth c H locs cn1 sn1 (lw_Z below #[Value.ref b] s) (F0 m 318 ls []) := by
        intro u1 v1 cn1 sn1 H locs hu1 hv1 huv1 hcn1 hsn1 hP hD hS
        obtain ⟨y9, ey9⟩ : ∃ y : Int32, y = i + 6 := ⟨_, rfl⟩
        have ty9 := z_addE ey9
        refine lv_iinc (v := y9) (lv' := [(3, .int y9), (2, .ref mm), (1, .ref x), (0, .ref b)]) hx hb d_law_318 hl (k := 0) rfl (by rw [ey9]; rfl) (by decide) rfl (fun ls hl => ?_)
        refine lv_goto (tgt := 18) hx hb d_law_321 (by decide) ?_
        exact ih (k + 1) y9 u1 v1 cn1 sn1 H locs ls (by omega) (by omega) (by omega) hl hu1 hv1 huv1 hcn1 hsn1 hP hD hS
      refine lv_aload_n hx hb d_law_27 rfl (lv_at hl 3 rfl) ?_
      refine lv_iload_n hx hb d_law_28 rfl (lv_at hl 0 rfl) ?_
      refine va_sld hx hb hX hbl hbA hS (z_in (by omega) (by omega)) d_law_29 ?_
      refine lv_bipush (v := 15) hx hb d_law_30 (by decide) ?_
      refine lv_iand hx hb d_law_32 ?_
      refine lv_topi (fun y2 ey2 => ?_)
      by_cases w0 : y2 = 0
      · rw [w0]
        refine lv_tableIn (tgt := 88) hx hb d_law_33 (by decide) (by decide) rfl (by decide) ?_
        exact lc_feed l hL C0 hE x mm k hk i hi u v cn sn ls hl hT H locs hu hv huv hcn hsn hP hD hS
      by_cases w1 : y2 = 1
      · rw [w1]
        refine lv_tableIn (tgt := 151) hx hb d_law_33 (by decide) (by decide) rfl (by decide) ?_
        exact lc_end l hL C0 hE x mm k hk i hi u v cn sn ls hl hT H locs hu hv huv hcn hsn hP hD hS
      by_cases w2 : y2 = 2
      · rw [w2]
        refine lv_tableIn (tgt := 174) hx hb d_law_33 (by decide) (by decide) rfl (by decide) ?_
        exact lc_read l hL C0 hE x mm k hk i hi u v cn sn ls hl hT H locs hu hv huv hcn hsn hP hD hS
      by_cases w3 : y2 = 3
      · rw [w3]
        refine lv_tableIn (tgt := 187) hx hb d_law_33 (by decide) (by decide) rfl (by decide) ?_
        exact lc_write l hL C0 hE x mm k hk i hi u v cn sn ls hl hT H locs hu hv huv hcn hsn hP hD hS
      by_cases w4 : y2 = 4
      · rw [w4]
        refine lv_tableIn (tgt := 200) hx hb d_law_33 (by decide) (by decide) rfl (by decide) ?_
        exact lc_top l hL C0 hE x mm k hk i hi u v cn sn ls hl hT H locs hu hv huv hcn hsn hP hD hS
      by_cases w5 : y2 = 5
      · rw [w5]
        refine lv_tableIn (tgt := 213) hx hb d_law_33 (by decide) (by decide) rfl (by decide) ?_
        exact lc_item l hL C0 hE x mm k hk i hi u v cn sn ls hl hT H locs hu hv huv hcn hsn hP hD hS
      by_cases w6 : y2 = 6
      · rw [w6]
        refine lv_tableIn (tgt := 236) hx hb d_law_33 (by decide) (by decide) rfl (by decide) ?_
        exact lc_find l hL C0 hE x mm k hk i hi u v cn sn ls hl hT H locs hu hv huv hcn hsn hP hD hS
      by_cases w7 : y2 = 7
      · rw [w7]
        refine lv_tableIn (tgt := 249) hx hb d_law_33 (by decide) (by decide) rfl (by decide) ?_
        exact lc_look l hL C0 hE x mm k hk i hi u v cn sn ls hl hT H locs hu hv huv hcn hsn hP hD hS
      by_cases w8 : y2 = 8
      · rw [w8]
        refine lv_tableIn (tgt := 272) hx hb d_law_33 (by decide) (by decide) rfl (by decide) ?_
        exact lc_bytes l hL C0 hE x mm k hk i hi u v cn sn ls hl hT H locs hu hv huv hcn hsn hP hD hS
      by_cases w9 : y2 = 9
      · rw [w9]
        refine lv_tableIn (tgt := 295) hx hb d_law_33 (by decide) (by decide) rfl (by decide) ?_
        exact lc_octet l hL C0 hE x mm k hk i hi u v cn sn ls hl hT H locs hu hv huv hcn hsn hP hD hS
      have nw0 := lv_neT w0 (a := 0) (by decide)
      have nw1 := lv_neT w1 (a := 1) (by decide)
      have nw2 := lv_neT w2 (a := 2) (by decide)
      have nw3 := lv_neT w3 (a := 3) (by decide)
      have nw4 := lv_neT w4 (a := 4) (by decide)
      have nw5 := lv_neT w5 (a := 5) (by decide)
      have nw6 := lv_neT w6 (a := 6) (by decide)
      have nw7 := lv_neT w7 (a := 7) (by decide)
      have nw8 := lv_neT w8 (a := 8) (by decide)
      have nw9 := lv_neT w9 (a := 9) (by decide)
      refine lv_tableOut (tgt := 318) hx hb d_law_33 (by omega) (by decide) ?_
      exact hT u v cn sn H locs hu hv huv (by omega) (by omega) hP hD hS
