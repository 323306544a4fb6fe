/-! the recursion of the reference's reading: its words -/
def oc (v : Option Nat) (a b : Nat) : Nat := match v with | none => a | some _ => b
def fup (f : Nat → Nat) (m w : Nat) : Nat → Nat := fun j => if j = m then w else f j
theorem fup_at {f : Nat → Nat} {m w : Nat} : fup f m w m = w := if_pos rfl
theorem fup_ne {f : Nat → Nat} {m w j : Nat} (h : j ≠ m) : fup f m w j = f j := if_neg h
theorem sm_eq {f g : Nat → Nat} : ∀ {m : Nat}, (∀ j, j < m → f j = g j) → sm f m = sm g m := by
  intro m
  induction m with
  | zero => intro _; rfl
  | succ m ih => intro h; show sm f m + f m = sm g m + g m; rw [ih (fun j hj => h j (by omega)), h m (by omega)]
theorem sm_fup1 {f : Nat → Nat} {m w : Nat} : sm (fun j => fup f m w j + 1) (m + 1) = sm (fun j => f j + 1) m + w + 1 := by
  show sm (fun j => fup f m w j + 1) m + (fup f m w m + 1) = _
  rw [fup_at, sm_eq (g := fun j => f j + 1) (fun j hj => by rw [fup_ne (by omega)])]
  omega
theorem sm_fup2 {f g : Nat → Nat} {m w k : Nat} : sm (fun j => fup f m w j + fup g m k j + 3) (m + 1) = sm (fun j => f j + g j + 3) m + (w + k + 3) := by
  show sm (fun j => fup f m w j + fup g m k j + 3) m + (fup f m w m + fup g m k m + 3) = _
  rw [fup_at, fup_at, sm_eq (g := fun j => f j + g j + 3) (fun j hj => by rw [fup_ne (by omega), fup_ne (by omega)])]
def ItI (G : GG) (pl : va_W) (n mn : Nat) (g : Nat → Option Nat) (ws : Nat → Nat) : Prop := ∀ j, j < mn → ∃ c, g j = some c ∧ GP G pl n (ws j) c
def NmI (G : GG) (pl : va_W) (mn : Nat) (g : Nat → Option Nat) (nl : Nat → Nat) : Prop := ∀ j, j < mn → nl j ≤ 20 ∧ ∃ c, g j = some c ∧ BG G pl c (nl j)
theorem ItI.zero {G : GG} {pl : va_W} {n : Nat} {g : Nat → Option Nat} {ws : Nat → Nat} : ItI G pl n 0 g ws := fun j h => absurd h (Nat.not_lt_zero j)
theorem NmI.zero {G : GG} {pl : va_W} {g : Nat → Option Nat} {nl : Nat → Nat} : NmI G pl 0 g nl := fun j h => absurd h (Nat.not_lt_zero j)
theorem ItI.mono {G : GG} {pl pl' : va_W} {n mn : Nat} {g : Nat → Option Nat} {ws : Nat → Nat} (h : ItI G pl n mn g ws) (hs : ∀ z ∈ pl, z ∈ pl') : ItI G pl' n mn g ws := fun j hj => by
  obtain ⟨c, h1, h2⟩ := h j hj
  exact ⟨c, h1, h2.mono hs⟩
theorem NmI.mono {G : GG} {pl pl' : va_W} {mn : Nat} {g : Nat → Option Nat} {nl : Nat → Nat} (h : NmI G pl mn g nl) (hs : ∀ z ∈ pl, z ∈ pl') : NmI G pl' mn g nl := fun j hj => by
  obtain ⟨h0, c, h1, h2⟩ := h j hj
  exact ⟨h0, c, h1, h2.mono hs⟩
theorem ItI.long {G : GG} {pl : va_W} {n mn nr : Nat} {g g2 : Nat → Option Nat} {ws : Nat → Nat} (h : ItI G pl n mn g ws) (e : ∀ j, j < nr → g2 j = g j) (hn : mn ≤ nr) : ItI G pl n mn g2 ws := fun j hj => by
  obtain ⟨c, h1, h2⟩ := h j hj
  exact ⟨c, by rw [e j (by omega)]; exact h1, h2⟩
theorem NmI.long {G : GG} {pl : va_W} {mn : Nat} {g g2 : Nat → Option Nat} {nl : Nat → Nat} (h : NmI G pl mn g nl) (e : ∀ j, j < mn → g2 j = g j) : NmI G pl mn g2 nl := fun j hj => by
  obtain ⟨h0, c, h1, h2⟩ := h j hj
  exact ⟨h0, c, by rw [e j hj]; exact h1, h2⟩
theorem GP.cell {G : GG} {pl : va_W} {d w a : Nat} (h : GP G pl d w a) : ∃ fs, (a, .inr (6, fs)) ∈ pl := by
  cases d with
  | zero => exact h.elim
  | succ d =>
    obtain ⟨kd, x, y, m, b, it, nm, ws, nl, h1, -⟩ := h
    exact ⟨_, h1⟩
theorem ItI.cells {G : GG} {pl : va_W} {n mn nr : Nat} {g : Nat → Option Nat} {ws : Nat → Nat} (h : ItI G pl n mn g ws) (hn : nr ≤ mn) : ∀ j, j < nr → ∃ c fs, g j = some c ∧ (c, .inr (6, fs)) ∈ pl := fun j hj => by
  obtain ⟨c, h1, h2⟩ := h j (by omega)
  obtain ⟨fs, h3⟩ := h2.cell
  exact ⟨c, fs, h1, h3⟩
theorem ItI.step {G : GG} {pl : va_W} {n mn w c : Nat} {g g2 : Nat → Option Nat} {ws : Nat → Nat} {x : Int32} (h : ItI G pl n mn g ws) (hx : x.toInt = mn) (e : g2 = va_up g x.toNatClampNeg (some c)) (hc : GP G pl n w c) : ItI G pl n (mn + 1) g2 (fup ws mn w) := fun j hj => by
  have hk : x.toNatClampNeg = mn := cl_of hx
  rw [hk] at e
  by_cases q : j = mn
  · rw [q, e, fup_at]
    exact ⟨c, by simp [va_up], hc⟩
  · obtain ⟨c2, h1, h2⟩ := h j (by omega)
    rw [fup_ne q, e]
    exact ⟨c2, by rw [← h1]; simp [va_up, q], h2⟩
theorem NmI.step {G : GG} {pl : va_W} {mn k c : Nat} {g g2 : Nat → Option Nat} {nl : Nat → Nat} {x : Int32} (h : NmI G pl mn g nl) (hx : x.toInt = mn) (e : g2 = va_up g x.toNatClampNeg (some c)) (hk20 : k ≤ 20) (hc : BG G pl c k) : NmI G pl (mn + 1) g2 (fup nl mn k) := fun j hj => by
  have hk : x.toNatClampNeg = mn := cl_of hx
  rw [hk] at e
  by_cases q : j = mn
  · rw [q, e, fup_at]
    exact ⟨hk20, c, by simp [va_up], hc⟩
  · obtain ⟨h0, c2, h1, h2⟩ := h j (by omega)
    rw [fup_ne q, e]
    exact ⟨h0, c2, by rw [← h1]; simp [va_up, q], h2⟩
theorem nI_suc {y : Int32} {m : Nat} (hy : y.toInt = m + 1) (hm : m < 1000) : y = nI (m + 1) := Int32.toInt_inj.mp (by rw [hy, z_n (by omega)]; omega)
def ObR (G : GG) (n : Nat) (pl2 : va_W) (a0 a2 : Int32) (v : Option Nat) : Prop := ∀ p, v = some p → ∃ w : Nat, GP G pl2 (n + 1) w p ∧ (w : Int) + 1 ≤ 2 * (a2.toInt - a0.toInt) ∧ a0.toInt < a2.toInt
theorem ob_none {G : GG} {n : Nat} {pl : va_W} {a0 a2 : Int32} : ObR G n pl a0 a2 none := fun _ h => by cases h
theorem ObR.from {G : GG} {n : Nat} {pl : va_W} {a0 b0 a2 : Int32} {v : Option Nat} (h : ObR G n pl b0 a2 v) (h0 : a0.toInt ≤ b0.toInt) : ObR G n pl a0 a2 v := fun p hp => by
  obtain ⟨w, h1, h2, h3⟩ := h p hp
  exact ⟨w, h1, by omega, by omega⟩
theorem NameR.some {G : GG} {pl pl2 : va_W} {a0 a2 sz : Int32} {p : Nat} (h : NameR G pl pl2 a0 a2 sz (some p)) : ∃ (q n : Nat) (f : Nat → Int32), cellP p 4 0 0 0 (some q) none none ∈ pl2 ∧ cellB G q n f ∈ pl2 ∧ sb_Fit f ∧ 1 ≤ n ∧ n ≤ 20 ∧ a2.toInt = a0.toInt + 1 + n ∧ a2.toInt ≤ sz.toInt := by
  rcases h with h | ⟨p', q, n, f, hv, rfl, h1, h2, h3, h4, h5⟩
  · cases h.1
  · cases hv
    exact ⟨q, n, f, List.mem_cons_self, List.mem_cons_of_mem _ List.mem_cons_self, h1, h2, h3, h4, h5⟩
theorem NameR.sub {G : GG} {pl pl2 : va_W} {a0 a2 sz : Int32} {v : Option Nat} (h : NameR G pl pl2 a0 a2 sz v) : ∀ z ∈ pl, z ∈ pl2 := by
  rcases h with h | ⟨p', q, n, f, hv, rfl, h1, h2, h3, h4, h5⟩
  · rw [h.2.1]; exact fun _ h => h
  · exact fun z hz => List.mem_cons_of_mem _ (List.mem_cons_of_mem _ hz)
theorem StrR.sub {G : GG} {pl pl2 : va_W} {a0 a2 sz : Int32} {v : Option Nat} (h : StrR G pl pl2 a0 a2 sz v) : ∀ z ∈ pl, z ∈ pl2 := by
  rcases h with h | ⟨p', q, n, f, hv, rfl, h1, h2, h3, h4⟩
  · rw [h.2]; exact fun _ h => h
  · exact fun z hz => List.mem_cons_of_mem _ (List.mem_cons_of_mem _ hz)
theorem RefR.sub {pl pl2 : va_W} {x a0 a2 sz : Int32} {v : Option Nat} (h : RefR pl pl2 x a0 a2 sz v) : ∀ z ∈ pl, z ∈ pl2 := by
  rcases h with h | ⟨p', c2, g, hv, rfl, h1, h2, h3⟩
  · rw [h.2]; exact fun _ h => h
  · exact fun z hz => List.mem_cons_of_mem _ hz
theorem ob_name {G : GG} {n : Nat} {pl pl2 : va_W} {a0 b0 a2 sz : Int32} {p : Nat} (h : NameR G pl pl2 b0 a2 sz (some p)) (h0 : a0.toInt ≤ b0.toInt) : ObR G n pl2 a0 a2 (some p) := by
  obtain ⟨q, k, f, h1, h2, h3, h4, h5, h6, h7⟩ := h.some
  intro p' hp
  cases hp
  exact ⟨1 + k, GP.name h1 ⟨f, h2, h3⟩ (by omega), by omega, by omega⟩
theorem ob_str {G : GG} {n : Nat} {pl pl2 : va_W} {a0 b0 a2 sz : Int32} {p : Nat} (h : StrR G pl pl2 b0 a2 sz (some p)) (h0 : a0.toInt ≤ b0.toInt) : ObR G n pl2 a0 a2 (some p) := by
  rcases h with h | ⟨p', q, k, f, hv, rfl, h1, h2, h3, h4⟩
  · cases h.1
  · cases hv
    intro p' hp
    cases hp
    exact ⟨2 + 2 * k, GP.str List.mem_cons_self ⟨f, List.mem_cons_of_mem _ List.mem_cons_self, h1⟩ h2, by omega, by omega⟩
theorem ob_leaf {G : GG} {n : Nat} {pl : va_W} {a0 a2 kd : Int32} {p : Nat} (hk : kd = 0 ∨ kd = 1 ∨ kd = 2) (h : a0.toInt + 3 ≤ a2.toInt) : ObR G n (cellP p kd 0 0 0 none none none :: pl) a0 a2 (some p) := fun p' hp => by
  cases hp
  exact ⟨5, GP.leaf List.mem_cons_self hk, by omega, by omega⟩
theorem ob_ref {G : GG} {n : Nat} {pl pl2 : va_W} {a0 b0 a2 sz x i j : Int32} {p : Nat} (h : RefR pl pl2 x b0 a2 sz (some p)) (hn : (x.toInt = -1) ∨ (0 ≤ x.toInt ∧ x.toInt < 10 ^ (j.toInt - i.toInt).toNat ∧ 1 ≤ j.toInt - i.toInt ∧ j.toInt - i.toInt ≤ 9)) (hx : 0 ≤ x.toInt) (h0 : a0.toInt ≤ i.toInt) (hj : j.toInt ≤ b0.toInt) : ObR G n pl2 a0 a2 (some p) := by
  rcases h with h | ⟨p', c2, g, hv, rfl, h1, h2, h3⟩
  · cases h.1
  · cases hv
    rcases hn with hn | hn
    · omega
    · intro p' hp
      cases hp
      exact ⟨(j.toInt - i.toInt).toNat + c2 + 3, GP.ref List.mem_cons_self ⟨⟨by omega, by omega⟩, Or.inl ⟨hx, rfl, hn.2.1⟩⟩ h1 (Nat.le_refl _), by omega, by omega⟩
theorem ob_int {G : GG} {n : Nat} {pl : va_W} {a0 a2 r y i j : Int32} {p : Nat} (hn : (r.toInt = -1) ∨ (0 ≤ r.toInt ∧ r.toInt < 10 ^ (j.toInt - i.toInt).toNat ∧ 1 ≤ j.toInt - i.toInt ∧ j.toInt - i.toInt ≤ 9)) (hr : 0 ≤ r.toInt) (hy : (y.toInt = r.toInt ∧ a0.toInt ≤ i.toInt) ∨ (y.toInt = -r.toInt ∧ a0.toInt + 1 ≤ i.toInt)) (hj : j.toInt ≤ a2.toInt) : ObR G n (cellP p 3 y 0 0 none none none :: pl) a0 a2 (some p) := by
  rcases hn with hn | hn
  · omega
  · intro p' hp
    cases hp
    have hc : 1 ≤ (j.toInt - i.toInt).toNat ∧ (j.toInt - i.toInt).toNat ≤ 9 := ⟨by omega, by omega⟩
    have hb := hn.2.1
    by_cases q : 0 ≤ y.toInt
    · refine ⟨(j.toInt - i.toInt).toNat, GP.int (c := (j.toInt - i.toInt).toNat) (sg := 0) List.mem_cons_self ⟨hc, Or.inl ⟨q, rfl, by omega⟩⟩ (by omega), by omega, by omega⟩
    · refine ⟨(j.toInt - i.toInt).toNat + 1, GP.int (c := (j.toInt - i.toInt).toNat) (sg := 1) List.mem_cons_self ⟨hc, Or.inr ⟨by omega, rfl, by omega⟩⟩ (by omega), by omega, by omega⟩
theorem ob_arr {G : GG} {n mn nx q p : Nat} {pl : va_W} {a0 b0 a2 x y mI : Int32} {g : Nat → Option Nat} {ws : Nat → Nat} (hm : mI = nI mn) (h60 : mn ≤ 60) (hn : mn ≤ nx) (h64 : nx ≤ 64) (hI : ItI G pl n mn g ws) (hs : sm (fun j => ws j + 1) mn ≤ 2 * (b0.toInt - a0.toInt - 1).toNat) (h1 : a0.toInt + 1 ≤ b0.toInt) (h2 : a2.toInt = b0.toInt + 1) :
    ObR G n ((p, .inr (6, [.int 6, .int x, .int y, .int mI, .null, .ref q, .null])) :: cellI G q nx g :: pl) a0 a2 (some p) := by
  intro p' hp
  cases hp
  subst hm
  refine ⟨2 + sm (fun j => ws j + 1) mn, ⟨6, x, y, mn, none, some q, none, ws, fun _ => 0, List.mem_cons_self, h60, Or.inr (Or.inr (Or.inr (Or.inr (Or.inr (Or.inl ⟨rfl, rfl, rfl, by simp, Nat.le_refl _⟩))))), (fun _ h => by cases h), (fun z hz => ?_), (fun _ h => by cases h)⟩, by omega, by omega⟩
  cases hz
  refine ⟨nx, g, List.mem_cons_of_mem _ List.mem_cons_self, hn, h64, fun j hj => ?_⟩
  obtain ⟨c, c1, c2⟩ := hI j hj
  exact ⟨c, c1, c2.mono (fun z hz => List.mem_cons_of_mem _ (List.mem_cons_of_mem _ hz))⟩
theorem ob_dict {G : GG} {n mn nx ny q r p : Nat} {pl : va_W} {a0 b0 a2 x y mI : Int32} {g gn : Nat → Option Nat} {ws nl : Nat → Nat} (hm : mI = nI mn) (h60 : mn ≤ 30) (hn : mn ≤ nx) (h64 : nx ≤ 64) (hn2 : mn ≤ ny) (h642 : ny ≤ 64) (hI : ItI G pl n mn g ws) (hN : NmI G pl mn gn nl) (hs : sm (fun j => ws j + nl j + 3) mn ≤ 2 * (b0.toInt - a0.toInt - 2).toNat) (h1 : a0.toInt + 2 ≤ b0.toInt) (h2 : a2.toInt = b0.toInt + 2) :
    ObR G n ((p, .inr (6, [.int 7, .int x, .int y, .int mI, .null, .ref q, .ref r])) :: cellI G q nx g :: cellN G r ny gn :: pl) a0 a2 (some p) := by
  intro p' hp
  cases hp
  subst hm
  have hup : ∀ z ∈ pl, z ∈ ((p, .inr (6, [.int 7, .int x, .int y, .int (nI mn), .null, .ref q, .ref r])) :: cellI G q nx g :: cellN G r ny gn :: pl : va_W) := fun z hz => List.mem_cons_of_mem _ (List.mem_cons_of_mem _ (List.mem_cons_of_mem _ hz))
  refine ⟨4 + sm (fun j => ws j + nl j + 3) mn, ⟨7, x, y, mn, none, some q, some r, ws, nl, List.mem_cons_self, by omega, Or.inr (Or.inr (Or.inr (Or.inr (Or.inr (Or.inr ⟨rfl, rfl, by simp, by simp, fun j hj => (hN j hj).1, Nat.le_refl _⟩))))), (fun _ h => by cases h), (fun z hz => ?_), (fun z hz => ?_)⟩, by omega, by omega⟩
  · cases hz
    refine ⟨nx, g, List.mem_cons_of_mem _ List.mem_cons_self, hn, h64, fun j hj => ?_⟩
    obtain ⟨c, c1, c2⟩ := hI j hj
    exact ⟨c, c1, c2.mono hup⟩
  · cases hz
    refine ⟨ny, gn, List.mem_cons_of_mem _ (List.mem_cons_of_mem _ List.mem_cons_self), hn2, h642, fun j hj => ?_⟩
    obtain ⟨-, c, c1, c2⟩ := hN j hj
    exact ⟨c, c1, c2.mono hup⟩
theorem NmI.cells {G : GG} {X pl : va_W} {mn : Nat} {g : Nat → Option Nat} {nl : Nat → Nat} (h : NmI G pl mn g nl) : ∀ j, j < mn → ∃ c nb f, g j = some c ∧ cellB G c nb f ∈ X ++ pl ∧ nb ≤ 4000 := fun j hj => by
  obtain ⟨h0, c, h1, f, h2, -⟩ := h j hj
  exact ⟨c, nl j, f, h1, List.mem_append_right _ h2, by omega⟩
theorem mr_pred {d : Int32} {n : Nat} (hd : d.toInt = 8 - (n : Int)) (c : d.toInt ≠ 8) : ∃ kk, n = kk + 1 := ⟨n - 1, by omega⟩
section GPR
variable {p : Program} {l : Launch} {e : Env} {R : Room} {s : State} {m : MethodId} {args : Array Value} {below : List Frame} {meth : Method} {c : Code} {H : Heap} {locs : List Loc} {cells slots : Nat} {Q : State → Prop}
variable {cc : ByteArray} {pc : Nat} {ls : Array Slot} {rest : List Value} {A : Nat → Prop} {G : GG} {X cx wr ws wc pl : va_W} {mc ms : Nat} {st0 : List Value} {a : Array Value}
theorem gp_r {S : Type} {post : Nat → S → Prop} {rx pl1 : S → va_W} (hr : va_Run p l e R s m args below meth c H locs cells slots mc ms (F0 m pc ls st0) rest (va_Qr (S := S) (fun _ => True) (fun u ra t => post ra u ∧ gB G (fun u => rx u ++ pl1 u) (va_A (cx ++ pl) H.size) u t) (va_A (cx ++ pl) H.size) a) (va_A (cx ++ pl) H.size))
    (hP : va_P G.1 vwCl (X ++ pl) H) (hD : va_D A (X ++ pl)) (hS : va_S A s.heap H locs) (hA : ∀ q, s.heap.size ≤ q → A q) (isC isR : List Nat) (hC : isC.map (fun i => X[i]?) = cx.map some) (hR : isR.map (fun i => X[i]?) = wr.map some) (hn : va_nd isR = true) (hdis : ∀ i ∈ isR, i ∉ isC)
    (kk : ∀ (ra : Nat) (u : S) (H1 : Heap) (locs1 : List Loc), post ra u → va_P G.1 vwCl ((wr ++ rx u) ++ pl1 u) H1 → va_D A ((wr ++ rx u) ++ pl1 u) → va_S A s.heap H1 locs1 → W p l e R s m args below meth c H1 locs1 (cells + mc) (slots + ms) Q (F0 m (pc + 3) ls (.ref ra :: rest))) : W p l e R s m args below meth c H locs cells slots Q (F0 m pc ls st0) := by
  have hFc := va_freeP (cx := cx) hD hS hA isC hC
  refine va_callr hr hS (fun q _ h => hFc q h) hFc (fun u ra t H1 locs1 ht hvm hw hB hz1 hk1 hS1 => ?_)
  obtain ⟨hq, hP1, hD1⟩ := hB
  rw [ht] at hP1
  obtain ⟨hP2, hD2⟩ := va_joinP hP hD isC isR hC hR hn hdis hk1 hFc hP1 hD1
  exact kk ra u H1 locs1 hq hP2 hD2 hS1
end GPR
def rm_mA (n k : Nat) : Room := { frames := 8 + 2 * n, cells := 3 * k + 9 + 4 * n, slots := 140 * k + 300 + 300 * n, locals := 177 + 60 * n }
def rm_mO (n k : Nat) : Room := { frames := 8 + (2 * n + 1), cells := 3 * k + 9 + 4 * n, slots := 140 * k + 300 + 300 * n, locals := 177 + (60 * n + 30) }
def C_mobject (l : Launch) (G : GG) (n : Nat) : Prop := ∀ (mm : Nat) (tp : Nat) (tk : Nat) (ou : Nat) (pg : Nat) (sz : Int32) (at0 : Int32) (tm : Int32) (om : Int32) (wr : Int32) (al : Value) (pt : Value) (tpf : Nat → Int32) (tkf : Nat → Int32) (pl : va_W) (d : Int32) (hz : 0 ≤ sz.toInt ∧ sz.toInt ≤ 1000) (hc : 0 ≤ at0.toInt ∧ at0.toInt ≤ sz.toInt) (hft : sb_Fit tpf) (htf : sb_Fit tkf) (hd : d.toInt = 8 - (n : Int)), MO l y_M_object b_M_object 9 (.object "ValueTextsModel$Part") (rm_mO n (sz.toInt - at0.toInt).toNat) G [.ref mm, .int d] ([(mm, .inr (5, [.ref tp, .int sz, .int at0, .ref tk, .ref tp, .ref ou, .int tm, .int om, al, pt, .ref pg, .int wr])), (tp, .inl (G.2.1 0, 1000, .inl tpf)), (tk, .inl (G.2.1 0, 101, .inl tkf))] ++ pl) (fun (v : Option Nat) (u : Int32 × (Nat → Int32) × va_W) => (at0.toInt ≤ u.1.toInt ∧ u.1.toInt ≤ sz.toInt) ∧ (sb_Fit u.2.1) ∧ (∀ z ∈ pl, z ∈ u.2.2) ∧ (ObR G n u.2.2 at0 u.1 v)) (fun (u : Int32 × (Nat → Int32) × va_W) => ([(mm, .inr (5, [.ref tp, .int sz, .int u.1, .ref tk, .ref tp, .ref ou, .int tm, .int om, al, pt, .ref pg, .int wr])), (tp, .inl (G.2.1 0, 1000, .inl tpf)), (tk, .inl (G.2.1 0, 101, .inl u.2.1))] ++ u.2.2)) (fun (v : Option Nat) (u : Int32 × (Nat → Int32) × va_W) => oc v (3 * (sz.toInt - at0.toInt).toNat + 9 + 4 * n) (3 * (u.1.toInt - at0.toInt).toNat)) (fun (v : Option Nat) (u : Int32 × (Nat → Int32) × va_W) => oc v (140 * (sz.toInt - at0.toInt).toNat + 300 + 300 * n) (140 * (u.1.toInt - at0.toInt).toNat)) (3 * (sz.toInt - at0.toInt).toNat + 9 + 4 * n) (140 * (sz.toInt - at0.toInt).toNat + 300 + 300 * n)
def C_marray (l : Launch) (G : GG) (n : Nat) : Prop := ∀ (mm : Nat) (tp : Nat) (tk : Nat) (ou : Nat) (pg : Nat) (sz : Int32) (at0 : Int32) (tm : Int32) (om : Int32) (wr : Int32) (al : Value) (pt : Value) (tpf : Nat → Int32) (tkf : Nat → Int32) (pl : va_W) (d : Int32) (hz : 0 ≤ sz.toInt ∧ sz.toInt ≤ 1000) (hc : 0 ≤ at0.toInt ∧ at0.toInt ≤ sz.toInt) (hft : sb_Fit tpf) (htf : sb_Fit tkf) (hd : d.toInt = 8 - (n : Int)) (hlt : at0.toInt < sz.toInt), MO l y_M_array b_M_array 4 (.object "ValueTextsModel$Part") (rm_mA n (sz.toInt - at0.toInt).toNat) G [.ref mm, .int d] ([(mm, .inr (5, [.ref tp, .int sz, .int at0, .ref tk, .ref tp, .ref ou, .int tm, .int om, al, pt, .ref pg, .int wr])), (tp, .inl (G.2.1 0, 1000, .inl tpf)), (tk, .inl (G.2.1 0, 101, .inl tkf))] ++ pl) (fun (v : Option Nat) (u : Int32 × (Nat → Int32) × va_W) => (at0.toInt ≤ u.1.toInt ∧ u.1.toInt ≤ sz.toInt) ∧ (sb_Fit u.2.1) ∧ (∀ z ∈ pl, z ∈ u.2.2) ∧ (ObR G n u.2.2 at0 u.1 v)) (fun (u : Int32 × (Nat → Int32) × va_W) => ([(mm, .inr (5, [.ref tp, .int sz, .int u.1, .ref tk, .ref tp, .ref ou, .int tm, .int om, al, pt, .ref pg, .int wr])), (tp, .inl (G.2.1 0, 1000, .inl tpf)), (tk, .inl (G.2.1 0, 101, .inl u.2.1))] ++ u.2.2)) (fun (v : Option Nat) (u : Int32 × (Nat → Int32) × va_W) => oc v (3 * (sz.toInt - at0.toInt).toNat + 9 + 4 * n) (3 * (u.1.toInt - at0.toInt).toNat)) (fun (v : Option Nat) (u : Int32 × (Nat → Int32) × va_W) => oc v (140 * (sz.toInt - at0.toInt).toNat + 300 + 300 * n) (140 * (u.1.toInt - at0.toInt).toNat)) (3 * (sz.toInt - at0.toInt).toNat + 9 + 4 * n) (140 * (sz.toInt - at0.toInt).toNat + 300 + 300 * n)
def C_mdict (l : Launch) (G : GG) (n : Nat) : Prop := ∀ (mm : Nat) (tp : Nat) (tk : Nat) (ou : Nat) (pg : Nat) (sz : Int32) (at0 : Int32) (tm : Int32) (om : Int32) (wr : Int32) (al : Value) (pt : Value) (tpf : Nat → Int32) (tkf : Nat → Int32) (pl : va_W) (d : Int32) (hz : 0 ≤ sz.toInt ∧ sz.toInt ≤ 1000) (hc : 0 ≤ at0.toInt ∧ at0.toInt ≤ sz.toInt) (hft : sb_Fit tpf) (htf : sb_Fit tkf) (hd : d.toInt = 8 - (n : Int)) (hlt : at0.toInt + 2 ≤ sz.toInt), MO l y_M_dict b_M_dict 7 (.object "ValueTextsModel$Part") (rm_mA n (sz.toInt - at0.toInt).toNat) G [.ref mm, .int d] ([(mm, .inr (5, [.ref tp, .int sz, .int at0, .ref tk, .ref tp, .ref ou, .int tm, .int om, al, pt, .ref pg, .int wr])), (tp, .inl (G.2.1 0, 1000, .inl tpf)), (tk, .inl (G.2.1 0, 101, .inl tkf))] ++ pl) (fun (v : Option Nat) (u : Int32 × (Nat → Int32) × va_W) => (at0.toInt ≤ u.1.toInt ∧ u.1.toInt ≤ sz.toInt) ∧ (sb_Fit u.2.1) ∧ (∀ z ∈ pl, z ∈ u.2.2) ∧ (ObR G n u.2.2 at0 u.1 v)) (fun (u : Int32 × (Nat → Int32) × va_W) => ([(mm, .inr (5, [.ref tp, .int sz, .int u.1, .ref tk, .ref tp, .ref ou, .int tm, .int om, al, pt, .ref pg, .int wr])), (tp, .inl (G.2.1 0, 1000, .inl tpf)), (tk, .inl (G.2.1 0, 101, .inl u.2.1))] ++ u.2.2)) (fun (v : Option Nat) (u : Int32 × (Nat → Int32) × va_W) => oc v (3 * (sz.toInt - at0.toInt).toNat + 9 + 4 * n) (3 * (u.1.toInt - at0.toInt).toNat)) (fun (v : Option Nat) (u : Int32 × (Nat → Int32) × va_W) => oc v (140 * (sz.toInt - at0.toInt).toNat + 300 + 300 * n) (140 * (u.1.toInt - at0.toInt).toNat)) (3 * (sz.toInt - at0.toInt).toNat + 9 + 4 * n) (140 * (sz.toInt - at0.toInt).toNat + 300 + 300 * n)
set_option maxHeartbeats 4000000 in
set_option maxRecDepth 100000 in
theorem s_marray (l : Launch) (G : GG) (n : Nat) (ho : ∀ k, n = k + 1 → C_mobject l G k) : C_marray l G n := by
  intro mm tp tk ou pg sz at0 tm om wr al pt tpf tkf pl d hz hc hft htf hd hlt
  refine MO.of (cc := b_M_array) (maxL := 4) (ty := .object "ValueTextsModel$Part") (C := R_M) (by decide +kernel) rfl (Nat.le_of_ble_eq_true rfl) (Or.inl ⟨_, rfl⟩) ?_
  intro p e s m args below meth c A Q H ls hx hb hml hown hw hE hA hP hD hS ret hl
  have hl : lv_has ls 4 [(0, .ref mm), (1, .int d)] := hl
  have J_40 : ∀ (fu : Nat) (at2_40 : Int32) (tkf2_40 : Nat → Int32) (pl2_40 : va_W) (mn_40 : Nat) (gl_40 : Nat) (ws_40 : Nat → Nat) (qx0_40 : Nat) (ix0_1_40 : Int32) (ix0_2_40 : Int32) (ix0_3_40 : Int32) (qx1_40 : Nat) (fx1_40 : Nat → Option Nat) (nx1_40 : Nat) (hj0_40 : at0.toInt ≤ at2_40.toInt ∧ at2_40.toInt ≤ sz.toInt) (hj1_40 : sb_Fit tkf2_40) (hj2_40 : ∀ z ∈ pl, z ∈ pl2_40) (hk0_40 : at0.toInt + 1 ≤ at2_40.toInt) (hk1_40 : 1 ≤ n) (hk2_40 : ix0_3_40 = nI mn_40) (hk3_40 : mn_40 ≤ 60 ∧ mn_40 ≤ nx1_40) (hk4_40 : (gl_40 = 0 ∧ nx1_40 = 4) ∨ (gl_40 = 1 ∧ nx1_40 = 8) ∨ (gl_40 = 2 ∧ nx1_40 = 16) ∨ (gl_40 = 3 ∧ nx1_40 = 32) ∨ (gl_40 = 4 ∧ nx1_40 = 64)) (hk5_40 : ItI G pl2_40 n mn_40 fx1_40 ws_40) (hk6_40 : sm (fun j => ws_40 j + 1) mn_40 ≤ 2 * (at2_40.toInt - at0.toInt - 1).toNat), (sz.toInt - at2_40.toInt).toNat < fu → ∀ (H : Heap) (locs : List Loc), va_P G.1 vwCl ([(mm, .inr (5, [.ref tp, .int sz, .int at2_40, .ref tk, .ref tp, .ref ou, .int tm, .int om, al, pt, .ref pg, .int wr])), (tp, .inl (G.2.1 0, 1000, .inl tpf)), (tk, .inl (G.2.1 0, 101, .inl tkf2_40)), (qx0_40, .inr (6, [.int 6, .int ix0_1_40, .int ix0_2_40, .int ix0_3_40, .null, .ref qx1_40, .null])), (qx1_40, .inl (G.2.1 2, nx1_40, .inr (.inr (.inr (.inr fx1_40)))))] ++ pl2_40) H → va_D A ([(mm, .inr (5, [.ref tp, .int sz, .int at2_40, .ref tk, .ref tp, .ref ou, .int tm, .int om, al, pt, .ref pg, .int wr])), (tp, .inl (G.2.1 0, 1000, .inl tpf)), (tk, .inl (G.2.1 0, 101, .inl tkf2_40)), (qx0_40, .inr (6, [.int 6, .int ix0_1_40, .int ix0_2_40, .int ix0_3_40, .null, .ref qx1_40, .null])), (qx1_40, .inl (G.2.1 2, nx1_40, .inr (.inr (.inr (.inr fx1_40)))))] ++ pl2_40) → va_S A s.heap H locs → ∀ ls : Array Slot, lv_has ls 4 [(2, .ref qx0_40), (0, .ref mm), (1, .int d)] → W p l e (rm_mA n (sz.toInt - at0.toInt).toNat) s m args below meth c H locs (2 + gl_40 + 3 * (at2_40.toInt - at0.toInt - 1).toNat) (11 + 64 * gl_40 + 140 * (at2_40.toInt - at0.toInt - 1).toNat) Q (F0 m 40 ls []) := by
    intro fu
    induction fu with
    | zero =>
      intro at2_40 tkf2_40 pl2_40 mn_40 gl_40 ws_40 qx0_40 ix0_1_40 ix0_2_40 ix0_3_40 qx1_40 fx1_40 nx1_40 hj0_40 hj1_40 hj2_40 hk0_40 hk1_40 hk2_40 hk3_40 hk4_40 hk5_40 hk6_40 hm
      exact absurd hm (Nat.not_lt_zero _)
    | succ fu ih_40 =>
      intro at2_40 tkf2_40 pl2_40 mn_40 gl_40 ws_40 qx0_40 ix0_1_40 ix0_2_40 ix0_3_40 qx1_40 fx1_40 nx1_40 hj0_40 hj1_40 hj2_40 hk0_40 hk1_40 hk2_40 hk3_40 hk4_40 hk5_40 hk6_40 hm_40 H locs hP hD hS ls hl
      have hmn9 : ix0_3_40.toInt = mn_40 := by rw [hk2_40]; exact z_n (by omega)
      have hnx9 := z_n (n := nx1_40) (by omega)
      refine lv_aload_n hx hb d_M_array_40 rfl (lv_at hl 1 rfl) ?_
      refine va_get (D := G.1) (ci := 5) (v := .int at2_40) (C := R_M) (T := F_M) (N := 12) hx hb hw i_M hown hE.1 hP 0 rfl rfl 2 (by decide) (hw _ m_455) (fun _ h9 => h9) rfl d_M_array_41 ?_
      refine lv_aload_n hx hb d_M_array_44 rfl (lv_at hl 1 rfl) ?_
      refine va_get (D := G.1) (ci := 5) (v := .int sz) (C := R_M) (T := F_M) (N := 12) hx hb hw i_M hown hE.1 hP 0 rfl rfl 1 (by decide) (hw _ m_454) (fun _ h9 => h9) rfl d_M_array_45 ?_
      refine lv_icmp_ge (tgt := 142) hx hb d_M_array_48 (by decide) (fun c_1 => ?_) (fun c_1 => ?_)
      · have tc_1 := z_le.mp c_1
        refine lv_aload_n hx hb d_M_array_142 rfl (lv_at hl 1 rfl) ?_
        refine lv_bipush (v := 93) hx hb d_M_array_143 (by decide) ?_
        refine gq_i (X := [(mm, .inr (5, [.ref tp, .int sz, .int at2_40, .ref tk, .ref tp, .ref ou, .int tm, .int om, al, pt, .ref pg, .int wr])), (tp, .inl (G.2.1 0, 1000, .inl tpf)), (tk, .inl (G.2.1 0, 101, .inl tkf2_40)), (qx0_40, .inr (6, [.int 6, .int ix0_1_40, .int ix0_2_40, .int ix0_3_40, .null, .ref qx1_40, .null])), (qx1_40, .inl (G.2.1 2, nx1_40, .inr (.inr (.inr (.inr fx1_40)))))]) (wr := [(tk, .inl (G.2.1 0, 101, .inl tkf2_40)), (qx0_40, .inr (6, [.int 6, .int ix0_1_40, .int ix0_2_40, .int ix0_3_40, .null, .ref qx1_40, .null])), (qx1_40, .inl (G.2.1 2, nx1_40, .inr (.inr (.inr (.inr fx1_40)))))]) (gh_V (wc := [(mm, .inr (5, [.ref tp, .int sz, .int at2_40, .ref tk, .ref tp, .ref ou, .int tm, .int om, al, pt, .ref pg, .int wr])), (tp, .inl (G.2.1 0, 1000, .inl tpf))]) (As := [.int 93]) (rest := []) ⟨hx, hb, hml, hown, hw⟩ (c_M_takeByte l G mm tp tk ou pg sz at2_40 tm om wr al pt tpf 93 hz (by first | assumption | trivial | omega | (dsimp only; omega)) H.size) (cwV 1 hw (good_V m_597 m_599 ms_37 m_4 m_600) rfl rfl rfl hy_M_takeByte ⟨Nat.le_trans (Nat.le_of_ble_eq_true rfl) (Nat.le_add_right 8 _), Nat.le_trans (Nat.le_of_ble_eq_true rfl) (Nat.le_add_right 177 _)⟩) (gP.here (wc := [(mm, .inr (5, [.ref tp, .int sz, .int at2_40, .ref tk, .ref tp, .ref ou, .int tm, .int om, al, pt, .ref pg, .int wr])), (tp, .inl (G.2.1 0, 1000, .inl tpf))]) hE hP hD hS hA [0, 1] rfl (by decide)) (va_recv hE.1 hP (ci := 5) (q0 := 0) rfl rfl) rfl hl rfl (Nat.le_of_ble_eq_true rfl) d_M_array_145 ⟨by show 2 + gl_40 + 3 * (at2_40.toInt - at0.toInt - 1).toNat + 0 ≤ 3 * (sz.toInt - at0.toInt).toNat + 9 + 4 * n; omega, by show 11 + 64 * gl_40 + 140 * (at2_40.toInt - at0.toInt - 1).toNat + 0 ≤ 140 * (sz.toInt - at0.toInt).toNat + 300 + 300 * n; omega⟩) hP hD hS hA [0, 1] [2, 3, 4] rfl rfl rfl (by decide) (by decide) (fun r_2 u_3 H locs hw_4 hP hD hS => ?_)
        obtain ⟨at2_5, rfl⟩ : ∃ z, z = u_3 := ⟨_, rfl⟩
        try dsimp only at hw_4
        have h_6 := hw_4
        have hP : va_P G.1 vwCl ([(tk, .inl (G.2.1 0, 101, .inl tkf2_40)), (qx0_40, .inr (6, [.int 6, .int ix0_1_40, .int ix0_2_40, .int ix0_3_40, .null, .ref qx1_40, .null])), (qx1_40, .inl (G.2.1 2, nx1_40, .inr (.inr (.inr (.inr fx1_40))))), (mm, .inr (5, [.ref tp, .int sz, .int at2_5, .ref tk, .ref tp, .ref ou, .int tm, .int om, al, pt, .ref pg, .int wr])), (tp, .inl (G.2.1 0, 1000, .inl tpf))] ++ pl2_40) H := hP
        have hD : va_D A ([(tk, .inl (G.2.1 0, 101, .inl tkf2_40)), (qx0_40, .inr (6, [.int 6, .int ix0_1_40, .int ix0_2_40, .int ix0_3_40, .null, .ref qx1_40, .null])), (qx1_40, .inl (G.2.1 2, nx1_40, .inr (.inr (.inr (.inr fx1_40))))), (mm, .inr (5, [.ref tp, .int sz, .int at2_5, .ref tk, .ref tp, .ref ou, .int tm, .int om, al, pt, .ref pg, .int wr])), (tp, .inl (G.2.1 0, 1000, .inl tpf))] ++ pl2_40) := hD
        refine lv_if_eq (tgt := 155) hx hb d_M_array_148 (by decide) (fun c_7 => ?_) (fun c_7 => ?_)
        · have tc_7 := bool_f h_6 c_7
          refine lv_null hx hb d_M_array_155 ?_
          exact ret none (at2_5, tkf2_40, pl2_40) (by simp only [oc]; omega) (by simp only [oc]; omega) (by simp only [oc]; omega) (by simp only [oc]; omega) d_M_array_156 ⟨(by first | assumption | trivial | omega | (dsimp only; omega)), hj1_40, (fun z9 hz9 => hj2_40 z9 hz9), ob_none⟩ (hP.part (cx := [(mm, .inr (5, [.ref tp, .int sz, .int at2_5, .ref tk, .ref tp, .ref ou, .int tm, .int om, al, pt, .ref pg, .int wr])), (tp, .inl (G.2.1 0, 1000, .inl tpf)), (tk, .inl (G.2.1 0, 101, .inl tkf2_40))]) [3, 4, 0] rfl) (hD.part (cx := [(mm, .inr (5, [.ref tp, .int sz, .int at2_5, .ref tk, .ref tp, .ref ou, .int tm, .int om, al, pt, .ref pg, .int wr])), (tp, .inl (G.2.1 0, 1000, .inl tpf)), (tk, .inl (G.2.1 0, 101, .inl tkf2_40))]) [3, 4, 0] (by decide) rfl) hS
        · have tc_7 := bool_t h_6 c_7
          refine lv_aload_n hx hb d_M_array_151 rfl (lv_at hl 0 rfl) ?_
          refine lv_goto (tgt := 156) hx hb d_M_array_152 (by decide) ?_
          exact ret (some qx0_40) (at2_5, tkf2_40, ((qx0_40, .inr (6, [.int 6, .int ix0_1_40, .int ix0_2_40, .int ix0_3_40, .null, .ref qx1_40, .null])) :: ((qx1_40, .inl (G.2.1 2, nx1_40, .inr (.inr (.inr (.inr fx1_40))))) :: pl2_40))) (by simp only [oc]; omega) (by simp only [oc]; omega) (by simp only [oc]; omega) (by simp only [oc]; omega) d_M_array_156 ⟨(by first | assumption | trivial | omega | (dsimp only; omega)), hj1_40, (fun z9 hz9 => List.mem_cons_of_mem _ (List.mem_cons_of_mem _ (hj2_40 z9 hz9))), (ob_arr (b0 := at2_40) hk2_40 (by omega) (by omega) (by omega) hk5_40 hk6_40 (by omega) (by first | omega | (dsimp only; omega)))⟩ (hP.part (cx := [(mm, .inr (5, [.ref tp, .int sz, .int at2_5, .ref tk, .ref tp, .ref ou, .int tm, .int om, al, pt, .ref pg, .int wr])), (tp, .inl (G.2.1 0, 1000, .inl tpf)), (tk, .inl (G.2.1 0, 101, .inl tkf2_40)), (qx0_40, .inr (6, [.int 6, .int ix0_1_40, .int ix0_2_40, .int ix0_3_40, .null, .ref qx1_40, .null])), (qx1_40, .inl (G.2.1 2, nx1_40, .inr (.inr (.inr (.inr fx1_40)))))]) [3, 4, 0, 1, 2] rfl) (hD.part (cx := [(mm, .inr (5, [.ref tp, .int sz, .int at2_5, .ref tk, .ref tp, .ref ou, .int tm, .int om, al, pt, .ref pg, .int wr])), (tp, .inl (G.2.1 0, 1000, .inl tpf)), (tk, .inl (G.2.1 0, 101, .inl tkf2_40)), (qx0_40, .inr (6, [.int 6, .int ix0_1_40, .int ix0_2_40, .int ix0_3_40, .null, .ref qx1_40, .null])), (qx1_40, .inl (G.2.1 2, nx1_40, .inr (.inr (.inr (.inr fx1_40)))))]) [3, 4, 0, 1, 2] (by decide) rfl) hS
      · have tc_1 := z_nle c_1
        refine lv_aload_n hx hb d_M_array_51 rfl (lv_at hl 1 rfl) ?_
        refine va_get (D := G.1) (ci := 5) (v := .ref tp) (C := R_M) (T := F_M) (N := 12) hx hb hw i_M hown hE.1 hP 0 rfl rfl 0 (by decide) (hw _ m_453) (fun _ h9 => h9) rfl d_M_array_52 ?_
        refine lv_aload_n hx hb d_M_array_55 rfl (lv_at hl 1 rfl) ?_
        refine va_get (D := G.1) (ci := 5) (v := .int at2_40) (C := R_M) (T := F_M) (N := 12) hx hb hw i_M hown hE.1 hP 0 rfl rfl 2 (by decide) (hw _ m_455) (fun _ h9 => h9) rfl d_M_array_56 ?_
        refine va_bald hx hb hE.1 hP 1 0 rfl rfl (i := at2_40) (z_in (by omega) (by omega)) d_M_array_59 ?_
        refine lv_topi (fun y_8 ey_8 => ?_)
        refine lv_bipush (v := 93) hx hb d_M_array_60 (by decide) ?_
        refine lv_icmp_eq (tgt := 142) hx hb d_M_array_62 (by decide) (fun c_9 => ?_) (fun c_9 => ?_)
        · have tl_93 : (93 : Int32).toInt = 93 := by decide
          have tc_9 := congrArg Int32.toInt c_9
          refine lv_aload_n hx hb d_M_array_142 rfl (lv_at hl 1 rfl) ?_
          refine lv_bipush (v := 93) hx hb d_M_array_143 (by decide) ?_
          refine gq_i (X := [(mm, .inr (5, [.ref tp, .int sz, .int at2_40, .ref tk, .ref tp, .ref ou, .int tm, .int om, al, pt, .ref pg, .int wr])), (tp, .inl (G.2.1 0, 1000, .inl tpf)), (tk, .inl (G.2.1 0, 101, .inl tkf2_40)), (qx0_40, .inr (6, [.int 6, .int ix0_1_40, .int ix0_2_40, .int ix0_3_40, .null, .ref qx1_40, .null])), (qx1_40, .inl (G.2.1 2, nx1_40, .inr (.inr (.inr (.inr fx1_40)))))]) (wr := [(tk, .inl (G.2.1 0, 101, .inl tkf2_40)), (qx0_40, .inr (6, [.int 6, .int ix0_1_40, .int ix0_2_40, .int ix0_3_40, .null, .ref qx1_40, .null])), (qx1_40, .inl (G.2.1 2, nx1_40, .inr (.inr (.inr (.inr fx1_40)))))]) (gh_V (wc := [(mm, .inr (5, [.ref tp, .int sz, .int at2_40, .ref tk, .ref tp, .ref ou, .int tm, .int om, al, pt, .ref pg, .int wr])), (tp, .inl (G.2.1 0, 1000, .inl tpf))]) (As := [.int 93]) (rest := []) ⟨hx, hb, hml, hown, hw⟩ (c_M_takeByte l G mm tp tk ou pg sz at2_40 tm om wr al pt tpf 93 hz (by first | assumption | trivial | omega | (dsimp only; omega)) H.size) (cwV 1 hw (good_V m_597 m_599 ms_37 m_4 m_600) rfl rfl rfl hy_M_takeByte ⟨Nat.le_trans (Nat.le_of_ble_eq_true rfl) (Nat.le_add_right 8 _), Nat.le_trans (Nat.le_of_ble_eq_true rfl) (Nat.le_add_right 177 _)⟩) (gP.here (wc := [(mm, .inr (5, [.ref tp, .int sz, .int at2_40, .ref tk, .ref tp, .ref ou, .int tm, .int om, al, pt, .ref pg, .int wr])), (tp, .inl (G.2.1 0, 1000, .inl tpf))]) hE hP hD hS hA [0, 1] rfl (by decide)) (va_recv hE.1 hP (ci := 5) (q0 := 0) rfl rfl) rfl hl rfl (Nat.le_of_ble_eq_true rfl) d_M_array_145 ⟨by show 2 + gl_40 + 3 * (at2_40.toInt - at0.toInt - 1).toNat + 0 ≤ 3 * (sz.toInt - at0.toInt).toNat + 9 + 4 * n; omega, by show 11 + 64 * gl_40 + 140 * (at2_40.toInt - at0.toInt - 1).toNat + 0 ≤ 140 * (sz.toInt - at0.toInt).toNat + 300 + 300 * n; omega⟩) hP hD hS hA [0, 1] [2, 3, 4] rfl rfl rfl (by decide) (by decide) (fun r_10 u_11 H locs hw_12 hP hD hS => ?_)
          obtain ⟨at2_13, rfl⟩ : ∃ z, z = u_11 := ⟨_, rfl⟩
          try dsimp only at hw_12
          have h_14 := hw_12
          have hP : va_P G.1 vwCl ([(tk, .inl (G.2.1 0, 101, .inl tkf2_40)), (qx0_40, .inr (6, [.int 6, .int ix0_1_40, .int ix0_2_40, .int ix0_3_40, .null, .ref qx1_40, .null])), (qx1_40, .inl (G.2.1 2, nx1_40, .inr (.inr (.inr (.inr fx1_40))))), (mm, .inr (5, [.ref tp, .int sz, .int at2_13, .ref tk, .ref tp, .ref ou, .int tm, .int om, al, pt, .ref pg, .int wr])), (tp, .inl (G.2.1 0, 1000, .inl tpf))] ++ pl2_40) H := hP
          have hD : va_D A ([(tk, .inl (G.2.1 0, 101, .inl tkf2_40)), (qx0_40, .inr (6, [.int 6, .int ix0_1_40, .int ix0_2_40, .int ix0_3_40, .null, .ref qx1_40, .null])), (qx1_40, .inl (G.2.1 2, nx1_40, .inr (.inr (.inr (.inr fx1_40))))), (mm, .inr (5, [.ref tp, .int sz, .int at2_13, .ref tk, .ref tp, .ref ou, .int tm, .int om, al, pt, .ref pg, .int wr])), (tp, .inl (G.2.1 0, 1000, .inl tpf))] ++ pl2_40) := hD
          refine lv_if_eq (tgt := 155) hx hb d_M_array_148 (by decide) (fun c_15 => ?_) (fun c_15 => ?_)
          · have tc_15 := bool_f h_14 c_15
            refine lv_null hx hb d_M_array_155 ?_
            exact ret none (at2_13, tkf2_40, pl2_40) (by simp only [oc]; omega) (by simp only [oc]; omega) (by simp only [oc]; omega) (by simp only [oc]; omega) d_M_array_156 ⟨(by first | assumption | trivial | omega | (dsimp only; omega)), hj1_40, (fun z9 hz9 => hj2_40 z9 hz9), ob_none⟩ (hP.part (cx := [(mm, .inr (5, [.ref tp, .int sz, .int at2_13, .ref tk, .ref tp, .ref ou, .int tm, .int om, al, pt, .ref pg, .int wr])), (tp, .inl (G.2.1 0, 1000, .inl tpf)), (tk, .inl (G.2.1 0, 101, .inl tkf2_40))]) [3, 4, 0] rfl) (hD.part (cx := [(mm, .inr (5, [.ref tp, .int sz, .int at2_13, .ref tk, .ref tp, .ref ou, .int tm, .int om, al, pt, .ref pg, .int wr])), (tp, .inl (G.2.1 0, 1000, .inl tpf)), (tk, .inl (G.2.1 0, 101, .inl tkf2_40))]) [3, 4, 0] (by decide) rfl) hS
          · have tc_15 := bool_t h_14 c_15
            refine lv_aload_n hx hb d_M_array_151 rfl (lv_at hl 0 rfl) ?_
            refine lv_goto (tgt := 156) hx hb d_M_array_152 (by decide) ?_
            exact ret (some qx0_40) (at2_13, tkf2_40, ((qx0_40, .inr (6, [.int 6, .int ix0_1_40, .int ix0_2_40, .int ix0_3_40, .null, .ref qx1_40, .null])) :: ((qx1_40, .inl (G.2.1 2, nx1_40, .inr (.inr (.inr (.inr fx1_40))))) :: pl2_40))) (by simp only [oc]; omega) (by simp only [oc]; omega) (by simp only [oc]; omega) (by simp only [oc]; omega) d_M_array_156 ⟨(by first | assumption | trivial | omega | (dsimp only; omega)), hj1_40, (fun z9 hz9 => List.mem_cons_of_mem _ (List.mem_cons_of_mem _ (hj2_40 z9 hz9))), (ob_arr (b0 := at2_40) hk2_40 (by omega) (by omega) (by omega) hk5_40 hk6_40 (by omega) (by first | omega | (dsimp only; omega)))⟩ (hP.part (cx := [(mm, .inr (5, [.ref tp, .int sz, .int at2_13, .ref tk, .ref tp, .ref ou, .int tm, .int om, al, pt, .ref pg, .int wr])), (tp, .inl (G.2.1 0, 1000, .inl tpf)), (tk, .inl (G.2.1 0, 101, .inl tkf2_40)), (qx0_40, .inr (6, [.int 6, .int ix0_1_40, .int ix0_2_40, .int ix0_3_40, .null, .ref qx1_40, .null])), (qx1_40, .inl (G.2.1 2, nx1_40, .inr (.inr (.inr (.inr fx1_40)))))]) [3, 4, 0, 1, 2] rfl) (hD.part (cx := [(mm, .inr (5, [.ref tp, .int sz, .int at2_13, .ref tk, .ref tp, .ref ou, .int tm, .int om, al, pt, .ref pg, .int wr])), (tp, .inl (G.2.1 0, 1000, .inl tpf)), (tk, .inl (G.2.1 0, 101, .inl tkf2_40)), (qx0_40, .inr (6, [.int 6, .int ix0_1_40, .int ix0_2_40, .int ix0_3_40, .null, .ref qx1_40, .null])), (qx1_40, .inl (G.2.1 2, nx1_40, .inr (.inr (.inr (.inr fx1_40)))))]) [3, 4, 0, 1, 2] (by decide) rfl) hS
        · have tl_93 : (93 : Int32).toInt = 93 := by decide
          have tc_9 := z_ne c_9
          refine lv_aload_n hx hb d_M_array_65 rfl (lv_at hl 0 rfl) ?_
          refine va_get (D := G.1) (ci := 6) (v := .int ix0_3_40) (C := R_Part) (T := F_Part) (N := 7) hx hb hw i_Part hown hE.1 hP 3 rfl rfl 3 (by decide) (hw _ m_546) (fun _ h9 => h9) rfl d_M_array_66 ?_
          refine lv_bipush (v := 60) hx hb d_M_array_69 (by decide) ?_
          refine lv_icmp_ne (tgt := 78) hx hb d_M_array_71 (by decide) (fun c_16 => ?_) (fun c_16 => ?_)
          · have tl_60 : (60 : Int32).toInt = 60 := by decide
            have tc_16 := z_ne c_16
            obtain ⟨kk, hkk⟩ : ∃ kk, n = kk + 1 := ⟨n - 1, by omega⟩
            refine lv_aload_n hx hb d_M_array_78 rfl (lv_at hl 1 rfl) ?_
            refine lv_iload_n hx hb d_M_array_79 rfl (lv_at hl 2 rfl) ?_
            refine lv_iconst (v := 1) hx hb d_M_array_80 (by decide) ?_
            refine lv_iadd hx hb d_M_array_81 ?_
            refine lv_topi (fun y_17 ey_17 => ?_)
            have tl_1 : (1 : Int32).toInt = 1 := by decide
            have ty_17 := z_addE ey_17
            refine gp_o (X := [(mm, .inr (5, [.ref tp, .int sz, .int at2_40, .ref tk, .ref tp, .ref ou, .int tm, .int om, al, pt, .ref pg, .int wr])), (tp, .inl (G.2.1 0, 1000, .inl tpf)), (tk, .inl (G.2.1 0, 101, .inl tkf2_40)), (qx0_40, .inr (6, [.int 6, .int ix0_1_40, .int ix0_2_40, .int ix0_3_40, .null, .ref qx1_40, .null])), (qx1_40, .inl (G.2.1 2, nx1_40, .inr (.inr (.inr (.inr fx1_40)))))]) (cx := [(mm, .inr (5, [.ref tp, .int sz, .int at2_40, .ref tk, .ref tp, .ref ou, .int tm, .int om, al, pt, .ref pg, .int wr])), (tp, .inl (G.2.1 0, 1000, .inl tpf)), (tk, .inl (G.2.1 0, 101, .inl tkf2_40))]) (wr := [(qx0_40, .inr (6, [.int 6, .int ix0_1_40, .int ix0_2_40, .int ix0_3_40, .null, .ref qx1_40, .null])), (qx1_40, .inl (G.2.1 2, nx1_40, .inr (.inr (.inr (.inr fx1_40)))))]) (rx := (fun (u : Int32 × (Nat → Int32) × va_W) => [(mm, .inr (5, [.ref tp, .int sz, .int u.1, .ref tk, .ref tp, .ref ou, .int tm, .int om, al, pt, .ref pg, .int wr])), (tp, .inl (G.2.1 0, 1000, .inl tpf)), (tk, .inl (G.2.1 0, 101, .inl u.2.1))])) (pl1 := (fun (u : Int32 × (Nat → Int32) × va_W) => u.2.2)) (gh_V (wc := ([(mm, .inr (5, [.ref tp, .int sz, .int at2_40, .ref tk, .ref tp, .ref ou, .int tm, .int om, al, pt, .ref pg, .int wr])), (tp, .inl (G.2.1 0, 1000, .inl tpf)), (tk, .inl (G.2.1 0, 101, .inl tkf2_40))] ++ pl2_40)) (As := [.int y_17]) (rest := []) ⟨hx, hb, hml, hown, hw⟩ ((ho kk hkk) mm tp tk ou pg sz at2_40 tm om wr al pt tpf tkf2_40 pl2_40 y_17 hz (by first | assumption | trivial | omega | (dsimp only; omega)) hft hj1_40 (rd_next hd hkk (by assumption)) H.size) (cwV 1 hw (good_V m_509 m_511 ms_31 m_4 m_512) rfl rfl rfl hy_M_object ⟨by show 8 + (2 * kk + 1) + 1 ≤ 8 + 2 * n; omega, by show 8 + (9 + 11) + (177 + (60 * kk + 30)) ≤ 177 + 60 * n; omega⟩) (gp_here (X := [(mm, .inr (5, [.ref tp, .int sz, .int at2_40, .ref tk, .ref tp, .ref ou, .int tm, .int om, al, pt, .ref pg, .int wr])), (tp, .inl (G.2.1 0, 1000, .inl tpf)), (tk, .inl (G.2.1 0, 101, .inl tkf2_40)), (qx0_40, .inr (6, [.int 6, .int ix0_1_40, .int ix0_2_40, .int ix0_3_40, .null, .ref qx1_40, .null])), (qx1_40, .inl (G.2.1 2, nx1_40, .inr (.inr (.inr (.inr fx1_40)))))]) (cx := [(mm, .inr (5, [.ref tp, .int sz, .int at2_40, .ref tk, .ref tp, .ref ou, .int tm, .int om, al, pt, .ref pg, .int wr])), (tp, .inl (G.2.1 0, 1000, .inl tpf)), (tk, .inl (G.2.1 0, 101, .inl tkf2_40))]) hE hP hD hS hA [0, 1, 2] rfl (by decide)) (va_recv hE.1 hP (ci := 5) (q0 := 0) rfl rfl) rfl hl rfl (Nat.le_of_ble_eq_true rfl) d_M_array_82 ⟨by show 2 + gl_40 + 3 * (at2_40.toInt - at0.toInt - 1).toNat + (3 * (sz.toInt - at2_40.toInt).toNat + 9 + 4 * kk) ≤ 3 * (sz.toInt - at0.toInt).toNat + 9 + 4 * n; omega, by show 11 + 64 * gl_40 + 140 * (at2_40.toInt - at0.toInt - 1).toNat + (140 * (sz.toInt - at2_40.toInt).toNat + 300 + 300 * kk) ≤ 140 * (sz.toInt - at0.toInt).toNat + 300 + 300 * n; omega⟩) hP hD hS hA [0, 1, 2] [3, 4] rfl rfl (by decide) (by decide) (fun r_18 u_19 H locs hw_20 hP hD hS => ?_)
            obtain ⟨at2_21, tkf2_22, pl2_23⟩ := u_19
            try dsimp only at hw_20
            obtain ⟨h_24, h_25, h_26, h_27⟩ := hw_20
            have hP : va_P G.1 vwCl ([(qx0_40, .inr (6, [.int 6, .int ix0_1_40, .int ix0_2_40, .int ix0_3_40, .null, .ref qx1_40, .null])), (qx1_40, .inl (G.2.1 2, nx1_40, .inr (.inr (.inr (.inr fx1_40))))), (mm, .inr (5, [.ref tp, .int sz, .int at2_21, .ref tk, .ref tp, .ref ou, .int tm, .int om, al, pt, .ref pg, .int wr])), (tp, .inl (G.2.1 0, 1000, .inl tpf)), (tk, .inl (G.2.1 0, 101, .inl tkf2_22))] ++ pl2_23) H := hP
            have hD : va_D A ([(qx0_40, .inr (6, [.int 6, .int ix0_1_40, .int ix0_2_40, .int ix0_3_40, .null, .ref qx1_40, .null])), (qx1_40, .inl (G.2.1 2, nx1_40, .inr (.inr (.inr (.inr fx1_40))))), (mm, .inr (5, [.ref tp, .int sz, .int at2_21, .ref tk, .ref tp, .ref ou, .int tm, .int om, al, pt, .ref pg, .int wr])), (tp, .inl (G.2.1 0, 1000, .inl tpf)), (tk, .inl (G.2.1 0, 101, .inl tkf2_22))] ++ pl2_23) := hD
            rcases r_18 with _ | p_28
            · refine W.widen (k := 2 + gl_40 + 3 * (at2_40.toInt - at0.toInt - 1).toNat + (3 * (sz.toInt - at2_40.toInt).toNat + 9 + 4 * kk)) (n := 11 + 64 * gl_40 + 140 * (at2_40.toInt - at0.toInt - 1).toNat + (140 * (sz.toInt - at2_40.toInt).toNat + 300 + 300 * kk)) (Nat.le_refl _) (Nat.le_refl _) ?_
              have hs_29 : ∀ z ∈ pl, z ∈ pl2_23 := fun z hz => h_26 z (hj2_40 z hz)
              refine lv_astore_nN (lv' := [(3, .null), (2, .ref qx0_40), (0, .ref mm), (1, .int d)]) hx hb d_M_array_85 rfl hl (by decide) rfl (fun ls hl => ?_)
              refine lv_aload_nN hx hb d_M_array_86 rfl (lv_at hl 0 rfl) ?_
              refine lv_ifnonnullN hx hb d_M_array_87 ?_
              refine lv_null hx hb d_M_array_90 ?_
              exact ret none (at2_21, tkf2_22, pl2_23) (by simp only [oc]; omega) (by simp only [oc]; omega) (by simp only [oc]; omega) (by simp only [oc]; omega) d_M_array_91 ⟨(by first | assumption | trivial | omega | (dsimp only; omega)), h_25, (fun z9 hz9 => hs_29 z9 hz9), ob_none⟩ (hP.part (cx := [(mm, .inr (5, [.ref tp, .int sz, .int at2_21, .ref tk, .ref tp, .ref ou, .int tm, .int om, al, pt, .ref pg, .int wr])), (tp, .inl (G.2.1 0, 1000, .inl tpf)), (tk, .inl (G.2.1 0, 101, .inl tkf2_22))]) [2, 3, 4] rfl) (hD.part (cx := [(mm, .inr (5, [.ref tp, .int sz, .int at2_21, .ref tk, .ref tp, .ref ou, .int tm, .int om, al, pt, .ref pg, .int wr])), (tp, .inl (G.2.1 0, 1000, .inl tpf)), (tk, .inl (G.2.1 0, 101, .inl tkf2_22))]) [2, 3, 4] (by decide) rfl) hS
            · refine W.widen (k := 2 + gl_40 + 3 * (at2_40.toInt - at0.toInt - 1).toNat + (3 * (at2_21.toInt - at2_40.toInt).toNat)) (n := 11 + 64 * gl_40 + 140 * (at2_40.toInt - at0.toInt - 1).toNat + (140 * (at2_21.toInt - at2_40.toInt).toNat)) (Nat.le_refl _) (Nat.le_refl _) ?_
              have hs_30 : ∀ z ∈ pl, z ∈ pl2_23 := fun z hz => h_26 z (hj2_40 z hz)
              obtain ⟨w9, hw9, hw8, hw7⟩ := h_27 _ rfl
              have hw9 : GP G pl2_23 n w9 p_28 := by rw [hkk]; exact hw9
              obtain ⟨fs9, hf9⟩ := hw9.cell
              have hI9 := hk5_40.mono h_26
              refine lv_astore_n (lv' := [(3, .ref p_28), (2, .ref qx0_40), (0, .ref mm), (1, .int d)]) hx hb d_M_array_85 rfl hl (by decide) rfl (fun ls hl => ?_)
              refine lv_aload_n hx hb d_M_array_86 rfl (lv_at hl 0 rfl) ?_
              refine lv_ifnonnull (tgt := 92) hx hb d_M_array_87 (by decide) ?_
              refine lv_aload_n hx hb d_M_array_92 rfl (lv_at hl 1 rfl) ?_
              refine va_get (D := G.1) (ci := 6) (v := .int ix0_3_40) (C := R_Part) (T := F_Part) (N := 7) hx hb hw i_Part hown hE.1 hP 0 rfl rfl 3 (by decide) (hw _ m_546) (fun _ h9 => h9) rfl d_M_array_93 ?_
              refine lv_aload_n hx hb d_M_array_96 rfl (lv_at hl 1 rfl) ?_
              refine va_get (D := G.1) (ci := 6) (v := .ref qx1_40) (C := R_Part) (T := F_Part) (N := 7) hx hb hw i_Part hown hE.1 hP 0 rfl rfl 5 (by decide) (hw _ m_549) (fun _ h9 => h9) rfl d_M_array_97 ?_
              refine va_alen (v := nI nx1_40) hx hb hE.1 hP 1 2 rfl rfl rfl d_M_array_100 ?_
              refine lv_icmp_ne (tgt := 115) hx hb d_M_array_101 (by decide) (fun c_31 => ?_) (fun c_31 => ?_)
              · have tc_31 := z_ne c_31
                refine lv_aload_n hx hb d_M_array_115 rfl (lv_at hl 1 rfl) ?_
                refine va_get (D := G.1) (ci := 6) (v := .ref qx1_40) (C := R_Part) (T := F_Part) (N := 7) hx hb hw i_Part hown hE.1 hP 0 rfl rfl 5 (by decide) (hw _ m_549) (fun _ h9 => h9) rfl d_M_array_116 ?_
                refine lv_aload_n hx hb d_M_array_119 rfl (lv_at hl 1 rfl) ?_
                refine va_get (D := G.1) (ci := 6) (v := .int ix0_3_40) (C := R_Part) (T := F_Part) (N := 7) hx hb hw i_Part hown hE.1 hP 0 rfl rfl 3 (by decide) (hw _ m_546) (fun _ h9 => h9) rfl d_M_array_120 ?_
                refine lv_aload_n hx hb d_M_array_123 rfl (lv_at hl 0 rfl) ?_
                obtain ⟨k_32, hk_32⟩ := List.getElem?_of_mem (show ((p_28, .inr (6, fs9)) : Nat × va_E) ∈ ([(qx0_40, .inr (6, [.int 6, .int ix0_1_40, .int ix0_2_40, .int ix0_3_40, .null, .ref qx1_40, .null])), (qx1_40, .inl (G.2.1 2, nx1_40, .inr (.inr (.inr (.inr fx1_40))))), (mm, .inr (5, [.ref tp, .int sz, .int at2_21, .ref tk, .ref tp, .ref ou, .int tm, .int om, al, pt, .ref pg, .int wr])), (tp, .inl (G.2.1 0, 1000, .inl tpf)), (tk, .inl (G.2.1 0, 101, .inl tkf2_22))] ++ pl2_23) from List.mem_append_right _ hf9)
                refine va_astq hx hb hE.1 hP hD hS 1 2 k_32 6 rfl rfl hk_32 rfl (i := ix0_3_40) (z_in (by omega) (by omega)) d_M_array_124 (fun H locs hP hD hS => ?_)
                obtain ⟨g_33, eg_33⟩ : ∃ y : Nat → Option Nat, y = va_up fx1_40 ix0_3_40.toNatClampNeg (some p_28) := ⟨_, rfl⟩
                rw [← eg_33] at hP hD
                have hP : va_P G.1 vwCl ([(qx0_40, .inr (6, [.int 6, .int ix0_1_40, .int ix0_2_40, .int ix0_3_40, .null, .ref qx1_40, .null])), (qx1_40, .inl (G.2.1 2, nx1_40, .inr (.inr (.inr (.inr g_33))))), (mm, .inr (5, [.ref tp, .int sz, .int at2_21, .ref tk, .ref tp, .ref ou, .int tm, .int om, al, pt, .ref pg, .int wr])), (tp, .inl (G.2.1 0, 1000, .inl tpf)), (tk, .inl (G.2.1 0, 101, .inl tkf2_22))] ++ pl2_23) H := hP
                have hD : va_D A ([(qx0_40, .inr (6, [.int 6, .int ix0_1_40, .int ix0_2_40, .int ix0_3_40, .null, .ref qx1_40, .null])), (qx1_40, .inl (G.2.1 2, nx1_40, .inr (.inr (.inr (.inr g_33))))), (mm, .inr (5, [.ref tp, .int sz, .int at2_21, .ref tk, .ref tp, .ref ou, .int tm, .int om, al, pt, .ref pg, .int wr])), (tp, .inl (G.2.1 0, 1000, .inl tpf)), (tk, .inl (G.2.1 0, 101, .inl tkf2_22))] ++ pl2_23) := hD
                refine lv_aload_n hx hb d_M_array_125 rfl (lv_at hl 1 rfl) ?_
                refine lv_dup hx hb d_M_array_126 rfl ?_
                refine va_get (D := G.1) (ci := 6) (v := .int ix0_3_40) (C := R_Part) (T := F_Part) (N := 7) hx hb hw i_Part hown hE.1 hP 0 rfl rfl 3 (by decide) (hw _ m_546) (fun _ h9 => h9) rfl d_M_array_127 ?_
                refine lv_iconst (v := 1) hx hb d_M_array_130 (by decide) ?_
                refine lv_iadd hx hb d_M_array_131 ?_
                refine lv_topi (fun y_34 ey_34 => ?_)
                have ty_34 := z_addE ey_34
                refine va_put (D := G.1) (ci := 6) (v := .int y_34) (ty := .int) (C := R_Part) (T := F_Part) (N := 7) hx hb hw i_Part t_Part t_Part_ok n_Part hown hE.1 hP hD hS 0 rfl rfl 3 (by decide) (hw _ m_546) (fun _ h9 => h9) rfl (by decide +kernel) rfl rfl (Nat.le_of_ble_eq_true rfl) d_M_array_132 (fun H locs hP hD hS => ?_)
                have hP : va_P G.1 vwCl ([(qx0_40, .inr (6, [.int 6, .int ix0_1_40, .int ix0_2_40, .int y_34, .null, .ref qx1_40, .null])), (qx1_40, .inl (G.2.1 2, nx1_40, .inr (.inr (.inr (.inr g_33))))), (mm, .inr (5, [.ref tp, .int sz, .int at2_21, .ref tk, .ref tp, .ref ou, .int tm, .int om, al, pt, .ref pg, .int wr])), (tp, .inl (G.2.1 0, 1000, .inl tpf)), (tk, .inl (G.2.1 0, 101, .inl tkf2_22))] ++ pl2_23) H := hP
                have hD : va_D A ([(qx0_40, .inr (6, [.int 6, .int ix0_1_40, .int ix0_2_40, .int y_34, .null, .ref qx1_40, .null])), (qx1_40, .inl (G.2.1 2, nx1_40, .inr (.inr (.inr (.inr g_33))))), (mm, .inr (5, [.ref tp, .int sz, .int at2_21, .ref tk, .ref tp, .ref ou, .int tm, .int om, al, pt, .ref pg, .int wr])), (tp, .inl (G.2.1 0, 1000, .inl tpf)), (tk, .inl (G.2.1 0, 101, .inl tkf2_22))] ++ pl2_23) := hD
                refine lv_aload_n hx hb d_M_array_135 rfl (lv_at hl 2 rfl) ?_
                refine gq_v (X := [(qx0_40, .inr (6, [.int 6, .int ix0_1_40, .int ix0_2_40, .int y_34, .null, .ref qx1_40, .null])), (qx1_40, .inl (G.2.1 2, nx1_40, .inr (.inr (.inr (.inr g_33))))), (mm, .inr (5, [.ref tp, .int sz, .int at2_21, .ref tk, .ref tp, .ref ou, .int tm, .int om, al, pt, .ref pg, .int wr])), (tp, .inl (G.2.1 0, 1000, .inl tpf)), (tk, .inl (G.2.1 0, 101, .inl tkf2_22))]) (wr := [(qx0_40, .inr (6, [.int 6, .int ix0_1_40, .int ix0_2_40, .int y_34, .null, .ref qx1_40, .null])), (qx1_40, .inl (G.2.1 2, nx1_40, .inr (.inr (.inr (.inr g_33))))), (tk, .inl (G.2.1 0, 101, .inl tkf2_22))]) (gh_V (wc := [(mm, .inr (5, [.ref tp, .int sz, .int at2_21, .ref tk, .ref tp, .ref ou, .int tm, .int om, al, pt, .ref pg, .int wr])), (tp, .inl (G.2.1 0, 1000, .inl tpf))]) (As := []) (rest := []) ⟨hx, hb, hml, hown, hw⟩ (c_M_white l G mm tp tk ou pg sz at2_21 tm om wr al pt tpf hz (by first | assumption | trivial | omega | (dsimp only; omega)) H.size) (cwV 0 hw (good_V m_513 m_515 ms_32 m_4 m_516) rfl rfl rfl hy_M_white ⟨Nat.le_trans (Nat.le_of_ble_eq_true rfl) (Nat.le_add_right 8 _), Nat.le_trans (Nat.le_of_ble_eq_true rfl) (Nat.le_add_right 177 _)⟩) (gP.here (wc := [(mm, .inr (5, [.ref tp, .int sz, .int at2_21, .ref tk, .ref tp, .ref ou, .int tm, .int om, al, pt, .ref pg, .int wr])), (tp, .inl (G.2.1 0, 1000, .inl tpf))]) hE hP hD hS hA [2, 3] rfl (by decide)) (va_recv hE.1 hP (ci := 5) (q0 := 2) rfl rfl) rfl hl rfl (Nat.le_of_ble_eq_true rfl) d_M_array_136 ⟨by show 2 + gl_40 + 3 * (at2_40.toInt - at0.toInt - 1).toNat + (3 * (at2_21.toInt - at2_40.toInt).toNat) + 0 ≤ 3 * (sz.toInt - at0.toInt).toNat + 9 + 4 * n; omega, by show 11 + 64 * gl_40 + 140 * (at2_40.toInt - at0.toInt - 1).toNat + (140 * (at2_21.toInt - at2_40.toInt).toNat) + 0 ≤ 140 * (sz.toInt - at0.toInt).toNat + 300 + 300 * n; omega⟩) hP hD hS hA [2, 3] [0, 1, 4] rfl rfl rfl (by decide) (by decide) (fun u_36 H locs hw_37 hP hD hS => ?_)
                obtain ⟨at2_38, rfl⟩ : ∃ z, z = u_36 := ⟨_, rfl⟩
                try dsimp only at hw_37
                have h_39 := hw_37
                have hP : va_P G.1 vwCl ([(qx0_40, .inr (6, [.int 6, .int ix0_1_40, .int ix0_2_40, .int y_34, .null, .ref qx1_40, .null])), (qx1_40, .inl (G.2.1 2, nx1_40, .inr (.inr (.inr (.inr g_33))))), (tk, .inl (G.2.1 0, 101, .inl tkf2_22)), (mm, .inr (5, [.ref tp, .int sz, .int at2_38, .ref tk, .ref tp, .ref ou, .int tm, .int om, al, pt, .ref pg, .int wr])), (tp, .inl (G.2.1 0, 1000, .inl tpf))] ++ pl2_23) H := hP
                have hD : va_D A ([(qx0_40, .inr (6, [.int 6, .int ix0_1_40, .int ix0_2_40, .int y_34, .null, .ref qx1_40, .null])), (qx1_40, .inl (G.2.1 2, nx1_40, .inr (.inr (.inr (.inr g_33))))), (tk, .inl (G.2.1 0, 101, .inl tkf2_22)), (mm, .inr (5, [.ref tp, .int sz, .int at2_38, .ref tk, .ref tp, .ref ou, .int tm, .int om, al, pt, .ref pg, .int wr])), (tp, .inl (G.2.1 0, 1000, .inl tpf))] ++ pl2_23) := hD
                refine lv_goto (tgt := 40) hx hb d_M_array_139 (by decide) ?_
                refine W.widen (k := 2 + gl_40 + 3 * (at2_38.toInt - at0.toInt - 1).toNat) (n := 11 + 64 * gl_40 + 140 * (at2_38.toInt - at0.toInt - 1).toNat) (by first | omega | (dsimp only; omega)) (by first | omega | (dsimp only; omega)) ?_
                exact ih_40 at2_38 tkf2_22 pl2_23 (mn_40 + 1) gl_40 (fup ws_40 mn_40 w9) qx0_40 ix0_1_40 ix0_2_40 y_34 qx1_40 g_33 nx1_40 (by first | assumption | trivial | omega | (dsimp only; omega)) h_25 hs_30 (by first | assumption | trivial | omega | (dsimp only; omega)) hk1_40 (nI_suc (by omega) (by omega)) (by first | assumption | trivial | omega | (dsimp only; omega)) hk4_40 (by first | exact hI9.step hmn9 (by assumption) hw9 | exact (hI9.long (by assumption) (by omega)).step hmn9 (by assumption) hw9) (by rw [sm_fup1]; omega) (by omega) _ _ (hP.part [3, 4, 2, 0, 1] rfl) (hD.part [3, 4, 2, 0, 1] (by decide) rfl) hS _ (lv_sub hl [1, 2, 3] rfl)
              · have tc_31 := congrArg Int32.toInt c_31
                refine lv_aload_n hx hb d_M_array_104 rfl (lv_at hl 1 rfl) ?_
                refine lv_aload_n hx hb d_M_array_105 rfl (lv_at hl 1 rfl) ?_
                refine va_get (D := G.1) (ci := 6) (v := .ref qx1_40) (C := R_Part) (T := F_Part) (N := 7) hx hb hw i_Part hown hE.1 hP 0 rfl rfl 5 (by decide) (hw _ m_549) (fun _ h9 => h9) rfl d_M_array_106 ?_
                refine gp_r (X := [(qx0_40, .inr (6, [.int 6, .int ix0_1_40, .int ix0_2_40, .int ix0_3_40, .null, .ref qx1_40, .null])), (qx1_40, .inl (G.2.1 2, nx1_40, .inr (.inr (.inr (.inr fx1_40))))), (mm, .inr (5, [.ref tp, .int sz, .int at2_21, .ref tk, .ref tp, .ref ou, .int tm, .int om, al, pt, .ref pg, .int wr])), (tp, .inl (G.2.1 0, 1000, .inl tpf)), (tk, .inl (G.2.1 0, 101, .inl tkf2_22))]) (cx := [(qx1_40, .inl (G.2.1 2, nx1_40, .inr (.inr (.inr (.inr fx1_40)))))]) (wr := [(qx0_40, .inr (6, [.int 6, .int ix0_1_40, .int ix0_2_40, .int ix0_3_40, .null, .ref qx1_40, .null])), (mm, .inr (5, [.ref tp, .int sz, .int at2_21, .ref tk, .ref tp, .ref ou, .int tm, .int om, al, pt, .ref pg, .int wr])), (tp, .inl (G.2.1 0, 1000, .inl tpf)), (tk, .inl (G.2.1 0, 101, .inl tkf2_22))]) (rx := (fun (u : Nat × (Nat → Option Nat)) => [(qx1_40, .inl (G.2.1 2, nx1_40, .inr (.inr (.inr (.inr fx1_40))))), (u.1, .inl (G.2.1 2, (2 * nx1_40), .inr (.inr (.inr (.inr u.2)))))])) (pl1 := (fun (u : Nat × (Nat → Option Nat)) => pl2_23)) (gh_S (wc := ([(qx1_40, .inl (G.2.1 2, nx1_40, .inr (.inr (.inr (.inr fx1_40)))))] ++ pl2_23)) (As := [.ref qx1_40]) (rest := [.ref qx0_40]) ⟨hx, hb, hml, hown, hw⟩ (c_M_longer l G qx1_40 nx1_40 fx1_40 pl2_23 (by first | assumption | trivial | omega | (dsimp only; omega)) (hI9.cells (by omega)) H.size) (va_cwS 1 hw (good_S m_613 m_614 m_4 m_615) rfl rfl rfl hy_M_longer.2 ⟨Nat.le_trans (Nat.le_of_ble_eq_true rfl) (Nat.le_add_right 8 _), Nat.le_trans (Nat.le_of_ble_eq_true rfl) (Nat.le_add_right 177 _)⟩) (gp_here (X := [(qx0_40, .inr (6, [.int 6, .int ix0_1_40, .int ix0_2_40, .int ix0_3_40, .null, .ref qx1_40, .null])), (qx1_40, .inl (G.2.1 2, nx1_40, .inr (.inr (.inr (.inr fx1_40))))), (mm, .inr (5, [.ref tp, .int sz, .int at2_21, .ref tk, .ref tp, .ref ou, .int tm, .int om, al, pt, .ref pg, .int wr])), (tp, .inl (G.2.1 0, 1000, .inl tpf)), (tk, .inl (G.2.1 0, 101, .inl tkf2_22))]) (cx := [(qx1_40, .inl (G.2.1 2, nx1_40, .inr (.inr (.inr (.inr fx1_40)))))]) hE hP hD hS hA [1] rfl (by decide)) rfl hl rfl (Nat.le_of_ble_eq_true rfl) d_M_array_109 ⟨by show 2 + gl_40 + 3 * (at2_40.toInt - at0.toInt - 1).toNat + (3 * (at2_21.toInt - at2_40.toInt).toNat) + 1 ≤ 3 * (sz.toInt - at0.toInt).toNat + 9 + 4 * n; omega, by show 11 + 64 * gl_40 + 140 * (at2_40.toInt - at0.toInt - 1).toNat + (140 * (at2_21.toInt - at2_40.toInt).toNat) + 64 ≤ 140 * (sz.toInt - at0.toInt).toNat + 300 + 300 * n; omega⟩) hP hD hS hA [1] [0, 2, 3, 4] rfl rfl (by decide) (by decide) (fun r_40 u_41 H locs hw_42 hP hD hS => ?_)
                obtain ⟨q_43, g2_44⟩ := u_41
                try dsimp only at hw_42
                obtain ⟨h_45, h_46⟩ := hw_42
                subst h_45
                have hP : va_P G.1 vwCl ([(qx0_40, .inr (6, [.int 6, .int ix0_1_40, .int ix0_2_40, .int ix0_3_40, .null, .ref qx1_40, .null])), (mm, .inr (5, [.ref tp, .int sz, .int at2_21, .ref tk, .ref tp, .ref ou, .int tm, .int om, al, pt, .ref pg, .int wr])), (tp, .inl (G.2.1 0, 1000, .inl tpf)), (tk, .inl (G.2.1 0, 101, .inl tkf2_22)), (qx1_40, .inl (G.2.1 2, nx1_40, .inr (.inr (.inr (.inr fx1_40))))), (q_43, .inl (G.2.1 2, (2 * nx1_40), .inr (.inr (.inr (.inr g2_44)))))] ++ pl2_23) H := hP
                have hD : va_D A ([(qx0_40, .inr (6, [.int 6, .int ix0_1_40, .int ix0_2_40, .int ix0_3_40, .null, .ref qx1_40, .null])), (mm, .inr (5, [.ref tp, .int sz, .int at2_21, .ref tk, .ref tp, .ref ou, .int tm, .int om, al, pt, .ref pg, .int wr])), (tp, .inl (G.2.1 0, 1000, .inl tpf)), (tk, .inl (G.2.1 0, 101, .inl tkf2_22)), (qx1_40, .inl (G.2.1 2, nx1_40, .inr (.inr (.inr (.inr fx1_40))))), (q_43, .inl (G.2.1 2, (2 * nx1_40), .inr (.inr (.inr (.inr g2_44)))))] ++ pl2_23) := hD
                refine W.widen (k := 2 + gl_40 + 3 * (at2_40.toInt - at0.toInt - 1).toNat + (3 * (at2_21.toInt - at2_40.toInt).toNat) + 1) (n := 11 + 64 * gl_40 + 140 * (at2_40.toInt - at0.toInt - 1).toNat + (140 * (at2_21.toInt - at2_40.toInt).toNat) + 64) (Nat.le_refl _) (Nat.le_refl _) ?_
                refine va_put (D := G.1) (ci := 6) (v := .ref q_43) (ty := (.array (.object "ValueTextsModel$Part"))) (C := R_Part) (T := F_Part) (N := 7) hx hb hw i_Part t_Part t_Part_ok n_Part hown hE.1 hP hD hS 0 rfl rfl 5 (by decide) (hw _ m_549) (fun _ h9 => h9) rfl (by decide +kernel) rfl rfl (Nat.le_of_ble_eq_true rfl) d_M_array_112 (fun H locs hP hD hS => ?_)
                have hP : va_P G.1 vwCl ([(qx0_40, .inr (6, [.int 6, .int ix0_1_40, .int ix0_2_40, .int ix0_3_40, .null, .ref q_43, .null])), (mm, .inr (5, [.ref tp, .int sz, .int at2_21, .ref tk, .ref tp, .ref ou, .int tm, .int om, al, pt, .ref pg, .int wr])), (tp, .inl (G.2.1 0, 1000, .inl tpf)), (tk, .inl (G.2.1 0, 101, .inl tkf2_22)), (qx1_40, .inl (G.2.1 2, nx1_40, .inr (.inr (.inr (.inr fx1_40))))), (q_43, .inl (G.2.1 2, (2 * nx1_40), .inr (.inr (.inr (.inr g2_44)))))] ++ pl2_23) H := hP
                have hD : va_D A ([(qx0_40, .inr (6, [.int 6, .int ix0_1_40, .int ix0_2_40, .int ix0_3_40, .null, .ref q_43, .null])), (mm, .inr (5, [.ref tp, .int sz, .int at2_21, .ref tk, .ref tp, .ref ou, .int tm, .int om, al, pt, .ref pg, .int wr])), (tp, .inl (G.2.1 0, 1000, .inl tpf)), (tk, .inl (G.2.1 0, 101, .inl tkf2_22)), (qx1_40, .inl (G.2.1 2, nx1_40, .inr (.inr (.inr (.inr fx1_40))))), (q_43, .inl (G.2.1 2, (2 * nx1_40), .inr (.inr (.inr (.inr g2_44)))))] ++ pl2_23) := hD
                refine lv_aload_n hx hb d_M_array_115 rfl (lv_at hl 1 rfl) ?_
                refine va_get (D := G.1) (ci := 6) (v := .ref q_43) (C := R_Part) (T := F_Part) (N := 7) hx hb hw i_Part hown hE.1 hP 0 rfl rfl 5 (by decide) (hw _ m_549) (fun _ h9 => h9) rfl d_M_array_116 ?_
                refine lv_aload_n hx hb d_M_array_119 rfl (lv_at hl 1 rfl) ?_
                refine va_get (D := G.1) (ci := 6) (v := .int ix0_3_40) (C := R_Part) (T := F_Part) (N := 7) hx hb hw i_Part hown hE.1 hP 0 rfl rfl 3 (by decide) (hw _ m_546) (fun _ h9 => h9) rfl d_M_array_120 ?_
                refine lv_aload_n hx hb d_M_array_123 rfl (lv_at hl 0 rfl) ?_
                obtain ⟨k_47, hk_47⟩ := List.getElem?_of_mem (show ((p_28, .inr (6, fs9)) : Nat × va_E) ∈ ([(qx0_40, .inr (6, [.int 6, .int ix0_1_40, .int ix0_2_40, .int ix0_3_40, .null, .ref q_43, .null])), (mm, .inr (5, [.ref tp, .int sz, .int at2_21, .ref tk, .ref tp, .ref ou, .int tm, .int om, al, pt, .ref pg, .int wr])), (tp, .inl (G.2.1 0, 1000, .inl tpf)), (tk, .inl (G.2.1 0, 101, .inl tkf2_22)), (qx1_40, .inl (G.2.1 2, nx1_40, .inr (.inr (.inr (.inr fx1_40))))), (q_43, .inl (G.2.1 2, (2 * nx1_40), .inr (.inr (.inr (.inr g2_44)))))] ++ pl2_23) from List.mem_append_right _ hf9)
                refine va_astq hx hb hE.1 hP hD hS 5 2 k_47 6 rfl rfl hk_47 rfl (i := ix0_3_40) (z_in (by omega) (by omega)) d_M_array_124 (fun H locs hP hD hS => ?_)
                obtain ⟨g_48, eg_48⟩ : ∃ y : Nat → Option Nat, y = va_up g2_44 ix0_3_40.toNatClampNeg (some p_28) := ⟨_, rfl⟩
                rw [← eg_48] at hP hD
                have hP : va_P G.1 vwCl ([(qx0_40, .inr (6, [.int 6, .int ix0_1_40, .int ix0_2_40, .int ix0_3_40, .null, .ref q_43, .null])), (mm, .inr (5, [.ref tp, .int sz, .int at2_21, .ref tk, .ref tp, .ref ou, .int tm, .int om, al, pt, .ref pg, .int wr])), (tp, .inl (G.2.1 0, 1000, .inl tpf)), (tk, .inl (G.2.1 0, 101, .inl tkf2_22)), (qx1_40, .inl (G.2.1 2, nx1_40, .inr (.inr (.inr (.inr fx1_40))))), (q_43, .inl (G.2.1 2, (2 * nx1_40), .inr (.inr (.inr (.inr g_48)))))] ++ pl2_23) H := hP
                have hD : va_D A ([(qx0_40, .inr (6, [.int 6, .int ix0_1_40, .int ix0_2_40, .int ix0_3_40, .null, .ref q_43, .null])), (mm, .inr (5, [.ref tp, .int sz, .int at2_21, .ref tk, .ref tp, .ref ou, .int tm, .int om, al, pt, .ref pg, .int wr])), (tp, .inl (G.2.1 0, 1000, .inl tpf)), (tk, .inl (G.2.1 0, 101, .inl tkf2_22)), (qx1_40, .inl (G.2.1 2, nx1_40, .inr (.inr (.inr (.inr fx1_40))))), (q_43, .inl (G.2.1 2, (2 * nx1_40), .inr (.inr (.inr (.inr g_48)))))] ++ pl2_23) := hD
                have hP := hP.part (cx := [(qx0_40, .inr (6, [.int 6, .int ix0_1_40, .int ix0_2_40, .int ix0_3_40, .null, .ref q_43, .null])), (mm, .inr (5, [.ref tp, .int sz, .int at2_21, .ref tk, .ref tp, .ref ou, .int tm, .int om, al, pt, .ref pg, .int wr])), (tp, .inl (G.2.1 0, 1000, .inl tpf)), (tk, .inl (G.2.1 0, 101, .inl tkf2_22)), (q_43, .inl (G.2.1 2, (2 * nx1_40), .inr (.inr (.inr (.inr g_48)))))]) [0, 1, 2, 3, 5] rfl
                have hD := hD.part (cx := [(qx0_40, .inr (6, [.int 6, .int ix0_1_40, .int ix0_2_40, .int ix0_3_40, .null, .ref q_43, .null])), (mm, .inr (5, [.ref tp, .int sz, .int at2_21, .ref tk, .ref tp, .ref ou, .int tm, .int om, al, pt, .ref pg, .int wr])), (tp, .inl (G.2.1 0, 1000, .inl tpf)), (tk, .inl (G.2.1 0, 101, .inl tkf2_22)), (q_43, .inl (G.2.1 2, (2 * nx1_40), .inr (.inr (.inr (.inr g_48)))))]) [0, 1, 2, 3, 5] (by decide) rfl
                refine lv_aload_n hx hb d_M_array_125 rfl (lv_at hl 1 rfl) ?_
                refine lv_dup hx hb d_M_array_126 rfl ?_
                refine va_get (D := G.1) (ci := 6) (v := .int ix0_3_40) (C := R_Part) (T := F_Part) (N := 7) hx hb hw i_Part hown hE.1 hP 0 rfl rfl 3 (by decide) (hw _ m_546) (fun _ h9 => h9) rfl d_M_array_127 ?_
                refine lv_iconst (v := 1) hx hb d_M_array_130 (by decide) ?_
                refine lv_iadd hx hb d_M_array_131 ?_
                refine lv_topi (fun y_49 ey_49 => ?_)
                have ty_49 := z_addE ey_49
                refine va_put (D := G.1) (ci := 6) (v := .int y_49) (ty := .int) (C := R_Part) (T := F_Part) (N := 7) hx hb hw i_Part t_Part t_Part_ok n_Part hown hE.1 hP hD hS 0 rfl rfl 3 (by decide) (hw _ m_546) (fun _ h9 => h9) rfl (by decide +kernel) rfl rfl (Nat.le_of_ble_eq_true rfl) d_M_array_132 (fun H locs hP hD hS => ?_)
                have hP : va_P G.1 vwCl ([(qx0_40, .inr (6, [.int 6, .int ix0_1_40, .int ix0_2_40, .int y_49, .null, .ref q_43, .null])), (mm, .inr (5, [.ref tp, .int sz, .int at2_21, .ref tk, .ref tp, .ref ou, .int tm, .int om, al, pt, .ref pg, .int wr])), (tp, .inl (G.2.1 0, 1000, .inl tpf)), (tk, .inl (G.2.1 0, 101, .inl tkf2_22)), (q_43, .inl (G.2.1 2, (2 * nx1_40), .inr (.inr (.inr (.inr g_48)))))] ++ pl2_23) H := hP
                have hD : va_D A ([(qx0_40, .inr (6, [.int 6, .int ix0_1_40, .int ix0_2_40, .int y_49, .null, .ref q_43, .null])), (mm, .inr (5, [.ref tp, .int sz, .int at2_21, .ref tk, .ref tp, .ref ou, .int tm, .int om, al, pt, .ref pg, .int wr])), (tp, .inl (G.2.1 0, 1000, .inl tpf)), (tk, .inl (G.2.1 0, 101, .inl tkf2_22)), (q_43, .inl (G.2.1 2, (2 * nx1_40), .inr (.inr (.inr (.inr g_48)))))] ++ pl2_23) := hD
                refine lv_aload_n hx hb d_M_array_135 rfl (lv_at hl 2 rfl) ?_
                refine gq_v (X := [(qx0_40, .inr (6, [.int 6, .int ix0_1_40, .int ix0_2_40, .int y_49, .null, .ref q_43, .null])), (mm, .inr (5, [.ref tp, .int sz, .int at2_21, .ref tk, .ref tp, .ref ou, .int tm, .int om, al, pt, .ref pg, .int wr])), (tp, .inl (G.2.1 0, 1000, .inl tpf)), (tk, .inl (G.2.1 0, 101, .inl tkf2_22)), (q_43, .inl (G.2.1 2, (2 * nx1_40), .inr (.inr (.inr (.inr g_48)))))]) (wr := [(qx0_40, .inr (6, [.int 6, .int ix0_1_40, .int ix0_2_40, .int y_49, .null, .ref q_43, .null])), (tk, .inl (G.2.1 0, 101, .inl tkf2_22)), (q_43, .inl (G.2.1 2, (2 * nx1_40), .inr (.inr (.inr (.inr g_48)))))]) (gh_V (wc := [(mm, .inr (5, [.ref tp, .int sz, .int at2_21, .ref tk, .ref tp, .ref ou, .int tm, .int om, al, pt, .ref pg, .int wr])), (tp, .inl (G.2.1 0, 1000, .inl tpf))]) (As := []) (rest := []) ⟨hx, hb, hml, hown, hw⟩ (c_M_white l G mm tp tk ou pg sz at2_21 tm om wr al pt tpf hz (by first | assumption | trivial | omega | (dsimp only; omega)) H.size) (cwV 0 hw (good_V m_513 m_515 ms_32 m_4 m_516) rfl rfl rfl hy_M_white ⟨Nat.le_trans (Nat.le_of_ble_eq_true rfl) (Nat.le_add_right 8 _), Nat.le_trans (Nat.le_of_ble_eq_true rfl) (Nat.le_add_right 177 _)⟩) (gP.here (wc := [(mm, .inr (5, [.ref tp, .int sz, .int at2_21, .ref tk, .ref tp, .ref ou, .int tm, .int om, al, pt, .ref pg, .int wr])), (tp, .inl (G.2.1 0, 1000, .inl tpf))]) hE hP hD hS hA [1, 2] rfl (by decide)) (va_recv hE.1 hP (ci := 5) (q0 := 1) rfl rfl) rfl hl rfl (Nat.le_of_ble_eq_true rfl) d_M_array_136 ⟨by show 2 + gl_40 + 3 * (at2_40.toInt - at0.toInt - 1).toNat + (3 * (at2_21.toInt - at2_40.toInt).toNat) + 1 + 0 ≤ 3 * (sz.toInt - at0.toInt).toNat + 9 + 4 * n; omega, by show 11 + 64 * gl_40 + 140 * (at2_40.toInt - at0.toInt - 1).toNat + (140 * (at2_21.toInt - at2_40.toInt).toNat) + 64 + 0 ≤ 140 * (sz.toInt - at0.toInt).toNat + 300 + 300 * n; omega⟩) hP hD hS hA [1, 2] [0, 3, 4] rfl rfl rfl (by decide) (by decide) (fun u_51 H locs hw_52 hP hD hS => ?_)
                obtain ⟨at2_53, rfl⟩ : ∃ z, z = u_51 := ⟨_, rfl⟩
                try dsimp only at hw_52
                have h_54 := hw_52
                have hP : va_P G.1 vwCl ([(qx0_40, .inr (6, [.int 6, .int ix0_1_40, .int ix0_2_40, .int y_49, .null, .ref q_43, .null])), (tk, .inl (G.2.1 0, 101, .inl tkf2_22)), (q_43, .inl (G.2.1 2, (2 * nx1_40), .inr (.inr (.inr (.inr g_48))))), (mm, .inr (5, [.ref tp, .int sz, .int at2_53, .ref tk, .ref tp, .ref ou, .int tm, .int om, al, pt, .ref pg, .int wr])), (tp, .inl (G.2.1 0, 1000, .inl tpf))] ++ pl2_23) H := hP
                have hD : va_D A ([(qx0_40, .inr (6, [.int 6, .int ix0_1_40, .int ix0_2_40, .int y_49, .null, .ref q_43, .null])), (tk, .inl (G.2.1 0, 101, .inl tkf2_22)), (q_43, .inl (G.2.1 2, (2 * nx1_40), .inr (.inr (.inr (.inr g_48))))), (mm, .inr (5, [.ref tp, .int sz, .int at2_53, .ref tk, .ref tp, .ref ou, .int tm, .int om, al, pt, .ref pg, .int wr])), (tp, .inl (G.2.1 0, 1000, .inl tpf))] ++ pl2_23) := hD
                refine lv_goto (tgt := 40) hx hb d_M_array_139 (by decide) ?_
                refine W.widen (k := 2 + (gl_40 + 1) + 3 * (at2_53.toInt - at0.toInt - 1).toNat) (n := 11 + 64 * (gl_40 + 1) + 140 * (at2_53.toInt - at0.toInt - 1).toNat) (by first | omega | (dsimp only; omega)) (by first | omega | (dsimp only; omega)) ?_
                exact ih_40 at2_53 tkf2_22 pl2_23 (mn_40 + 1) (gl_40 + 1) (fup ws_40 mn_40 w9) qx0_40 ix0_1_40 ix0_2_40 y_49 q_43 g_48 (2 * nx1_40) (by first | assumption | trivial | omega | (dsimp only; omega)) h_25 hs_30 (by first | assumption | trivial | omega | (dsimp only; omega)) hk1_40 (nI_suc (by omega) (by omega)) (by first | assumption | trivial | omega | (dsimp only; omega)) (by first | assumption | trivial | omega | (dsimp only; omega)) (by first | exact hI9.step hmn9 (by assumption) hw9 | exact (hI9.long (by assumption) (by omega)).step hmn9 (by assumption) hw9) (by rw [sm_fup1]; omega) (by omega) _ _ (hP.part [3, 4, 1, 0, 2] rfl) (hD.part [3, 4, 1, 0, 2] (by decide) rfl) hS _ (lv_sub hl [1, 2, 3] rfl)
          · have tl_60 : (60 : Int32).toInt = 60 := by decide
            have tc_16 := congrArg Int32.toInt c_16
            refine lv_null hx hb d_M_array_74 ?_
            refine lv_goto (tgt := 85) hx hb d_M_array_75 (by decide) ?_
            refine lv_astore_nN (lv' := [(3, .null), (2, .ref qx0_40), (0, .ref mm), (1, .int d)]) hx hb d_M_array_85 rfl hl (by decide) rfl (fun ls hl => ?_)
            refine lv_aload_nN hx hb d_M_array_86 rfl (lv_at hl 0 rfl) ?_
            refine lv_ifnonnullN hx hb d_M_array_87 ?_
            refine lv_null hx hb d_M_array_90 ?_
            exact ret none (at2_40, tkf2_40, pl2_40) (by simp only [oc]; omega) (by simp only [oc]; omega) (by simp only [oc]; omega) (by simp only [oc]; omega) d_M_array_91 ⟨hj0_40, hj1_40, (fun z9 hz9 => hj2_40 z9 hz9), ob_none⟩ (hP.part (cx := [(mm, .inr (5, [.ref tp, .int sz, .int at2_40, .ref tk, .ref tp, .ref ou, .int tm, .int om, al, pt, .ref pg, .int wr])), (tp, .inl (G.2.1 0, 1000, .inl tpf)), (tk, .inl (G.2.1 0, 101, .inl tkf2_40))]) [0, 1, 2] rfl) (hD.part (cx := [(mm, .inr (5, [.ref tp, .int sz, .int at2_40, .ref tk, .ref tp, .ref ou, .int tm, .int om, al, pt, .ref pg, .int wr])), (tp, .inl (G.2.1 0, 1000, .inl tpf)), (tk, .inl (G.2.1 0, 101, .inl tkf2_40))]) [0, 1, 2] (by decide) rfl) hS
  refine lv_iload_n hx hb d_M_array_0 rfl (lv_at hl 1 rfl) ?_
  refine lv_bipush (v := 8) hx hb d_M_array_1 (by decide) ?_
  refine lv_icmp_ne (tgt := 8) hx hb d_M_array_3 (by decide) (fun c_55 => ?_) (fun c_55 => ?_)
  · have tl_8 : (8 : Int32).toInt = 8 := by decide
    have tc_55 := z_ne c_55
    refine lv_aload_n hx hb d_M_array_8 rfl (lv_at hl 0 rfl) ?_
    refine lv_dup hx hb d_M_array_9 rfl ?_
    refine va_get (D := G.1) (ci := 5) (v := .int at0) (C := R_M) (T := F_M) (N := 12) hx hb hw i_M hown hE.1 hP 0 rfl rfl 2 (by decide) (hw _ m_455) (fun _ h9 => h9) rfl d_M_array_10 ?_
    refine lv_iconst (v := 1) hx hb d_M_array_13 (by decide) ?_
    refine lv_iadd hx hb d_M_array_14 ?_
    refine lv_topi (fun y_56 ey_56 => ?_)
    have tl_1 : (1 : Int32).toInt = 1 := by decide
    have ty_56 := z_addE ey_56
    refine va_put (D := G.1) (ci := 5) (v := .int y_56) (ty := .int) (C := R_M) (T := F_M) (N := 12) hx hb hw i_M t_M t_M_ok n_M hown hE.1 hP hD hS 0 rfl rfl 2 (by decide) (hw _ m_455) (fun _ h9 => h9) rfl (by decide +kernel) rfl rfl (Nat.le_of_ble_eq_true rfl) d_M_array_15 (fun H locs hP hD hS => ?_)
    have hP : va_P G.1 vwCl ([(mm, .inr (5, [.ref tp, .int sz, .int y_56, .ref tk, .ref tp, .ref ou, .int tm, .int om, al, pt, .ref pg, .int wr])), (tp, .inl (G.2.1 0, 1000, .inl tpf)), (tk, .inl (G.2.1 0, 101, .inl tkf))] ++ pl) H := hP
    have hD : va_D A ([(mm, .inr (5, [.ref tp, .int sz, .int y_56, .ref tk, .ref tp, .ref ou, .int tm, .int om, al, pt, .ref pg, .int wr])), (tp, .inl (G.2.1 0, 1000, .inl tpf)), (tk, .inl (G.2.1 0, 101, .inl tkf))] ++ pl) := hD
    refine va_new (ci := 6) (fs := [.int 0, .int 0, .int 0, .int 0, .null, .null, .null]) (C := R_Part) (T := F_Part) (N := 7) hx hb hw i_Part t_Part t_Part_ok hown (hw _ m_535) (hw _ m_536) (hw _ m_10) hE.1 hP hD hS hA rfl (fun j hj => by rcases (show j = 0 ∨ j = 1 ∨ j = 2 ∨ j = 3 ∨ j = 4 ∨ j = 5 ∨ j = 6 by omega) with rfl | rfl | rfl | rfl | rfl | rfl | rfl <;> rfl) (by show 0 + 1 ≤ 3 * (sz.toInt - at0.toInt).toNat + 9 + 4 * n; omega) (by show 0 + 7 ≤ 140 * (sz.toInt - at0.toInt).toNat + 300 + 300 * n; omega) d_M_array_18 (fun q_57 H hP hD hS => ?_)
    have hP := pl_front hP
    have hD := pl_frontD hD
    have hP : va_P G.1 vwCl ([(mm, .inr (5, [.ref tp, .int sz, .int y_56, .ref tk, .ref tp, .ref ou, .int tm, .int om, al, pt, .ref pg, .int wr])), (tp, .inl (G.2.1 0, 1000, .inl tpf)), (tk, .inl (G.2.1 0, 101, .inl tkf)), (q_57, .inr (6, [.int 0, .int 0, .int 0, .int 0, .null, .null, .null]))] ++ pl) H := hP
    have hD : va_D A ([(mm, .inr (5, [.ref tp, .int sz, .int y_56, .ref tk, .ref tp, .ref ou, .int tm, .int om, al, pt, .ref pg, .int wr])), (tp, .inl (G.2.1 0, 1000, .inl tpf)), (tk, .inl (G.2.1 0, 101, .inl tkf)), (q_57, .inr (6, [.int 0, .int 0, .int 0, .int 0, .null, .null, .null]))] ++ pl) := hD
    refine W.widen (k := 1) (n := 7) (Nat.le_refl _) (Nat.le_refl _) ?_
    refine lv_dup hx hb d_M_array_21 rfl ?_
    refine lv_bipush (v := 6) hx hb d_M_array_22 (by decide) ?_
    refine gq_v (X := [(mm, .inr (5, [.ref tp, .int sz, .int y_56, .ref tk, .ref tp, .ref ou, .int tm, .int om, al, pt, .ref pg, .int wr])), (tp, .inl (G.2.1 0, 1000, .inl tpf)), (tk, .inl (G.2.1 0, 101, .inl tkf)), (q_57, .inr (6, [.int 0, .int 0, .int 0, .int 0, .null, .null, .null]))]) (wr := [(mm, .inr (5, [.ref tp, .int sz, .int y_56, .ref tk, .ref tp, .ref ou, .int tm, .int om, al, pt, .ref pg, .int wr])), (tp, .inl (G.2.1 0, 1000, .inl tpf)), (tk, .inl (G.2.1 0, 101, .inl tkf))]) (gh_I (wc := [(q_57, .inr (6, [.int 0, .int 0, .int 0, .int 0, .null, .null, .null]))]) (As := [.int 6]) (rest := [.ref q_57]) ⟨hx, hb, hml, hown, hw⟩ (c_Part_init l G q_57 6 H.size) (cwI 1 hw (good_U m_539) rfl rfl rfl (hw _ m_10) (hw _ m_537) (hw _ m_538) rfl hy_Part_init.2 ⟨Nat.le_trans (Nat.le_of_ble_eq_true rfl) (Nat.le_add_right 8 _), Nat.le_trans (Nat.le_of_ble_eq_true rfl) (Nat.le_add_right 177 _)⟩) (gP.here (wc := [(q_57, .inr (6, [.int 0, .int 0, .int 0, .int 0, .null, .null, .null]))]) hE hP hD hS hA [3] rfl (by decide)) rfl hl rfl (Nat.le_of_ble_eq_true rfl) d_M_array_24 ⟨by show 1 + 0 ≤ 3 * (sz.toInt - at0.toInt).toNat + 9 + 4 * n; omega, by show 7 + 0 ≤ 140 * (sz.toInt - at0.toInt).toNat + 300 + 300 * n; omega⟩) hP hD hS hA [3] [0, 1, 2] rfl rfl rfl (by decide) (by decide) (fun u_59 H locs hw_60 hP hD hS => ?_)
    have hP : va_P G.1 vwCl ([(mm, .inr (5, [.ref tp, .int sz, .int y_56, .ref tk, .ref tp, .ref ou, .int tm, .int om, al, pt, .ref pg, .int wr])), (tp, .inl (G.2.1 0, 1000, .inl tpf)), (tk, .inl (G.2.1 0, 101, .inl tkf)), (q_57, .inr (6, [.int 6, .int 0, .int 0, .int 0, .null, .null, .null]))] ++ pl) H := hP
    have hD : va_D A ([(mm, .inr (5, [.ref tp, .int sz, .int y_56, .ref tk, .ref tp, .ref ou, .int tm, .int om, al, pt, .ref pg, .int wr])), (tp, .inl (G.2.1 0, 1000, .inl tpf)), (tk, .inl (G.2.1 0, 101, .inl tkf)), (q_57, .inr (6, [.int 6, .int 0, .int 0, .int 0, .null, .null, .null]))] ++ pl) := hD
    refine lv_astore_n (lv' := [(2, .ref q_57), (0, .ref mm), (1, .int d)]) hx hb d_M_array_27 rfl hl (by decide) rfl (fun ls hl => ?_)
    refine lv_aload_n hx hb d_M_array_28 rfl (lv_at hl 0 rfl) ?_
    refine lv_iconst (v := 4) hx hb d_M_array_29 (by decide) ?_
    refine gc_newq (N' := 4) hx hb hown (hw _ m_535) hE hP hD hS hA (by decide) (by decide) (by show 4 * 4 ≤ 536870912; omega) (by show 1 + 1 ≤ 3 * (sz.toInt - at0.toInt).toNat + 9 + 4 * n; omega) (by show 7 + 4 ≤ 140 * (sz.toInt - at0.toInt).toNat + 300 + 300 * n; omega) d_M_array_30 (fun q_61 H hP hD hS => ?_)
    have hP := pl_front hP
    have hD := pl_frontD hD
    have hP : va_P G.1 vwCl ([(mm, .inr (5, [.ref tp, .int sz, .int y_56, .ref tk, .ref tp, .ref ou, .int tm, .int om, al, pt, .ref pg, .int wr])), (tp, .inl (G.2.1 0, 1000, .inl tpf)), (tk, .inl (G.2.1 0, 101, .inl tkf)), (q_57, .inr (6, [.int 6, .int 0, .int 0, .int 0, .null, .null, .null])), (q_61, .inl (G.2.1 2, 4, .inr (.inr (.inr (.inr (fun _ => none))))))] ++ pl) H := hP
    have hD : va_D A ([(mm, .inr (5, [.ref tp, .int sz, .int y_56, .ref tk, .ref tp, .ref ou, .int tm, .int om, al, pt, .ref pg, .int wr])), (tp, .inl (G.2.1 0, 1000, .inl tpf)), (tk, .inl (G.2.1 0, 101, .inl tkf)), (q_57, .inr (6, [.int 6, .int 0, .int 0, .int 0, .null, .null, .null])), (q_61, .inl (G.2.1 2, 4, .inr (.inr (.inr (.inr (fun _ => none))))))] ++ pl) := hD
    refine W.widen (k := 2) (n := 11) (Nat.le_refl _) (Nat.le_refl _) ?_
    refine va_put (D := G.1) (ci := 6) (v := .ref q_61) (ty := (.array (.object "ValueTextsModel$Part"))) (C := R_Part) (T := F_Part) (N := 7) hx hb hw i_Part t_Part t_Part_ok n_Part hown hE.1 hP hD hS 3 rfl rfl 5 (by decide) (hw _ m_549) (fun _ h9 => h9) rfl (by decide +kernel) rfl rfl (Nat.le_of_ble_eq_true rfl) d_M_array_33 (fun H locs hP hD hS => ?_)
    have hP : va_P G.1 vwCl ([(mm, .inr (5, [.ref tp, .int sz, .int y_56, .ref tk, .ref tp, .ref ou, .int tm, .int om, al, pt, .ref pg, .int wr])), (tp, .inl (G.2.1 0, 1000, .inl tpf)), (tk, .inl (G.2.1 0, 101, .inl tkf)), (q_57, .inr (6, [.int 6, .int 0, .int 0, .int 0, .null, .ref q_61, .null])), (q_61, .inl (G.2.1 2, 4, .inr (.inr (.inr (.inr (fun _ => none))))))] ++ pl) H := hP
    have hD : va_D A ([(mm, .inr (5, [.ref tp, .int sz, .int y_56, .ref tk, .ref tp, .ref ou, .int tm, .int om, al, pt, .ref pg, .int wr])), (tp, .inl (G.2.1 0, 1000, .inl tpf)), (tk, .inl (G.2.1 0, 101, .inl tkf)), (q_57, .inr (6, [.int 6, .int 0, .int 0, .int 0, .null, .ref q_61, .null])), (q_61, .inl (G.2.1 2, 4, .inr (.inr (.inr (.inr (fun _ => none))))))] ++ pl) := hD
    refine lv_aload_n hx hb d_M_array_36 rfl (lv_at hl 1 rfl) ?_
    refine gq_v (X := [(mm, .inr (5, [.ref tp, .int sz, .int y_56, .ref tk, .ref tp, .ref ou, .int tm, .int om, al, pt, .ref pg, .int wr])), (tp, .inl (G.2.1 0, 1000, .inl tpf)), (tk, .inl (G.2.1 0, 101, .inl tkf)), (q_57, .inr (6, [.int 6, .int 0, .int 0, .int 0, .null, .ref q_61, .null])), (q_61, .inl (G.2.1 2, 4, .inr (.inr (.inr (.inr (fun _ => none))))))]) (wr := [(tk, .inl (G.2.1 0, 101, .inl tkf)), (q_57, .inr (6, [.int 6, .int 0, .int 0, .int 0, .null, .ref q_61, .null])), (q_61, .inl (G.2.1 2, 4, .inr (.inr (.inr (.inr (fun _ => none))))))]) (gh_V (wc := [(mm, .inr (5, [.ref tp, .int sz, .int y_56, .ref tk, .ref tp, .ref ou, .int tm, .int om, al, pt, .ref pg, .int wr])), (tp, .inl (G.2.1 0, 1000, .inl tpf))]) (As := []) (rest := []) ⟨hx, hb, hml, hown, hw⟩ (c_M_white l G mm tp tk ou pg sz y_56 tm om wr al pt tpf hz (by first | assumption | trivial | omega | (dsimp only; omega)) H.size) (cwV 0 hw (good_V m_513 m_515 ms_32 m_4 m_516) rfl rfl rfl hy_M_white ⟨Nat.le_trans (Nat.le_of_ble_eq_true rfl) (Nat.le_add_right 8 _), Nat.le_trans (Nat.le_of_ble_eq_true rfl) (Nat.le_add_right 177 _)⟩) (gP.here (wc := [(mm, .inr (5, [.ref tp, .int sz, .int y_56, .ref tk, .ref tp, .ref ou, .int tm, .int om, al, pt, .ref pg, .int wr])), (tp, .inl (G.2.1 0, 1000, .inl tpf))]) hE hP hD hS hA [0, 1] rfl (by decide)) (va_recv hE.1 hP (ci := 5) (q0 := 0) rfl rfl) rfl hl rfl (Nat.le_of_ble_eq_true rfl) d_M_array_37 ⟨by show 2 + 0 ≤ 3 * (sz.toInt - at0.toInt).toNat + 9 + 4 * n; omega, by show 11 + 0 ≤ 140 * (sz.toInt - at0.toInt).toNat + 300 + 300 * n; omega⟩) hP hD hS hA [0, 1] [2, 3, 4] rfl rfl rfl (by decide) (by decide) (fun u_63 H locs hw_64 hP hD hS => ?_)
    obtain ⟨at2_65, rfl⟩ : ∃ z, z = u_63 := ⟨_, rfl⟩
    try dsimp only at hw_64
    have h_66 := hw_64
    have hP : va_P G.1 vwCl ([(tk, .inl (G.2.1 0, 101, .inl tkf)), (q_57, .inr (6, [.int 6, .int 0, .int 0, .int 0, .null, .ref q_61, .null])), (q_61, .inl (G.2.1 2, 4, .inr (.inr (.inr (.inr (fun _ => none)))))), (mm, .inr (5, [.ref tp, .int sz, .int at2_65, .ref tk, .ref tp, .ref ou, .int tm, .int om, al, pt, .ref pg, .int wr])), (tp, .inl (G.2.1 0, 1000, .inl tpf))] ++ pl) H := hP
    have hD : va_D A ([(tk, .inl (G.2.1 0, 101, .inl tkf)), (q_57, .inr (6, [.int 6, .int 0, .int 0, .int 0, .null, .ref q_61, .null])), (q_61, .inl (G.2.1 2, 4, .inr (.inr (.inr (.inr (fun _ => none)))))), (mm, .inr (5, [.ref tp, .int sz, .int at2_65, .ref tk, .ref tp, .ref ou, .int tm, .int om, al, pt, .ref pg, .int wr])), (tp, .inl (G.2.1 0, 1000, .inl tpf))] ++ pl) := hD
    have tl_0 : (0 : Int32).toInt = 0 := by decide
    have tl_4 : (4 : Int32).toInt = 4 := by decide
    refine W.widen (k := 2 + 0 + 3 * (at2_65.toInt - at0.toInt - 1).toNat) (n := 11 + 64 * 0 + 140 * (at2_65.toInt - at0.toInt - 1).toNat) (by first | omega | (dsimp only; omega)) (by first | omega | (dsimp only; omega)) ?_
    exact J_40 _ at2_65 tkf pl 0 0 (fun _ => 0) q_57 0 0 0 q_61 (fun _ => none) 4 (by first | assumption | trivial | omega | (dsimp only; omega)) htf (fun _ h9 => h9) (by first | assumption | trivial | omega | (dsimp only; omega)) (by first | assumption | trivial | omega | (dsimp only; omega)) (rfl) (by first | assumption | trivial | omega | (dsimp only; omega)) (by first | assumption | trivial | omega | (dsimp only; omega)) (ItI.zero) (Nat.zero_le _) (Nat.lt_succ_self _) _ _ (hP.part [3, 4, 0, 1, 2] rfl) (hD.part [3, 4, 0, 1, 2] (by decide) rfl) hS _ (lv_sub hl [0, 1, 2] rfl)
  · have tl_8 : (8 : Int32).toInt = 8 := by decide
    have tc_55 := congrArg Int32.toInt c_55
    refine lv_null hx hb d_M_array_6 ?_
    exact ret none (at0, tkf, pl) (by simp only [oc]; omega) (by simp only [oc]; omega) (by simp only [oc]; omega) (by simp only [oc]; omega) d_M_array_7 ⟨(by first | assumption | trivial | omega | (dsimp only; omega)), htf, (fun z9 hz9 => (fun _ h9 => h9) z9 hz9), ob_none⟩ (hP.part (cx := [(mm, .inr (5, [.ref tp, .int sz, .int at0, .ref tk, .ref tp, .ref ou, .int tm, .int om, al, pt, .ref pg, .int wr])), (tp, .inl (G.2.1 0, 1000, .inl tpf)), (tk, .inl (G.2.1 0, 101, .inl tkf))]) [0, 1, 2] rfl) (hD.part (cx := [(mm, .inr (5, [.ref tp, .int sz, .int at0, .ref tk, .ref tp, .ref ou, .int tm, .int om, al, pt, .ref pg, .int wr])), (tp, .inl (G.2.1 0, 1000, .inl tpf)), (tk, .inl (G.2.1 0, 101, .inl tkf))]) [0, 1, 2] (by decide) rfl) hS
