/-! THE CLAIM OUT OF ONE WALK OF THE LAW'S BODY. Your part is whole_start (and what it stands on); all else here is the same for every law, but numbers. -/
def R_law : String := "ValueTextsLaw"
def lw_P (b : Addr) (xs : List Int32) (args : Array Value) (s : State) : Prop := args = #[.ref b] ∧ s.IntsAt b xs ∧ xs.length ≤ 3072 ∧ (Jvm.Cond.and given_1 narrow_1).before args s = true
def lw_Q (_ : Array Value) (s : State) (o : Outcome) (t : State) : Prop := o = .returned (some (.int 1)) ∧ Framed s o t [] 600000 7302249
def lw_Z (below : List Frame) (a : Array Value) (s : State) : State → Prop := fun t => ∃ o, t.status = .running ∧ Ended t below o ∧ lw_Q a s o t
/-- the law's own end, with 1 on the stack, nothing written that was there before, its room as the claim has it -/
theorem lw_ret {p : Program} {l : Launch} {e : Env} {s : State} {m : MethodId} {below : List Frame} {meth : Method} {c : Code} {b : Nat} (hx : p.tables.exec = Jvm.exec) (hb : c.code = code) (hr : meth.sig.returnType = ret) (hlocks : meth.locks = false) {pc : Nat} {H : Heap} {ls : Array Slot} (hdg : decode code pc = .ok (.ireturn, 1)) : W p l e room_1 s m #[Value.ref b] below meth c H [] 600000 7302249 (lw_Z below #[Value.ref b] s) (F0 m pc ls [.int 1]) := by
  intro T hT X
  obtain ⟨fs, hret, hrun, hended, hW, hframe⟩ := X.leave (v := some (.int 1)) (hlocks := hlocks) (fun h => by rw [hr] at h; cases h)
  have hmeth' : T.vm.method? m = some meth := X.method'
  refine ⟨T.setFrames fs, ?_, .returned (some (.int 1)), hrun, hended, rfl, ⟨_, rfl⟩, hW, hframe⟩
  jvm_step X.here [X.here.top, hx, hb, hdg, hmeth', hr, ret, narrow_b1]
  (try refine ⟨rfl, ?_⟩); (try refine ⟨rfl, ?_⟩)
  first | (intro acts; rw [hret _ acts rfl rfl rfl]) | rw [hret _ _ rfl rfl rfl]
  exact Steps.refl _
/-- what holds at the law's entry: the machine, the code, the tables' words (any of lw_tbl by 'hts w (by decide +kernel)'), the script of L ints xs at the cell b, what the Statement gives of the start (any of its parts by flat_of_before) -/
def lw_At (p : Program) (s : State) (m : MethodId) (meth : Method) (c : Code) (b L : Nat) (xs : Nat → Int32) : Prop :=
  p.tables.exec = Jvm.exec ∧ c.code = code ∧ meth.sig.returnType = ret ∧ c.maxLocals = 4 ∧ s.vm.findClass R_law = some m.cls ∧ (∀ w ∈ lw_tbl, w.before #[Value.ref b] s = true) ∧ va_X b L xs s s.heap ∧ b < s.heap.size ∧ meth.locks = false ∧ (Jvm.Cond.and given_1 narrow_1).before #[Value.ref b] s = true
theorem d_law_0 : decode code 0 = .ok (.new 7, 3) := by decide +kernel
theorem d_law_3 : decode code 3 = .ok (.dup, 1) := by decide +kernel
theorem d_law_4 : decode code 4 = .ok (.invokespecial 9, 3) := by decide +kernel
theorem d_law_7 : decode code 7 = .ok (.astore_n 1, 1) := by decide +kernel
theorem d_law_8 : decode code 8 = .ok (.new 10, 3) := by decide +kernel
theorem d_law_11 : decode code 11 = .ok (.dup, 1) := by decide +kernel
theorem d_law_12 : decode code 12 = .ok (.invokespecial 12, 3) := by decide +kernel
theorem d_law_15 : decode code 15 = .ok (.astore_n 2, 1) := by decide +kernel
theorem d_law_16 : decode code 16 = .ok (.iconst 0, 1) := by decide +kernel
theorem d_law_17 : decode code 17 = .ok (.istore_n 3, 1) := by decide +kernel
theorem d_law_18 : decode code 18 = .ok (.iload_n 3, 1) := by decide +kernel
theorem d_law_19 : decode code 19 = .ok (.aload_n 0, 1) := by decide +kernel
theorem d_law_20 : decode code 20 = .ok (.arraylength, 1) := by decide +kernel
theorem d_law_21 : decode code 21 = .ok (.bipush 6, 2) := by decide +kernel
theorem d_law_23 : decode code 23 = .ok (.isub, 1) := by decide +kernel
theorem d_law_24 : decode code 24 = .ok (.if_icmp .gt 300, 3) := by decide +kernel
theorem d_law_27 : decode code 27 = .ok (.aload_n 0, 1) := by decide +kernel
theorem d_law_28 : decode code 28 = .ok (.iload_n 3, 1) := by decide +kernel
theorem d_law_29 : decode code 29 = .ok (.iaload, 1) := by decide +kernel
theorem d_law_30 : decode code 30 = .ok (.bipush 15, 2) := by decide +kernel
theorem d_law_32 : decode code 32 = .ok (.iand, 1) := by decide +kernel
theorem d_law_33 : decode code 33 = .ok (.tableswitch 285 0 9 #[55, 118, 141, 154, 167, 180, 203, 216, 239, 262], 55) := by decide +kernel
theorem d_law_88 : decode code 88 = .ok (.aload_n 1, 1) := by decide +kernel
theorem d_law_89 : decode code 89 = .ok (.aload_n 0, 1) := by decide +kernel
theorem d_law_90 : decode code 90 = .ok (.iload_n 3, 1) := by decide +kernel
theorem d_law_91 : decode code 91 = .ok (.iconst 1, 1) := by decide +kernel
theorem d_law_92 : decode code 92 = .ok (.iadd, 1) := by decide +kernel
theorem d_law_93 : decode code 93 = .ok (.iaload, 1) := by decide +kernel
theorem d_law_94 : decode code 94 = .ok (.aload_n 0, 1) := by decide +kernel
theorem d_law_95 : decode code 95 = .ok (.iload_n 3, 1) := by decide +kernel
theorem d_law_96 : decode code 96 = .ok (.iconst 2, 1) := by decide +kernel
theorem d_law_97 : decode code 97 = .ok (.iadd, 1) := by decide +kernel
theorem d_law_98 : decode code 98 = .ok (.iaload, 1) := by decide +kernel
theorem d_law_99 : decode code 99 = .ok (.aload_n 0, 1) := by decide +kernel
theorem d_law_100 : decode code 100 = .ok (.iload_n 3, 1) := by decide +kernel
theorem d_law_101 : decode code 101 = .ok (.iconst 3, 1) := by decide +kernel
theorem d_law_102 : decode code 102 = .ok (.iadd, 1) := by decide +kernel
theorem d_law_103 : decode code 103 = .ok (.iaload, 1) := by decide +kernel
theorem d_law_104 : decode code 104 = .ok (.aload_n 0, 1) := by decide +kernel
theorem d_law_105 : decode code 105 = .ok (.iload_n 3, 1) := by decide +kernel
theorem d_law_106 : decode code 106 = .ok (.iconst 4, 1) := by decide +kernel
theorem d_law_107 : decode code 107 = .ok (.iadd, 1) := by decide +kernel
theorem d_law_108 : decode code 108 = .ok (.iaload, 1) := by decide +kernel
theorem d_law_109 : decode code 109 = .ok (.aload_n 0, 1) := by decide +kernel
theorem d_law_110 : decode code 110 = .ok (.iload_n 3, 1) := by decide +kernel
theorem d_law_111 : decode code 111 = .ok (.iconst 5, 1) := by decide +kernel
theorem d_law_112 : decode code 112 = .ok (.iadd, 1) := by decide +kernel
theorem d_law_113 : decode code 113 = .ok (.iaload, 1) := by decide +kernel
theorem d_law_114 : decode code 114 = .ok (.invokevirtual 13, 3) := by decide +kernel
theorem d_law_117 : decode code 117 = .ok (.pop, 1) := by decide +kernel
theorem d_law_118 : decode code 118 = .ok (.aload_n 2, 1) := by decide +kernel
theorem d_law_119 : decode code 119 = .ok (.aload_n 0, 1) := by decide +kernel
theorem d_law_120 : decode code 120 = .ok (.iload_n 3, 1) := by decide +kernel
theorem d_law_121 : decode code 121 = .ok (.iconst 1, 1) := by decide +kernel
theorem d_law_122 : decode code 122 = .ok (.iadd, 1) := by decide +kernel
theorem d_law_123 : decode code 123 = .ok (.iaload, 1) := by decide +kernel
theorem d_law_124 : decode code 124 = .ok (.aload_n 0, 1) := by decide +kernel
theorem d_law_125 : decode code 125 = .ok (.iload_n 3, 1) := by decide +kernel
theorem d_law_126 : decode code 126 = .ok (.iconst 2, 1) := by decide +kernel
theorem d_law_127 : decode code 127 = .ok (.iadd, 1) := by decide +kernel
theorem d_law_128 : decode code 128 = .ok (.iaload, 1) := by decide +kernel
theorem d_law_129 : decode code 129 = .ok (.aload_n 0, 1) := by decide +kernel
theorem d_law_130 : decode code 130 = .ok (.iload_n 3, 1) := by decide +kernel
theorem d_law_131 : decode code 131 = .ok (.iconst 3, 1) := by decide +kernel
theorem d_law_132 : decode code 132 = .ok (.iadd, 1) := by decide +kernel
theorem d_law_133 : decode code 133 = .ok (.iaload, 1) := by decide +kernel
theorem d_law_134 : decode code 134 = .ok (.aload_n 0, 1) := by decide +kernel
theorem d_law_135 : decode code 135 = .ok (.iload_n 3, 1) := by decide +kernel
theorem d_law_136 : decode code 136 = .ok (.iconst 4, 1) := by decide +kernel
theorem d_law_137 : decode code 137 = .ok (.iadd, 1) := by decide +kernel
theorem d_law_138 : decode code 138 = .ok (.iaload, 1) := by decide +kernel
theorem d_law_139 : decode code 139 = .ok (.aload_n 0, 1) := by decide +kernel
theorem d_law_140 : decode code 140 = .ok (.iload_n 3, 1) := by decide +kernel
theorem d_law_141 : decode code 141 = .ok (.iconst 5, 1) := by decide +kernel
theorem d_law_142 : decode code 142 = .ok (.iadd, 1) := by decide +kernel
theorem d_law_143 : decode code 143 = .ok (.iaload, 1) := by decide +kernel
theorem d_law_144 : decode code 144 = .ok (.invokevirtual 17, 3) := by decide +kernel
theorem d_law_147 : decode code 147 = .ok (.pop, 1) := by decide +kernel
theorem d_law_148 : decode code 148 = .ok (.goto 170, 3) := by decide +kernel
theorem d_law_151 : decode code 151 = .ok (.aload_n 1, 1) := by decide +kernel
theorem d_law_152 : decode code 152 = .ok (.aload_n 0, 1) := by decide +kernel
theorem d_law_153 : decode code 153 = .ok (.iload_n 3, 1) := by decide +kernel
theorem d_law_154 : decode code 154 = .ok (.iconst 1, 1) := by decide +kernel
theorem d_law_155 : decode code 155 = .ok (.iadd, 1) := by decide +kernel
theorem d_law_156 : decode code 156 = .ok (.iaload, 1) := by decide +kernel
theorem d_law_157 : decode code 157 = .ok (.invokevirtual 18, 3) := by decide +kernel
theorem d_law_160 : decode code 160 = .ok (.aload_n 2, 1) := by decide +kernel
theorem d_law_161 : decode code 161 = .ok (.aload_n 0, 1) := by decide +kernel
theorem d_law_162 : decode code 162 = .ok (.iload_n 3, 1) := by decide +kernel
theorem d_law_163 : decode code 163 = .ok (.iconst 1, 1) := by decide +kernel
theorem d_law_164 : decode code 164 = .ok (.iadd, 1) := by decide +kernel
theorem d_law_165 : decode code 165 = .ok (.iaload, 1) := by decide +kernel
theorem d_law_166 : decode code 166 = .ok (.invokevirtual 22, 3) := by decide +kernel
theorem d_law_169 : decode code 169 = .ok (.if_icmp .eq 149, 3) := by decide +kernel
theorem d_law_172 : decode code 172 = .ok (.iconst 0, 1) := by decide +kernel
theorem d_law_173 : decode code 173 = .ok (.ireturn, 1) := by decide +kernel
theorem d_law_174 : decode code 174 = .ok (.aload_n 1, 1) := by decide +kernel
theorem d_law_175 : decode code 175 = .ok (.invokevirtual 23, 3) := by decide +kernel
theorem d_law_178 : decode code 178 = .ok (.pop, 1) := by decide +kernel
theorem d_law_179 : decode code 179 = .ok (.aload_n 2, 1) := by decide +kernel
theorem d_law_180 : decode code 180 = .ok (.invokevirtual 27, 3) := by decide +kernel
theorem d_law_183 : decode code 183 = .ok (.pop, 1) := by decide +kernel
theorem d_law_184 : decode code 184 = .ok (.goto 134, 3) := by decide +kernel
theorem d_law_187 : decode code 187 = .ok (.aload_n 1, 1) := by decide +kernel
theorem d_law_188 : decode code 188 = .ok (.invokevirtual 28, 3) := by decide +kernel
theorem d_law_191 : decode code 191 = .ok (.pop, 1) := by decide +kernel
theorem d_law_192 : decode code 192 = .ok (.aload_n 2, 1) := by decide +kernel
theorem d_law_193 : decode code 193 = .ok (.invokevirtual 31, 3) := by decide +kernel
theorem d_law_196 : decode code 196 = .ok (.pop, 1) := by decide +kernel
theorem d_law_197 : decode code 197 = .ok (.goto 121, 3) := by decide +kernel
theorem d_law_200 : decode code 200 = .ok (.aload_n 1, 1) := by decide +kernel
theorem d_law_201 : decode code 201 = .ok (.invokevirtual 32, 3) := by decide +kernel
theorem d_law_204 : decode code 204 = .ok (.pop, 1) := by decide +kernel
theorem d_law_205 : decode code 205 = .ok (.aload_n 2, 1) := by decide +kernel
theorem d_law_206 : decode code 206 = .ok (.invokevirtual 35, 3) := by decide +kernel
theorem d_law_209 : decode code 209 = .ok (.pop, 1) := by decide +kernel
theorem d_law_210 : decode code 210 = .ok (.goto 108, 3) := by decide +kernel
theorem d_law_213 : decode code 213 = .ok (.aload_n 1, 1) := by decide +kernel
theorem d_law_214 : decode code 214 = .ok (.aload_n 0, 1) := by decide +kernel
theorem d_law_215 : decode code 215 = .ok (.iload_n 3, 1) := by decide +kernel
theorem d_law_216 : decode code 216 = .ok (.iconst 1, 1) := by decide +kernel
theorem d_law_217 : decode code 217 = .ok (.iadd, 1) := by decide +kernel
theorem d_law_218 : decode code 218 = .ok (.iaload, 1) := by decide +kernel
theorem d_law_219 : decode code 219 = .ok (.invokevirtual 36, 3) := by decide +kernel
theorem d_law_222 : decode code 222 = .ok (.pop, 1) := by decide +kernel
theorem d_law_223 : decode code 223 = .ok (.aload_n 2, 1) := by decide +kernel
theorem d_law_224 : decode code 224 = .ok (.aload_n 0, 1) := by decide +kernel
theorem d_law_225 : decode code 225 = .ok (.iload_n 3, 1) := by decide +kernel
theorem d_law_226 : decode code 226 = .ok (.iconst 1, 1) := by decide +kernel
theorem d_law_227 : decode code 227 = .ok (.iadd, 1) := by decide +kernel
theorem d_law_228 : decode code 228 = .ok (.iaload, 1) := by decide +kernel
theorem d_law_229 : decode code 229 = .ok (.invokevirtual 39, 3) := by decide +kernel
theorem d_law_232 : decode code 232 = .ok (.pop, 1) := by decide +kernel
theorem d_law_233 : decode code 233 = .ok (.goto 85, 3) := by decide +kernel
theorem d_law_236 : decode code 236 = .ok (.aload_n 1, 1) := by decide +kernel
theorem d_law_237 : decode code 237 = .ok (.invokevirtual 40, 3) := by decide +kernel
theorem d_law_240 : decode code 240 = .ok (.pop, 1) := by decide +kernel
theorem d_law_241 : decode code 241 = .ok (.aload_n 2, 1) := by decide +kernel
theorem d_law_242 : decode code 242 = .ok (.invokevirtual 43, 3) := by decide +kernel
theorem d_law_245 : decode code 245 = .ok (.pop, 1) := by decide +kernel
theorem d_law_246 : decode code 246 = .ok (.goto 72, 3) := by decide +kernel
theorem d_law_249 : decode code 249 = .ok (.aload_n 1, 1) := by decide +kernel
theorem d_law_250 : decode code 250 = .ok (.aload_n 0, 1) := by decide +kernel
theorem d_law_251 : decode code 251 = .ok (.iload_n 3, 1) := by decide +kernel
theorem d_law_252 : decode code 252 = .ok (.iconst 1, 1) := by decide +kernel
theorem d_law_253 : decode code 253 = .ok (.iadd, 1) := by decide +kernel
theorem d_law_254 : decode code 254 = .ok (.iaload, 1) := by decide +kernel
theorem d_law_255 : decode code 255 = .ok (.invokevirtual 44, 3) := by decide +kernel
theorem d_law_258 : decode code 258 = .ok (.pop, 1) := by decide +kernel
theorem d_law_259 : decode code 259 = .ok (.aload_n 2, 1) := by decide +kernel
theorem d_law_260 : decode code 260 = .ok (.aload_n 0, 1) := by decide +kernel
theorem d_law_261 : decode code 261 = .ok (.iload_n 3, 1) := by decide +kernel
theorem d_law_262 : decode code 262 = .ok (.iconst 1, 1) := by decide +kernel
theorem d_law_263 : decode code 263 = .ok (.iadd, 1) := by decide +kernel
theorem d_law_264 : decode code 264 = .ok (.iaload, 1) := by decide +kernel
theorem d_law_265 : decode code 265 = .ok (.invokevirtual 47, 3) := by decide +kernel
theorem d_law_268 : decode code 268 = .ok (.pop, 1) := by decide +kernel
theorem d_law_269 : decode code 269 = .ok (.goto 49, 3) := by decide +kernel
theorem d_law_272 : decode code 272 = .ok (.aload_n 1, 1) := by decide +kernel
theorem d_law_273 : decode code 273 = .ok (.aload_n 0, 1) := by decide +kernel
theorem d_law_274 : decode code 274 = .ok (.iload_n 3, 1) := by decide +kernel
theorem d_law_275 : decode code 275 = .ok (.iconst 1, 1) := by decide +kernel
theorem d_law_276 : decode code 276 = .ok (.iadd, 1) := by decide +kernel
theorem d_law_277 : decode code 277 = .ok (.iaload, 1) := by decide +kernel
theorem d_law_278 : decode code 278 = .ok (.invokevirtual 48, 3) := by decide +kernel
theorem d_law_281 : decode code 281 = .ok (.pop, 1) := by decide +kernel
theorem d_law_282 : decode code 282 = .ok (.aload_n 2, 1) := by decide +kernel
theorem d_law_283 : decode code 283 = .ok (.aload_n 0, 1) := by decide +kernel
theorem d_law_284 : decode code 284 = .ok (.iload_n 3, 1) := by decide +kernel
theorem d_law_285 : decode code 285 = .ok (.iconst 1, 1) := by decide +kernel
theorem d_law_286 : decode code 286 = .ok (.iadd, 1) := by decide +kernel
theorem d_law_287 : decode code 287 = .ok (.iaload, 1) := by decide +kernel
theorem d_law_288 : decode code 288 = .ok (.invokevirtual 51, 3) := by decide +kernel
theorem d_law_291 : decode code 291 = .ok (.pop, 1) := by decide +kernel
theorem d_law_292 : decode code 292 = .ok (.goto 26, 3) := by decide +kernel
theorem d_law_295 : decode code 295 = .ok (.aload_n 1, 1) := by decide +kernel
theorem d_law_296 : decode code 296 = .ok (.aload_n 0, 1) := by decide +kernel
theorem d_law_297 : decode code 297 = .ok (.iload_n 3, 1) := by decide +kernel
theorem d_law_298 : decode code 298 = .ok (.iconst 1, 1) := by decide +kernel
theorem d_law_299 : decode code 299 = .ok (.iadd, 1) := by decide +kernel
theorem d_law_300 : decode code 300 = .ok (.iaload, 1) := by decide +kernel
theorem d_law_301 : decode code 301 = .ok (.invokevirtual 52, 3) := by decide +kernel
theorem d_law_304 : decode code 304 = .ok (.pop, 1) := by decide +kernel
theorem d_law_305 : decode code 305 = .ok (.aload_n 2, 1) := by decide +kernel
theorem d_law_306 : decode code 306 = .ok (.aload_n 0, 1) := by decide +kernel
theorem d_law_307 : decode code 307 = .ok (.iload_n 3, 1) := by decide +kernel
theorem d_law_308 : decode code 308 = .ok (.iconst 1, 1) := by decide +kernel
theorem d_law_309 : decode code 309 = .ok (.iadd, 1) := by decide +kernel
theorem d_law_310 : decode code 310 = .ok (.iaload, 1) := by decide +kernel
theorem d_law_311 : decode code 311 = .ok (.invokevirtual 55, 3) := by decide +kernel
theorem d_law_314 : decode code 314 = .ok (.pop, 1) := by decide +kernel
theorem d_law_315 : decode code 315 = .ok (.goto 3, 3) := by decide +kernel
theorem d_law_318 : decode code 318 = .ok (.iinc 3 6, 3) := by decide +kernel
theorem d_law_321 : decode code 321 = .ok (.goto (-303), 3) := by decide +kernel
theorem d_law_324 : decode code 324 = .ok (.iconst 1, 1) := by decide +kernel
theorem d_law_325 : decode code 325 = .ok (.ireturn, 1) := by decide +kernel
set_option maxRecDepth 100000 in
theorem st_0 {s : State} {b : Nat} (hts : ∀ w ∈ lw_tbl, w.before #[Value.ref b] s = true) (hgv : (Jvm.Cond.and given_1 narrow_1).before #[Value.ref b] s = true) : ∃ a v : Nat, vk_S 1 [(lenS.getD 0 0)] [(bytS.getD 0 [])] (fun _ => a) (fun _ => v) (fun q : Nat => s.heap.size ≤ q) s s.heap ∧ vk_R (ownS.getD 0 "") (idxS.getD 0 0) (txS.getD 0 "") a s := by
  have hs := flat_of_before _ hgv
  obtain ⟨adK, adV, h1, h2⟩ := vk_Sof (args := #[Value.ref b]) (s := s) (N := 1) (tm := fun _ => (.string "ValueTexts$Reader" 104)) (len := [(lenS.getD 0 0)]) (byt := [(bytS.getD 0 [])]) (A := fun q : Nat => s.heap.size ≤ q)
    (fun i hi => by have e : i = 0 := by omega
                    subst e; decide)
    (fun i _ => hs (Cond.exactly (.string "ValueTexts$Reader" 104) "java/lang/String") (by decide +kernel)) (fun i _ => hs (Cond.eq (.field (.string "ValueTexts$Reader" 104) "java/lang/String" "coder" "B") (.int 0)) (by decide +kernel)) (fun i _ => hs (Cond.arrayOf (.field (.string "ValueTexts$Reader" 104) "java/lang/String" "value" "[B") .byte) (by decide +kernel))
    (fun i hi => by have e : i = 0 := by omega
                    subst e; exact hs (Cond.eq (.length (.field (.string "ValueTexts$Reader" 104) "java/lang/String" "value" "[B")) (.int 4)) (by decide +kernel))
    (fun i hi j hj => by
      have e : i = 0 := by omega
      subst e
      have hj2 : j < 4 := hj
      rcases (show j = 0 ∨ j = 1 ∨ j = 2 ∨ j = 3 by omega) with rfl | rfl | rfl | rfl
      · exact hs (Cond.eq (.elem (.field (.string "ValueTexts$Reader" 104) "java/lang/String" "value" "[B") (.int 0)) (.int 110)) (by decide +kernel)
      · exact hs (Cond.eq (.elem (.field (.string "ValueTexts$Reader" 104) "java/lang/String" "value" "[B") (.int 1)) (.int 117)) (by decide +kernel)
      · exact hs (Cond.eq (.elem (.field (.string "ValueTexts$Reader" 104) "java/lang/String" "value" "[B") (.int 2)) (.int 108)) (by decide +kernel)
      · exact hs (Cond.eq (.elem (.field (.string "ValueTexts$Reader" 104) "java/lang/String" "value" "[B") (.int 3)) (.int 108)) (by decide +kernel))
    (fun i j hi hj hij => absurd (show i = j by omega) hij) (fun a h => Nat.not_le.mpr h)
  refine ⟨adK 0, adV 0, ⟨fun i hi => ?_, fun i j hi hj _ => by omega⟩, vk_R.of (A := #[Value.ref b]) (hts (Cond.stringRef "ValueTexts$Reader" 104 "null") (List.mem_append_right _ (List.mem_of_getElem? (i := 260) (by decide +kernel)))) (h2 0 (by omega))⟩
  have e : i = 0 := by omega
  subst e
  exact h1.1 0 hi
set_option maxRecDepth 100000 in
theorem st_1 {s : State} {b : Nat} (hts : ∀ w ∈ lw_tbl, w.before #[Value.ref b] s = true) (hgv : (Jvm.Cond.and given_1 narrow_1).before #[Value.ref b] s = true) : ∃ a v : Nat, vk_S 1 [(lenS.getD 1 0)] [(bytS.getD 1 [])] (fun _ => a) (fun _ => v) (fun q : Nat => s.heap.size ≤ q) s s.heap ∧ vk_R (ownS.getD 1 "") (idxS.getD 1 0) (txS.getD 1 "") a s := by
  have hs := flat_of_before _ hgv
  obtain ⟨adK, adV, h1, h2⟩ := vk_Sof (args := #[Value.ref b]) (s := s) (N := 1) (tm := fun _ => (.string "ValueTexts$Reader" 110)) (len := [(lenS.getD 1 0)]) (byt := [(bytS.getD 1 [])]) (A := fun q : Nat => s.heap.size ≤ q)
    (fun i hi => by have e : i = 0 := by omega
                    subst e; decide)
    (fun i _ => hs (Cond.exactly (.string "ValueTexts$Reader" 110) "java/lang/String") (by decide +kernel)) (fun i _ => hs (Cond.eq (.field (.string "ValueTexts$Reader" 110) "java/lang/String" "coder" "B") (.int 0)) (by decide +kernel)) (fun i _ => hs (Cond.arrayOf (.field (.string "ValueTexts$Reader" 110) "java/lang/String" "value" "[B") .byte) (by decide +kernel))
    (fun i hi => by have e : i = 0 := by omega
                    subst e; exact hs (Cond.eq (.length (.field (.string "ValueTexts$Reader" 110) "java/lang/String" "value" "[B")) (.int 4)) (by decide +kernel))
    (fun i hi j hj => by
      have e : i = 0 := by omega
      subst e
      have hj2 : j < 4 := hj
      rcases (show j = 0 ∨ j = 1 ∨ j = 2 ∨ j = 3 by omega) with rfl | rfl | rfl | rfl
      · exact hs (Cond.eq (.elem (.field (.string "ValueTexts$Reader" 110) "java/lang/String" "value" "[B") (.int 0)) (.int 116)) (by decide +kernel)
      · exact hs (Cond.eq (.elem (.field (.string "ValueTexts$Reader" 110) "java/lang/String" "value" "[B") (.int 1)) (.int 114)) (by decide +kernel)
      · exact hs (Cond.eq (.elem (.field (.string "ValueTexts$Reader" 110) "java/lang/String" "value" "[B") (.int 2)) (.int 117)) (by decide +kernel)
      · exact hs (Cond.eq (.elem (.field (.string "ValueTexts$Reader" 110) "java/lang/String" "value" "[B") (.int 3)) (.int 101)) (by decide +kernel))
    (fun i j hi hj hij => absurd (show i = j by omega) hij) (fun a h => Nat.not_le.mpr h)
  refine ⟨adK 0, adV 0, ⟨fun i hi => ?_, fun i j hi hj _ => by omega⟩, vk_R.of (A := #[Value.ref b]) (hts (Cond.stringRef "ValueTexts$Reader" 110 "true") (List.mem_append_right _ (List.mem_of_getElem? (i := 313) (by decide +kernel)))) (h2 0 (by omega))⟩
  have e : i = 0 := by omega
  subst e
  exact h1.1 0 hi
set_option maxRecDepth 100000 in
theorem st_2 {s : State} {b : Nat} (hts : ∀ w ∈ lw_tbl, w.before #[Value.ref b] s = true) (hgv : (Jvm.Cond.and given_1 narrow_1).before #[Value.ref b] s = true) : ∃ a v : Nat, vk_S 1 [(lenS.getD 2 0)] [(bytS.getD 2 [])] (fun _ => a) (fun _ => v) (fun q : Nat => s.heap.size ≤ q) s s.heap ∧ vk_R (ownS.getD 2 "") (idxS.getD 2 0) (txS.getD 2 "") a s := by
  have hs := flat_of_before _ hgv
  obtain ⟨adK, adV, h1, h2⟩ := vk_Sof (args := #[Value.ref b]) (s := s) (N := 1) (tm := fun _ => (.string "ValueTexts$Reader" 112)) (len := [(lenS.getD 2 0)]) (byt := [(bytS.getD 2 [])]) (A := fun q : Nat => s.heap.size ≤ q)
    (fun i hi => by have e : i = 0 := by omega
                    subst e; decide)
    (fun i _ => hs (Cond.exactly (.string "ValueTexts$Reader" 112) "java/lang/String") (by decide +kernel)) (fun i _ => hs (Cond.eq (.field (.string "ValueTexts$Reader" 112) "java/lang/String" "coder" "B") (.int 0)) (by decide +kernel)) (fun i _ => hs (Cond.arrayOf (.field (.string "ValueTexts$Reader" 112) "java/lang/String" "value" "[B") .byte) (by decide +kernel))
    (fun i hi => by have e : i = 0 := by omega
                    subst e; exact hs (Cond.eq (.length (.field (.string "ValueTexts$Reader" 112) "java/lang/String" "value" "[B")) (.int 5)) (by decide +kernel))
    (fun i hi j hj => by
      have e : i = 0 := by omega
      subst e
      have hj2 : j < 5 := hj
      rcases (show j = 0 ∨ j = 1 ∨ j = 2 ∨ j = 3 ∨ j = 4 by omega) with rfl | rfl | rfl | rfl | rfl
      · exact hs (Cond.eq (.elem (.field (.string "ValueTexts$Reader" 112) "java/lang/String" "value" "[B") (.int 0)) (.int 102)) (by decide +kernel)
      · exact hs (Cond.eq (.elem (.field (.string "ValueTexts$Reader" 112) "java/lang/String" "value" "[B") (.int 1)) (.int 97)) (by decide +kernel)
      · exact hs (Cond.eq (.elem (.field (.string "ValueTexts$Reader" 112) "java/lang/String" "value" "[B") (.int 2)) (.int 108)) (by decide +kernel)
      · exact hs (Cond.eq (.elem (.field (.string "ValueTexts$Reader" 112) "java/lang/String" "value" "[B") (.int 3)) (.int 115)) (by decide +kernel)
      · exact hs (Cond.eq (.elem (.field (.string "ValueTexts$Reader" 112) "java/lang/String" "value" "[B") (.int 4)) (.int 101)) (by decide +kernel))
    (fun i j hi hj hij => absurd (show i = j by omega) hij) (fun a h => Nat.not_le.mpr h)
  refine ⟨adK 0, adV 0, ⟨fun i hi => ?_, fun i j hi hj _ => by omega⟩, vk_R.of (A := #[Value.ref b]) (hts (Cond.stringRef "ValueTexts$Reader" 112 "false") (List.mem_append_right _ (List.mem_of_getElem? (i := 314) (by decide +kernel)))) (h2 0 (by omega))⟩
  have e : i = 0 := by omega
  subst e
  exact h1.1 0 hi
set_option maxRecDepth 100000 in
theorem st_3 {s : State} {b : Nat} (hts : ∀ w ∈ lw_tbl, w.before #[Value.ref b] s = true) (hgv : (Jvm.Cond.and given_1 narrow_1).before #[Value.ref b] s = true) : ∃ a v : Nat, vk_S 1 [(lenS.getD 3 0)] [(bytS.getD 3 [])] (fun _ => a) (fun _ => v) (fun q : Nat => s.heap.size ≤ q) s s.heap ∧ vk_R (ownS.getD 3 "") (idxS.getD 3 0) (txS.getD 3 "") a s := by
  have hs := flat_of_before _ hgv
  obtain ⟨adK, adV, h1, h2⟩ := vk_Sof (args := #[Value.ref b]) (s := s) (N := 1) (tm := fun _ => (.string "ValueTexts$Writer" 29)) (len := [(lenS.getD 3 0)]) (byt := [(bytS.getD 3 [])]) (A := fun q : Nat => s.heap.size ≤ q)
    (fun i hi => by have e : i = 0 := by omega
                    subst e; decide)
    (fun i _ => hs (Cond.exactly (.string "ValueTexts$Writer" 29) "java/lang/String") (by decide +kernel)) (fun i _ => hs (Cond.eq (.field (.string "ValueTexts$Writer" 29) "java/lang/String" "coder" "B") (.int 0)) (by decide +kernel)) (fun i _ => hs (Cond.arrayOf (.field (.string "ValueTexts$Writer" 29) "java/lang/String" "value" "[B") .byte) (by decide +kernel))
    (fun i hi => by have e : i = 0 := by omega
                    subst e; exact hs (Cond.eq (.length (.field (.string "ValueTexts$Writer" 29) "java/lang/String" "value" "[B")) (.int 4)) (by decide +kernel))
    (fun i hi j hj => by
      have e : i = 0 := by omega
      subst e
      have hj2 : j < 4 := hj
      rcases (show j = 0 ∨ j = 1 ∨ j = 2 ∨ j = 3 by omega) with rfl | rfl | rfl | rfl
      · exact hs (Cond.eq (.elem (.field (.string "ValueTexts$Writer" 29) "java/lang/String" "value" "[B") (.int 0)) (.int 110)) (by decide +kernel)
      · exact hs (Cond.eq (.elem (.field (.string "ValueTexts$Writer" 29) "java/lang/String" "value" "[B") (.int 1)) (.int 117)) (by decide +kernel)
      · exact hs (Cond.eq (.elem (.field (.string "ValueTexts$Writer" 29) "java/lang/String" "value" "[B") (.int 2)) (.int 108)) (by decide +kernel)
      · exact hs (Cond.eq (.elem (.field (.string "ValueTexts$Writer" 29) "java/lang/String" "value" "[B") (.int 3)) (.int 108)) (by decide +kernel))
    (fun i j hi hj hij => absurd (show i = j by omega) hij) (fun a h => Nat.not_le.mpr h)
  refine ⟨adK 0, adV 0, ⟨fun i hi => ?_, fun i j hi hj _ => by omega⟩, vk_R.of (A := #[Value.ref b]) (hts (Cond.stringRef "ValueTexts$Writer" 29 "null") (List.mem_append_right _ (List.mem_of_getElem? (i := 342) (by decide +kernel)))) (h2 0 (by omega))⟩
  have e : i = 0 := by omega
  subst e
  exact h1.1 0 hi
set_option maxRecDepth 100000 in
theorem st_4 {s : State} {b : Nat} (hts : ∀ w ∈ lw_tbl, w.before #[Value.ref b] s = true) (hgv : (Jvm.Cond.and given_1 narrow_1).before #[Value.ref b] s = true) : ∃ a v : Nat, vk_S 1 [(lenS.getD 4 0)] [(bytS.getD 4 [])] (fun _ => a) (fun _ => v) (fun q : Nat => s.heap.size ≤ q) s s.heap ∧ vk_R (ownS.getD 4 "") (idxS.getD 4 0) (txS.getD 4 "") a s := by
  have hs := flat_of_before _ hgv
  obtain ⟨adK, adV, h1, h2⟩ := vk_Sof (args := #[Value.ref b]) (s := s) (N := 1) (tm := fun _ => (.string "ValueTexts$Writer" 37)) (len := [(lenS.getD 4 0)]) (byt := [(bytS.getD 4 [])]) (A := fun q : Nat => s.heap.size ≤ q)
    (fun i hi => by have e : i = 0 := by omega
                    subst e; decide)
    (fun i _ => hs (Cond.exactly (.string "ValueTexts$Writer" 37) "java/lang/String") (by decide +kernel)) (fun i _ => hs (Cond.eq (.field (.string "ValueTexts$Writer" 37) "java/lang/String" "coder" "B") (.int 0)) (by decide +kernel)) (fun i _ => hs (Cond.arrayOf (.field (.string "ValueTexts$Writer" 37) "java/lang/String" "value" "[B") .byte) (by decide +kernel))
    (fun i hi => by have e : i = 0 := by omega
                    subst e; exact hs (Cond.eq (.length (.field (.string "ValueTexts$Writer" 37) "java/lang/String" "value" "[B")) (.int 4)) (by decide +kernel))
    (fun i hi j hj => by
      have e : i = 0 := by omega
      subst e
      have hj2 : j < 4 := hj
      rcases (show j = 0 ∨ j = 1 ∨ j = 2 ∨ j = 3 by omega) with rfl | rfl | rfl | rfl
      · exact hs (Cond.eq (.elem (.field (.string "ValueTexts$Writer" 37) "java/lang/String" "value" "[B") (.int 0)) (.int 116)) (by decide +kernel)
      · exact hs (Cond.eq (.elem (.field (.string "ValueTexts$Writer" 37) "java/lang/String" "value" "[B") (.int 1)) (.int 114)) (by decide +kernel)
      · exact hs (Cond.eq (.elem (.field (.string "ValueTexts$Writer" 37) "java/lang/String" "value" "[B") (.int 2)) (.int 117)) (by decide +kernel)
      · exact hs (Cond.eq (.elem (.field (.string "ValueTexts$Writer" 37) "java/lang/String" "value" "[B") (.int 3)) (.int 101)) (by decide +kernel))
    (fun i j hi hj hij => absurd (show i = j by omega) hij) (fun a h => Nat.not_le.mpr h)
  refine ⟨adK 0, adV 0, ⟨fun i hi => ?_, fun i j hi hj _ => by omega⟩, vk_R.of (A := #[Value.ref b]) (hts (Cond.stringRef "ValueTexts$Writer" 37 "true") (List.mem_append_right _ (List.mem_of_getElem? (i := 349) (by decide +kernel)))) (h2 0 (by omega))⟩
  have e : i = 0 := by omega
  subst e
  exact h1.1 0 hi
set_option maxRecDepth 100000 in
theorem st_5 {s : State} {b : Nat} (hts : ∀ w ∈ lw_tbl, w.before #[Value.ref b] s = true) (hgv : (Jvm.Cond.and given_1 narrow_1).before #[Value.ref b] s = true) : ∃ a v : Nat, vk_S 1 [(lenS.getD 5 0)] [(bytS.getD 5 [])] (fun _ => a) (fun _ => v) (fun q : Nat => s.heap.size ≤ q) s s.heap ∧ vk_R (ownS.getD 5 "") (idxS.getD 5 0) (txS.getD 5 "") a s := by
  have hs := flat_of_before _ hgv
  obtain ⟨adK, adV, h1, h2⟩ := vk_Sof (args := #[Value.ref b]) (s := s) (N := 1) (tm := fun _ => (.string "ValueTexts$Writer" 39)) (len := [(lenS.getD 5 0)]) (byt := [(bytS.getD 5 [])]) (A := fun q : Nat => s.heap.size ≤ q)
    (fun i hi => by have e : i = 0 := by omega
                    subst e; decide)
    (fun i _ => hs (Cond.exactly (.string "ValueTexts$Writer" 39) "java/lang/String") (by decide +kernel)) (fun i _ => hs (Cond.eq (.field (.string "ValueTexts$Writer" 39) "java/lang/String" "coder" "B") (.int 0)) (by decide +kernel)) (fun i _ => hs (Cond.arrayOf (.field (.string "ValueTexts$Writer" 39) "java/lang/String" "value" "[B") .byte) (by decide +kernel))
    (fun i hi => by have e : i = 0 := by omega
                    subst e; exact hs (Cond.eq (.length (.field (.string "ValueTexts$Writer" 39) "java/lang/String" "value" "[B")) (.int 5)) (by decide +kernel))
    (fun i hi j hj => by
      have e : i = 0 := by omega
      subst e
      have hj2 : j < 5 := hj
      rcases (show j = 0 ∨ j = 1 ∨ j = 2 ∨ j = 3 ∨ j = 4 by omega) with rfl | rfl | rfl | rfl | rfl
      · exact hs (Cond.eq (.elem (.field (.string "ValueTexts$Writer" 39) "java/lang/String" "value" "[B") (.int 0)) (.int 102)) (by decide +kernel)
      · exact hs (Cond.eq (.elem (.field (.string "ValueTexts$Writer" 39) "java/lang/String" "value" "[B") (.int 1)) (.int 97)) (by decide +kernel)
      · exact hs (Cond.eq (.elem (.field (.string "ValueTexts$Writer" 39) "java/lang/String" "value" "[B") (.int 2)) (.int 108)) (by decide +kernel)
      · exact hs (Cond.eq (.elem (.field (.string "ValueTexts$Writer" 39) "java/lang/String" "value" "[B") (.int 3)) (.int 115)) (by decide +kernel)
      · exact hs (Cond.eq (.elem (.field (.string "ValueTexts$Writer" 39) "java/lang/String" "value" "[B") (.int 4)) (.int 101)) (by decide +kernel))
    (fun i j hi hj hij => absurd (show i = j by omega) hij) (fun a h => Nat.not_le.mpr h)
  refine ⟨adK 0, adV 0, ⟨fun i hi => ?_, fun i j hi hj _ => by omega⟩, vk_R.of (A := #[Value.ref b]) (hts (Cond.stringRef "ValueTexts$Writer" 39 "false") (List.mem_append_right _ (List.mem_of_getElem? (i := 350) (by decide +kernel)))) (h2 0 (by omega))⟩
  have e : i = 0 := by omega
  subst e
  exact h1.1 0 hi
set_option maxRecDepth 100000 in
theorem st_6 {s : State} {b : Nat} (hts : ∀ w ∈ lw_tbl, w.before #[Value.ref b] s = true) (hgv : (Jvm.Cond.and given_1 narrow_1).before #[Value.ref b] s = true) : ∃ a v : Nat, vk_S 1 [(lenS.getD 6 0)] [(bytS.getD 6 [])] (fun _ => a) (fun _ => v) (fun q : Nat => s.heap.size ≤ q) s s.heap ∧ vk_R (ownS.getD 6 "") (idxS.getD 6 0) (txS.getD 6 "") a s := by
  have hs := flat_of_before _ hgv
  obtain ⟨adK, adV, h1, h2⟩ := vk_Sof (args := #[Value.ref b]) (s := s) (N := 1) (tm := fun _ => (.string "ValueTexts$Writer" 92)) (len := [(lenS.getD 6 0)]) (byt := [(bytS.getD 6 [])]) (A := fun q : Nat => s.heap.size ≤ q)
    (fun i hi => by have e : i = 0 := by omega
                    subst e; decide)
    (fun i _ => hs (Cond.exactly (.string "ValueTexts$Writer" 92) "java/lang/String") (by decide +kernel)) (fun i _ => hs (Cond.eq (.field (.string "ValueTexts$Writer" 92) "java/lang/String" "coder" "B") (.int 0)) (by decide +kernel)) (fun i _ => hs (Cond.arrayOf (.field (.string "ValueTexts$Writer" 92) "java/lang/String" "value" "[B") .byte) (by decide +kernel))
    (fun i hi => by have e : i = 0 := by omega
                    subst e; exact hs (Cond.eq (.length (.field (.string "ValueTexts$Writer" 92) "java/lang/String" "value" "[B")) (.int 2)) (by decide +kernel))
    (fun i hi j hj => by
      have e : i = 0 := by omega
      subst e
      have hj2 : j < 2 := hj
      rcases (show j = 0 ∨ j = 1 by omega) with rfl | rfl
      · exact hs (Cond.eq (.elem (.field (.string "ValueTexts$Writer" 92) "java/lang/String" "value" "[B") (.int 0)) (.int 60)) (by decide +kernel)
      · exact hs (Cond.eq (.elem (.field (.string "ValueTexts$Writer" 92) "java/lang/String" "value" "[B") (.int 1)) (.int 60)) (by decide +kernel))
    (fun i j hi hj hij => absurd (show i = j by omega) hij) (fun a h => Nat.not_le.mpr h)
  refine ⟨adK 0, adV 0, ⟨fun i hi => ?_, fun i j hi hj _ => by omega⟩, vk_R.of (A := #[Value.ref b]) (hts (Cond.stringRef "ValueTexts$Writer" 92 "<<") (List.mem_append_right _ (List.mem_of_getElem? (i := 386) (by decide +kernel)))) (h2 0 (by omega))⟩
  have e : i = 0 := by omega
  subst e
  exact h1.1 0 hi
set_option maxRecDepth 100000 in
theorem st_7 {s : State} {b : Nat} (hts : ∀ w ∈ lw_tbl, w.before #[Value.ref b] s = true) (hgv : (Jvm.Cond.and given_1 narrow_1).before #[Value.ref b] s = true) : ∃ a v : Nat, vk_S 1 [(lenS.getD 7 0)] [(bytS.getD 7 [])] (fun _ => a) (fun _ => v) (fun q : Nat => s.heap.size ≤ q) s s.heap ∧ vk_R (ownS.getD 7 "") (idxS.getD 7 0) (txS.getD 7 "") a s := by
  have hs := flat_of_before _ hgv
  obtain ⟨adK, adV, h1, h2⟩ := vk_Sof (args := #[Value.ref b]) (s := s) (N := 1) (tm := fun _ => (.string "ValueTexts$Writer" 94)) (len := [(lenS.getD 7 0)]) (byt := [(bytS.getD 7 [])]) (A := fun q : Nat => s.heap.size ≤ q)
    (fun i hi => by have e : i = 0 := by omega
                    subst e; decide)
    (fun i _ => hs (Cond.exactly (.string "ValueTexts$Writer" 94) "java/lang/String") (by decide +kernel)) (fun i _ => hs (Cond.eq (.field (.string "ValueTexts$Writer" 94) "java/lang/String" "coder" "B") (.int 0)) (by decide +kernel)) (fun i _ => hs (Cond.arrayOf (.field (.string "ValueTexts$Writer" 94) "java/lang/String" "value" "[B") .byte) (by decide +kernel))
    (fun i hi => by have e : i = 0 := by omega
                    subst e; exact hs (Cond.eq (.length (.field (.string "ValueTexts$Writer" 94) "java/lang/String" "value" "[B")) (.int 2)) (by decide +kernel))
    (fun i hi j hj => by
      have e : i = 0 := by omega
      subst e
      have hj2 : j < 2 := hj
      rcases (show j = 0 ∨ j = 1 by omega) with rfl | rfl
      · exact hs (Cond.eq (.elem (.field (.string "ValueTexts$Writer" 94) "java/lang/String" "value" "[B") (.int 0)) (.int 62)) (by decide +kernel)
      · exact hs (Cond.eq (.elem (.field (.string "ValueTexts$Writer" 94) "java/lang/String" "value" "[B") (.int 1)) (.int 62)) (by decide +kernel))
    (fun i j hi hj hij => absurd (show i = j by omega) hij) (fun a h => Nat.not_le.mpr h)
  refine ⟨adK 0, adV 0, ⟨fun i hi => ?_, fun i j hi hj _ => by omega⟩, vk_R.of (A := #[Value.ref b]) (hts (Cond.stringRef "ValueTexts$Writer" 94 ">>") (List.mem_append_right _ (List.mem_of_getElem? (i := 387) (by decide +kernel)))) (h2 0 (by omega))⟩
  have e : i = 0 := by omega
  subst e
  exact h1.1 0 hi
set_option maxRecDepth 100000 in
theorem st_8 {s : State} {b : Nat} (hts : ∀ w ∈ lw_tbl, w.before #[Value.ref b] s = true) (hgv : (Jvm.Cond.and given_1 narrow_1).before #[Value.ref b] s = true) : ∃ a v : Nat, vk_S 1 [(lenS.getD 8 0)] [(bytS.getD 8 [])] (fun _ => a) (fun _ => v) (fun q : Nat => s.heap.size ≤ q) s s.heap ∧ vk_R (ownS.getD 8 "") (idxS.getD 8 0) (txS.getD 8 "") a s := by
  have hs := flat_of_before _ hgv
  obtain ⟨adK, adV, h1, h2⟩ := vk_Sof (args := #[Value.ref b]) (s := s) (N := 1) (tm := fun _ => (.string "ValueTexts$Writer" 84)) (len := [(lenS.getD 8 0)]) (byt := [(bytS.getD 8 [])]) (A := fun q : Nat => s.heap.size ≤ q)
    (fun i hi => by have e : i = 0 := by omega
                    subst e; decide)
    (fun i _ => hs (Cond.exactly (.string "ValueTexts$Writer" 84) "java/lang/String") (by decide +kernel)) (fun i _ => hs (Cond.eq (.field (.string "ValueTexts$Writer" 84) "java/lang/String" "coder" "B") (.int 0)) (by decide +kernel)) (fun i _ => hs (Cond.arrayOf (.field (.string "ValueTexts$Writer" 84) "java/lang/String" "value" "[B") .byte) (by decide +kernel))
    (fun i hi => by have e : i = 0 := by omega
                    subst e; exact hs (Cond.eq (.length (.field (.string "ValueTexts$Writer" 84) "java/lang/String" "value" "[B")) (.int 2)) (by decide +kernel))
    (fun i hi j hj => by
      have e : i = 0 := by omega
      subst e
      have hj2 : j < 2 := hj
      rcases (show j = 0 ∨ j = 1 by omega) with rfl | rfl
      · exact hs (Cond.eq (.elem (.field (.string "ValueTexts$Writer" 84) "java/lang/String" "value" "[B") (.int 0)) (.int 32)) (by decide +kernel)
      · exact hs (Cond.eq (.elem (.field (.string "ValueTexts$Writer" 84) "java/lang/String" "value" "[B") (.int 1)) (.int 82)) (by decide +kernel))
    (fun i j hi hj hij => absurd (show i = j by omega) hij) (fun a h => Nat.not_le.mpr h)
  refine ⟨adK 0, adV 0, ⟨fun i hi => ?_, fun i j hi hj _ => by omega⟩, vk_R.of (A := #[Value.ref b]) (hts (Cond.stringRef "ValueTexts$Writer" 84 " R") (List.mem_append_right _ (List.mem_of_getElem? (i := 392) (by decide +kernel)))) (h2 0 (by omega))⟩
  have e : i = 0 := by omega
  subst e
  exact h1.1 0 hi
set_option maxRecDepth 100000 in
theorem st_9 {s : State} {b : Nat} (hts : ∀ w ∈ lw_tbl, w.before #[Value.ref b] s = true) (hgv : (Jvm.Cond.and given_1 narrow_1).before #[Value.ref b] s = true) : ∃ a v : Nat, vk_S 1 [(lenS.getD 9 0)] [(bytS.getD 9 [])] (fun _ => a) (fun _ => v) (fun q : Nat => s.heap.size ≤ q) s s.heap ∧ vk_R (ownS.getD 9 "") (idxS.getD 9 0) (txS.getD 9 "") a s := by
  have hs := flat_of_before _ hgv
  obtain ⟨adK, adV, h1, h2⟩ := vk_Sof (args := #[Value.ref b]) (s := s) (N := 1) (tm := fun _ => (.string "ValueTextsModel" 80)) (len := [(lenS.getD 9 0)]) (byt := [(bytS.getD 9 [])]) (A := fun q : Nat => s.heap.size ≤ q)
    (fun i hi => by have e : i = 0 := by omega
                    subst e; decide)
    (fun i _ => hs (Cond.exactly (.string "ValueTextsModel" 80) "java/lang/String") (by decide +kernel)) (fun i _ => hs (Cond.eq (.field (.string "ValueTextsModel" 80) "java/lang/String" "coder" "B") (.int 0)) (by decide +kernel)) (fun i _ => hs (Cond.arrayOf (.field (.string "ValueTextsModel" 80) "java/lang/String" "value" "[B") .byte) (by decide +kernel))
    (fun i hi => by have e : i = 0 := by omega
                    subst e; exact hs (Cond.eq (.length (.field (.string "ValueTextsModel" 80) "java/lang/String" "value" "[B")) (.int 4)) (by decide +kernel))
    (fun i hi j hj => by
      have e : i = 0 := by omega
      subst e
      have hj2 : j < 4 := hj
      rcases (show j = 0 ∨ j = 1 ∨ j = 2 ∨ j = 3 by omega) with rfl | rfl | rfl | rfl
      · exact hs (Cond.eq (.elem (.field (.string "ValueTextsModel" 80) "java/lang/String" "value" "[B") (.int 0)) (.int 110)) (by decide +kernel)
      · exact hs (Cond.eq (.elem (.field (.string "ValueTextsModel" 80) "java/lang/String" "value" "[B") (.int 1)) (.int 117)) (by decide +kernel)
      · exact hs (Cond.eq (.elem (.field (.string "ValueTextsModel" 80) "java/lang/String" "value" "[B") (.int 2)) (.int 108)) (by decide +kernel)
      · exact hs (Cond.eq (.elem (.field (.string "ValueTextsModel" 80) "java/lang/String" "value" "[B") (.int 3)) (.int 108)) (by decide +kernel))
    (fun i j hi hj hij => absurd (show i = j by omega) hij) (fun a h => Nat.not_le.mpr h)
  refine ⟨adK 0, adV 0, ⟨fun i hi => ?_, fun i j hi hj _ => by omega⟩, vk_R.of (A := #[Value.ref b]) (hts (Cond.stringRef "ValueTextsModel" 80 "null") (List.mem_append_right _ (List.mem_of_getElem? (i := 639) (by decide +kernel)))) (h2 0 (by omega))⟩
  have e : i = 0 := by omega
  subst e
  exact h1.1 0 hi
set_option maxRecDepth 100000 in
theorem st_10 {s : State} {b : Nat} (hts : ∀ w ∈ lw_tbl, w.before #[Value.ref b] s = true) (hgv : (Jvm.Cond.and given_1 narrow_1).before #[Value.ref b] s = true) : ∃ a v : Nat, vk_S 1 [(lenS.getD 10 0)] [(bytS.getD 10 [])] (fun _ => a) (fun _ => v) (fun q : Nat => s.heap.size ≤ q) s s.heap ∧ vk_R (ownS.getD 10 "") (idxS.getD 10 0) (txS.getD 10 "") a s := by
  have hs := flat_of_before _ hgv
  obtain ⟨adK, adV, h1, h2⟩ := vk_Sof (args := #[Value.ref b]) (s := s) (N := 1) (tm := fun _ => (.string "ValueTextsModel" 88)) (len := [(lenS.getD 10 0)]) (byt := [(bytS.getD 10 [])]) (A := fun q : Nat => s.heap.size ≤ q)
    (fun i hi => by have e : i = 0 := by omega
                    subst e; decide)
    (fun i _ => hs (Cond.exactly (.string "ValueTextsModel" 88) "java/lang/String") (by decide +kernel)) (fun i _ => hs (Cond.eq (.field (.string "ValueTextsModel" 88) "java/lang/String" "coder" "B") (.int 0)) (by decide +kernel)) (fun i _ => hs (Cond.arrayOf (.field (.string "ValueTextsModel" 88) "java/lang/String" "value" "[B") .byte) (by decide +kernel))
    (fun i hi => by have e : i = 0 := by omega
                    subst e; exact hs (Cond.eq (.length (.field (.string "ValueTextsModel" 88) "java/lang/String" "value" "[B")) (.int 4)) (by decide +kernel))
    (fun i hi j hj => by
      have e : i = 0 := by omega
      subst e
      have hj2 : j < 4 := hj
      rcases (show j = 0 ∨ j = 1 ∨ j = 2 ∨ j = 3 by omega) with rfl | rfl | rfl | rfl
      · exact hs (Cond.eq (.elem (.field (.string "ValueTextsModel" 88) "java/lang/String" "value" "[B") (.int 0)) (.int 116)) (by decide +kernel)
      · exact hs (Cond.eq (.elem (.field (.string "ValueTextsModel" 88) "java/lang/String" "value" "[B") (.int 1)) (.int 114)) (by decide +kernel)
      · exact hs (Cond.eq (.elem (.field (.string "ValueTextsModel" 88) "java/lang/String" "value" "[B") (.int 2)) (.int 117)) (by decide +kernel)
      · exact hs (Cond.eq (.elem (.field (.string "ValueTextsModel" 88) "java/lang/String" "value" "[B") (.int 3)) (.int 101)) (by decide +kernel))
    (fun i j hi hj hij => absurd (show i = j by omega) hij) (fun a h => Nat.not_le.mpr h)
  refine ⟨adK 0, adV 0, ⟨fun i hi => ?_, fun i j hi hj _ => by omega⟩, vk_R.of (A := #[Value.ref b]) (hts (Cond.stringRef "ValueTextsModel" 88 "true") (List.mem_append_right _ (List.mem_of_getElem? (i := 650) (by decide +kernel)))) (h2 0 (by omega))⟩
  have e : i = 0 := by omega
  subst e
  exact h1.1 0 hi
set_option maxRecDepth 100000 in
theorem st_11 {s : State} {b : Nat} (hts : ∀ w ∈ lw_tbl, w.before #[Value.ref b] s = true) (hgv : (Jvm.Cond.and given_1 narrow_1).before #[Value.ref b] s = true) : ∃ a v : Nat, vk_S 1 [(lenS.getD 11 0)] [(bytS.getD 11 [])] (fun _ => a) (fun _ => v) (fun q : Nat => s.heap.size ≤ q) s s.heap ∧ vk_R (ownS.getD 11 "") (idxS.getD 11 0) (txS.getD 11 "") a s := by
  have hs := flat_of_before _ hgv
  obtain ⟨adK, adV, h1, h2⟩ := vk_Sof (args := #[Value.ref b]) (s := s) (N := 1) (tm := fun _ => (.string "ValueTextsModel" 90)) (len := [(lenS.getD 11 0)]) (byt := [(bytS.getD 11 [])]) (A := fun q : Nat => s.heap.size ≤ q)
    (fun i hi => by have e : i = 0 := by omega
                    subst e; decide)
    (fun i _ => hs (Cond.exactly (.string "ValueTextsModel" 90) "java/lang/String") (by decide +kernel)) (fun i _ => hs (Cond.eq (.field (.string "ValueTextsModel" 90) "java/lang/String" "coder" "B") (.int 0)) (by decide +kernel)) (fun i _ => hs (Cond.arrayOf (.field (.string "ValueTextsModel" 90) "java/lang/String" "value" "[B") .byte) (by decide +kernel))
    (fun i hi => by have e : i = 0 := by omega
                    subst e; exact hs (Cond.eq (.length (.field (.string "ValueTextsModel" 90) "java/lang/String" "value" "[B")) (.int 5)) (by decide +kernel))
    (fun i hi j hj => by
      have e : i = 0 := by omega
      subst e
      have hj2 : j < 5 := hj
      rcases (show j = 0 ∨ j = 1 ∨ j = 2 ∨ j = 3 ∨ j = 4 by omega) with rfl | rfl | rfl | rfl | rfl
      · exact hs (Cond.eq (.elem (.field (.string "ValueTextsModel" 90) "java/lang/String" "value" "[B") (.int 0)) (.int 102)) (by decide +kernel)
      · exact hs (Cond.eq (.elem (.field (.string "ValueTextsModel" 90) "java/lang/String" "value" "[B") (.int 1)) (.int 97)) (by decide +kernel)
      · exact hs (Cond.eq (.elem (.field (.string "ValueTextsModel" 90) "java/lang/String" "value" "[B") (.int 2)) (.int 108)) (by decide +kernel)
      · exact hs (Cond.eq (.elem (.field (.string "ValueTextsModel" 90) "java/lang/String" "value" "[B") (.int 3)) (.int 115)) (by decide +kernel)
      · exact hs (Cond.eq (.elem (.field (.string "ValueTextsModel" 90) "java/lang/String" "value" "[B") (.int 4)) (.int 101)) (by decide +kernel))
    (fun i j hi hj hij => absurd (show i = j by omega) hij) (fun a h => Nat.not_le.mpr h)
  refine ⟨adK 0, adV 0, ⟨fun i hi => ?_, fun i j hi hj _ => by omega⟩, vk_R.of (A := #[Value.ref b]) (hts (Cond.stringRef "ValueTextsModel" 90 "false") (List.mem_append_right _ (List.mem_of_getElem? (i := 651) (by decide +kernel)))) (h2 0 (by omega))⟩
  have e : i = 0 := by omega
  subst e
  exact h1.1 0 hi
set_option maxRecDepth 100000 in
theorem st_12 {s : State} {b : Nat} (hts : ∀ w ∈ lw_tbl, w.before #[Value.ref b] s = true) (hgv : (Jvm.Cond.and given_1 narrow_1).before #[Value.ref b] s = true) : ∃ a v : Nat, vk_S 1 [(lenS.getD 12 0)] [(bytS.getD 12 [])] (fun _ => a) (fun _ => v) (fun q : Nat => s.heap.size ≤ q) s s.heap ∧ vk_R (ownS.getD 12 "") (idxS.getD 12 0) (txS.getD 12 "") a s := by
  have hs := flat_of_before _ hgv
  obtain ⟨adK, adV, h1, h2⟩ := vk_Sof (args := #[Value.ref b]) (s := s) (N := 1) (tm := fun _ => (.string "ValueTextsModel" 101)) (len := [(lenS.getD 12 0)]) (byt := [(bytS.getD 12 [])]) (A := fun q : Nat => s.heap.size ≤ q)
    (fun i hi => by have e : i = 0 := by omega
                    subst e; decide)
    (fun i _ => hs (Cond.exactly (.string "ValueTextsModel" 101) "java/lang/String") (by decide +kernel)) (fun i _ => hs (Cond.eq (.field (.string "ValueTextsModel" 101) "java/lang/String" "coder" "B") (.int 0)) (by decide +kernel)) (fun i _ => hs (Cond.arrayOf (.field (.string "ValueTextsModel" 101) "java/lang/String" "value" "[B") .byte) (by decide +kernel))
    (fun i hi => by have e : i = 0 := by omega
                    subst e; exact hs (Cond.eq (.length (.field (.string "ValueTextsModel" 101) "java/lang/String" "value" "[B")) (.int 1)) (by decide +kernel))
    (fun i hi j hj => by
      have e : i = 0 := by omega
      subst e
      have hj2 : j < 1 := hj
      have e2 : j = 0 := by omega
      subst e2
      exact hs (Cond.eq (.elem (.field (.string "ValueTextsModel" 101) "java/lang/String" "value" "[B") (.int 0)) (.int 82)) (by decide +kernel))
    (fun i j hi hj hij => absurd (show i = j by omega) hij) (fun a h => Nat.not_le.mpr h)
  refine ⟨adK 0, adV 0, ⟨fun i hi => ?_, fun i j hi hj _ => by omega⟩, vk_R.of (A := #[Value.ref b]) (hts (Cond.stringRef "ValueTextsModel" 101 "R") (List.mem_append_right _ (List.mem_of_getElem? (i := 665) (by decide +kernel)))) (h2 0 (by omega))⟩
  have e : i = 0 := by omega
  subst e
  exact h1.1 0 hi
set_option maxRecDepth 100000 in
theorem st_13 {s : State} {b : Nat} (hts : ∀ w ∈ lw_tbl, w.before #[Value.ref b] s = true) (hgv : (Jvm.Cond.and given_1 narrow_1).before #[Value.ref b] s = true) : ∃ a v : Nat, vk_S 1 [(lenS.getD 13 0)] [(bytS.getD 13 [])] (fun _ => a) (fun _ => v) (fun q : Nat => s.heap.size ≤ q) s s.heap ∧ vk_R (ownS.getD 13 "") (idxS.getD 13 0) (txS.getD 13 "") a s := by
  have hs := flat_of_before _ hgv
  obtain ⟨adK, adV, h1, h2⟩ := vk_Sof (args := #[Value.ref b]) (s := s) (N := 1) (tm := fun _ => (.string "ValueTextsModel" 234)) (len := [(lenS.getD 13 0)]) (byt := [(bytS.getD 13 [])]) (A := fun q : Nat => s.heap.size ≤ q)
    (fun i hi => by have e : i = 0 := by omega
                    subst e; decide)
    (fun i _ => hs (Cond.exactly (.string "ValueTextsModel" 234) "java/lang/String") (by decide +kernel)) (fun i _ => hs (Cond.eq (.field (.string "ValueTextsModel" 234) "java/lang/String" "coder" "B") (.int 0)) (by decide +kernel)) (fun i _ => hs (Cond.arrayOf (.field (.string "ValueTextsModel" 234) "java/lang/String" "value" "[B") .byte) (by decide +kernel))
    (fun i hi => by have e : i = 0 := by omega
                    subst e; exact hs (Cond.eq (.length (.field (.string "ValueTextsModel" 234) "java/lang/String" "value" "[B")) (.int 2)) (by decide +kernel))
    (fun i hi j hj => by
      have e : i = 0 := by omega
      subst e
      have hj2 : j < 2 := hj
      rcases (show j = 0 ∨ j = 1 by omega) with rfl | rfl
      · exact hs (Cond.eq (.elem (.field (.string "ValueTextsModel" 234) "java/lang/String" "value" "[B") (.int 0)) (.int 32)) (by decide +kernel)
      · exact hs (Cond.eq (.elem (.field (.string "ValueTextsModel" 234) "java/lang/String" "value" "[B") (.int 1)) (.int 82)) (by decide +kernel))
    (fun i j hi hj hij => absurd (show i = j by omega) hij) (fun a h => Nat.not_le.mpr h)
  refine ⟨adK 0, adV 0, ⟨fun i hi => ?_, fun i j hi hj _ => by omega⟩, vk_R.of (A := #[Value.ref b]) (hts (Cond.stringRef "ValueTextsModel" 234 " R") (List.mem_append_right _ (List.mem_of_getElem? (i := 739) (by decide +kernel)))) (h2 0 (by omega))⟩
  have e : i = 0 := by omega
  subst e
  exact h1.1 0 hi
set_option maxRecDepth 100000 in
theorem st_14 {s : State} {b : Nat} (hts : ∀ w ∈ lw_tbl, w.before #[Value.ref b] s = true) (hgv : (Jvm.Cond.and given_1 narrow_1).before #[Value.ref b] s = true) : ∃ a v : Nat, vk_S 1 [(lenS.getD 14 0)] [(bytS.getD 14 [])] (fun _ => a) (fun _ => v) (fun q : Nat => s.heap.size ≤ q) s s.heap ∧ vk_R (ownS.getD 14 "") (idxS.getD 14 0) (txS.getD 14 "") a s := by
  have hs := flat_of_before _ hgv
  obtain ⟨adK, adV, h1, h2⟩ := vk_Sof (args := #[Value.ref b]) (s := s) (N := 1) (tm := fun _ => (.string "ValueTextsModel" 236)) (len := [(lenS.getD 14 0)]) (byt := [(bytS.getD 14 [])]) (A := fun q : Nat => s.heap.size ≤ q)
    (fun i hi => by have e : i = 0 := by omega
                    subst e; decide)
    (fun i _ => hs (Cond.exactly (.string "ValueTextsModel" 236) "java/lang/String") (by decide +kernel)) (fun i _ => hs (Cond.eq (.field (.string "ValueTextsModel" 236) "java/lang/String" "coder" "B") (.int 0)) (by decide +kernel)) (fun i _ => hs (Cond.arrayOf (.field (.string "ValueTextsModel" 236) "java/lang/String" "value" "[B") .byte) (by decide +kernel))
    (fun i hi => by have e : i = 0 := by omega
                    subst e; exact hs (Cond.eq (.length (.field (.string "ValueTextsModel" 236) "java/lang/String" "value" "[B")) (.int 1)) (by decide +kernel))
    (fun i hi j hj => by
      have e : i = 0 := by omega
      subst e
      have hj2 : j < 1 := hj
      have e2 : j = 0 := by omega
      subst e2
      exact hs (Cond.eq (.elem (.field (.string "ValueTextsModel" 236) "java/lang/String" "value" "[B") (.int 0)) (.int 91)) (by decide +kernel))
    (fun i j hi hj hij => absurd (show i = j by omega) hij) (fun a h => Nat.not_le.mpr h)
  refine ⟨adK 0, adV 0, ⟨fun i hi => ?_, fun i j hi hj _ => by omega⟩, vk_R.of (A := #[Value.ref b]) (hts (Cond.stringRef "ValueTextsModel" 236 "[") (List.mem_append_right _ (List.mem_of_getElem? (i := 740) (by decide +kernel)))) (h2 0 (by omega))⟩
  have e : i = 0 := by omega
  subst e
  exact h1.1 0 hi
set_option maxRecDepth 100000 in
theorem st_15 {s : State} {b : Nat} (hts : ∀ w ∈ lw_tbl, w.before #[Value.ref b] s = true) (hgv : (Jvm.Cond.and given_1 narrow_1).before #[Value.ref b] s = true) : ∃ a v : Nat, vk_S 1 [(lenS.getD 15 0)] [(bytS.getD 15 [])] (fun _ => a) (fun _ => v) (fun q : Nat => s.heap.size ≤ q) s s.heap ∧ vk_R (ownS.getD 15 "") (idxS.getD 15 0) (txS.getD 15 "") a s := by
  have hs := flat_of_before _ hgv
  obtain ⟨adK, adV, h1, h2⟩ := vk_Sof (args := #[Value.ref b]) (s := s) (N := 1) (tm := fun _ => (.string "ValueTextsModel" 238)) (len := [(lenS.getD 15 0)]) (byt := [(bytS.getD 15 [])]) (A := fun q : Nat => s.heap.size ≤ q)
    (fun i hi => by have e : i = 0 := by omega
                    subst e; decide)
    (fun i _ => hs (Cond.exactly (.string "ValueTextsModel" 238) "java/lang/String") (by decide +kernel)) (fun i _ => hs (Cond.eq (.field (.string "ValueTextsModel" 238) "java/lang/String" "coder" "B") (.int 0)) (by decide +kernel)) (fun i _ => hs (Cond.arrayOf (.field (.string "ValueTextsModel" 238) "java/lang/String" "value" "[B") .byte) (by decide +kernel))
    (fun i hi => by have e : i = 0 := by omega
                    subst e; exact hs (Cond.eq (.length (.field (.string "ValueTextsModel" 238) "java/lang/String" "value" "[B")) (.int 2)) (by decide +kernel))
    (fun i hi j hj => by
      have e : i = 0 := by omega
      subst e
      have hj2 : j < 2 := hj
      rcases (show j = 0 ∨ j = 1 by omega) with rfl | rfl
      · exact hs (Cond.eq (.elem (.field (.string "ValueTextsModel" 238) "java/lang/String" "value" "[B") (.int 0)) (.int 60)) (by decide +kernel)
      · exact hs (Cond.eq (.elem (.field (.string "ValueTextsModel" 238) "java/lang/String" "value" "[B") (.int 1)) (.int 60)) (by decide +kernel))
    (fun i j hi hj hij => absurd (show i = j by omega) hij) (fun a h => Nat.not_le.mpr h)
  refine ⟨adK 0, adV 0, ⟨fun i hi => ?_, fun i j hi hj _ => by omega⟩, vk_R.of (A := #[Value.ref b]) (hts (Cond.stringRef "ValueTextsModel" 238 "<<") (List.mem_append_right _ (List.mem_of_getElem? (i := 741) (by decide +kernel)))) (h2 0 (by omega))⟩
  have e : i = 0 := by omega
  subst e
  exact h1.1 0 hi
set_option maxRecDepth 100000 in
theorem st_16 {s : State} {b : Nat} (hts : ∀ w ∈ lw_tbl, w.before #[Value.ref b] s = true) (hgv : (Jvm.Cond.and given_1 narrow_1).before #[Value.ref b] s = true) : ∃ a v : Nat, vk_S 1 [(lenS.getD 16 0)] [(bytS.getD 16 [])] (fun _ => a) (fun _ => v) (fun q : Nat => s.heap.size ≤ q) s s.heap ∧ vk_R (ownS.getD 16 "") (idxS.getD 16 0) (txS.getD 16 "") a s := by
  have hs := flat_of_before _ hgv
  obtain ⟨adK, adV, h1, h2⟩ := vk_Sof (args := #[Value.ref b]) (s := s) (N := 1) (tm := fun _ => (.string "ValueTextsModel" 244)) (len := [(lenS.getD 16 0)]) (byt := [(bytS.getD 16 [])]) (A := fun q : Nat => s.heap.size ≤ q)
    (fun i hi => by have e : i = 0 := by omega
                    subst e; decide)
    (fun i _ => hs (Cond.exactly (.string "ValueTextsModel" 244) "java/lang/String") (by decide +kernel)) (fun i _ => hs (Cond.eq (.field (.string "ValueTextsModel" 244) "java/lang/String" "coder" "B") (.int 0)) (by decide +kernel)) (fun i _ => hs (Cond.arrayOf (.field (.string "ValueTextsModel" 244) "java/lang/String" "value" "[B") .byte) (by decide +kernel))
    (fun i hi => by have e : i = 0 := by omega
                    subst e; exact hs (Cond.eq (.length (.field (.string "ValueTextsModel" 244) "java/lang/String" "value" "[B")) (.int 1)) (by decide +kernel))
    (fun i hi j hj => by
      have e : i = 0 := by omega
      subst e
      have hj2 : j < 1 := hj
      have e2 : j = 0 := by omega
      subst e2
      exact hs (Cond.eq (.elem (.field (.string "ValueTextsModel" 244) "java/lang/String" "value" "[B") (.int 0)) (.int 93)) (by decide +kernel))
    (fun i j hi hj hij => absurd (show i = j by omega) hij) (fun a h => Nat.not_le.mpr h)
  refine ⟨adK 0, adV 0, ⟨fun i hi => ?_, fun i j hi hj _ => by omega⟩, vk_R.of (A := #[Value.ref b]) (hts (Cond.stringRef "ValueTextsModel" 244 "]") (List.mem_append_right _ (List.mem_of_getElem? (i := 742) (by decide +kernel)))) (h2 0 (by omega))⟩
  have e : i = 0 := by omega
  subst e
  exact h1.1 0 hi
set_option maxRecDepth 100000 in
theorem st_17 {s : State} {b : Nat} (hts : ∀ w ∈ lw_tbl, w.before #[Value.ref b] s = true) (hgv : (Jvm.Cond.and given_1 narrow_1).before #[Value.ref b] s = true) : ∃ a v : Nat, vk_S 1 [(lenS.getD 17 0)] [(bytS.getD 17 [])] (fun _ => a) (fun _ => v) (fun q : Nat => s.heap.size ≤ q) s s.heap ∧ vk_R (ownS.getD 17 "") (idxS.getD 17 0) (txS.getD 17 "") a s := by
  have hs := flat_of_before _ hgv
  obtain ⟨adK, adV, h1, h2⟩ := vk_Sof (args := #[Value.ref b]) (s := s) (N := 1) (tm := fun _ => (.string "ValueTextsModel" 246)) (len := [(lenS.getD 17 0)]) (byt := [(bytS.getD 17 [])]) (A := fun q : Nat => s.heap.size ≤ q)
    (fun i hi => by have e : i = 0 := by omega
                    subst e; decide)
    (fun i _ => hs (Cond.exactly (.string "ValueTextsModel" 246) "java/lang/String") (by decide +kernel)) (fun i _ => hs (Cond.eq (.field (.string "ValueTextsModel" 246) "java/lang/String" "coder" "B") (.int 0)) (by decide +kernel)) (fun i _ => hs (Cond.arrayOf (.field (.string "ValueTextsModel" 246) "java/lang/String" "value" "[B") .byte) (by decide +kernel))
    (fun i hi => by have e : i = 0 := by omega
                    subst e; exact hs (Cond.eq (.length (.field (.string "ValueTextsModel" 246) "java/lang/String" "value" "[B")) (.int 2)) (by decide +kernel))
    (fun i hi j hj => by
      have e : i = 0 := by omega
      subst e
      have hj2 : j < 2 := hj
      rcases (show j = 0 ∨ j = 1 by omega) with rfl | rfl
      · exact hs (Cond.eq (.elem (.field (.string "ValueTextsModel" 246) "java/lang/String" "value" "[B") (.int 0)) (.int 62)) (by decide +kernel)
      · exact hs (Cond.eq (.elem (.field (.string "ValueTextsModel" 246) "java/lang/String" "value" "[B") (.int 1)) (.int 62)) (by decide +kernel))
    (fun i j hi hj hij => absurd (show i = j by omega) hij) (fun a h => Nat.not_le.mpr h)
  refine ⟨adK 0, adV 0, ⟨fun i hi => ?_, fun i j hi hj _ => by omega⟩, vk_R.of (A := #[Value.ref b]) (hts (Cond.stringRef "ValueTextsModel" 246 ">>") (List.mem_append_right _ (List.mem_of_getElem? (i := 743) (by decide +kernel)))) (h2 0 (by omega))⟩
  have e : i = 0 := by omega
  subst e
  exact h1.1 0 hi
set_option maxRecDepth 100000 in
set_option maxHeartbeats 4000000 in
theorem law_KE {s : State} {b : Nat} (hts : ∀ w ∈ lw_tbl, w.before #[Value.ref b] s = true) (hgv : (Jvm.Cond.and given_1 narrow_1).before #[Value.ref b] s = true) : ∃ G : GG, KE G (fun q : Nat => s.heap.size ≤ q) s := by
  have hA : ∀ a : Nat, a < s.heap.size → ¬ (fun q : Nat => s.heap.size ≤ q) a := fun a h => Nat.not_le.mpr h
  have hw : ∀ w ∈ bigW, w.before #[Value.ref b] s = true := fun w h => hts w (List.mem_filter.mp h).1
  have hs := flat_of_before _ hgv
  obtain ⟨c0, iS0, hKn0⟩ := u_known (C := R_V) (T := F_V) (N := 5) (n := 5) hw i_V (hw _ (big_r (i := 16) (show tables_1[16]? = some (Cond.instantiable R_V 5) by decide +kernel) (by decide +kernel)))
  obtain ⟨c1, iS1, hKn1⟩ := u_known (C := R_Row) (T := F_Row) (N := 2) (n := 2) hw i_Row (hw _ (big_r (i := 24) (show tables_1[24]? = some (Cond.instantiable R_Row 2) by decide +kernel) (by decide +kernel)))
  obtain ⟨c2, iS2, hKn2⟩ := u_known (C := R_Tree) (T := F_Tree) (N := 6) (n := 6) hw i_Tree (hw _ (big_r (i := 38) (show tables_1[38]? = some (Cond.instantiable R_Tree 6) by decide +kernel) (by decide +kernel)))
  obtain ⟨c3, iS3, hKn3⟩ := u_known (C := R_Reader) (T := F_Reader) (N := 3) (n := 3) hw i_Reader (hw _ (big_r (i := 110) (show tables_1[110]? = some (Cond.instantiable R_Reader 3) by decide +kernel) (by decide +kernel)))
  obtain ⟨c4, iS4, hKn4⟩ := u_known (C := R_Writer) (T := F_Writer) (N := 2) (n := 2) hw i_Writer (hw _ (big_r (i := 321) (show tables_1[321]? = some (Cond.instantiable R_Writer 2) by decide +kernel) (by decide +kernel)))
  obtain ⟨c5, iS5, hKn5⟩ := u_known (C := R_M) (T := F_M) (N := 12) (n := 12) hw i_M (hw _ (big_r (i := 448) (show tables_1[448]? = some (Cond.instantiable R_M 12) by decide +kernel) (by decide +kernel)))
  obtain ⟨c6, iS6, hKn6⟩ := u_known (C := R_Part) (T := F_Part) (N := 7) (n := 7) hw i_Part (hw _ (big_r (i := 536) (show tables_1[536]? = some (Cond.instantiable R_Part 7) by decide +kernel) (by decide +kernel)))
  obtain ⟨dC, dI, hKc⟩ : ∃ (dC : Nat → ClassId) (dI : Nat → Nat → Nat), ∀ (k : Nat) (q : vw_C), vwCl[k]? = some q → u_Kn s q.1 q.2.1 q.2.2 (dC k) (dI k) := by
    refine ⟨fun k => match k with | 0 => c0 | 1 => c1 | 2 => c2 | 3 => c3 | 4 => c4 | 5 => c5 | _ => c6, fun k => match k with | 0 => iS0 | 1 => iS1 | 2 => iS2 | 3 => iS3 | 4 => iS4 | 5 => iS5 | _ => iS6, ?_⟩
    intro k q hq
    match k, hq with
    | 0, hq => cases hq; exact hKn0
    | 1, hq => cases hq; exact hKn1
    | 2, hq => cases hq; exact hKn2
    | 3, hq => cases hq; exact hKn3
    | 4, hq => cases hq; exact hKn4
    | 5, hq => cases hq; exact hKn5
    | 6, hq => cases hq; exact hKn6
    | k + 7, hq => simp [vwCl] at hq
  obtain ⟨aB, kB, pB, hB1, hB2, hB3⟩ := Cond.arrayClass_spec (hw _ (big_r (i := 36) (show tables_1[36]? = some (Cond.arrayClass .byte) by decide +kernel) (by decide +kernel)))
  obtain ⟨aI, kI, pI, hI1, hI2, hI3⟩ := Cond.arrayClass_spec (hw _ (big_r (i := 64) (show tables_1[64]? = some (Cond.arrayClass .int) by decide +kernel) (by decide +kernel)))
  have hAP : (Cond.arrayOver (.object R_Part)).before #[Value.ref b] s = true := hts _ (List.mem_append_right _ (List.mem_of_getElem? (i := 612) (by decide +kernel)))
  have hAB : (Cond.arrayOver (.array .byte)).before #[Value.ref b] s = true := hts _ (List.mem_append_right _ (List.mem_of_getElem? (i := 621) (by decide +kernel)))
  obtain ⟨pP, aP, kP, hP1, -, hP3, hP4, hP5⟩ := Cond.arrayOver_spec hAP
  obtain ⟨pQ, aQ, kQ, hQ1, -, hQ3, hQ4, hQ5⟩ := arrayOverA_spec hAB
  have hst : ∀ i : Nat, ∃ q : Nat × Nat, i < nS → vk_S 1 [(lenS.getD i 0)] [(bytS.getD i [])] (fun _ => q.1) (fun _ => q.2) (fun q : Nat => s.heap.size ≤ q) s s.heap ∧ vk_R (ownS.getD i "") (idxS.getD i 0) (txS.getD i "") q.1 s := by
    intro i
    match i with
    | 0 => obtain ⟨a, v, h⟩ := st_0 hts hgv; exact ⟨(a, v), fun _ => h⟩
    | 1 => obtain ⟨a, v, h⟩ := st_1 hts hgv; exact ⟨(a, v), fun _ => h⟩
    | 2 => obtain ⟨a, v, h⟩ := st_2 hts hgv; exact ⟨(a, v), fun _ => h⟩
    | 3 => obtain ⟨a, v, h⟩ := st_3 hts hgv; exact ⟨(a, v), fun _ => h⟩
    | 4 => obtain ⟨a, v, h⟩ := st_4 hts hgv; exact ⟨(a, v), fun _ => h⟩
    | 5 => obtain ⟨a, v, h⟩ := st_5 hts hgv; exact ⟨(a, v), fun _ => h⟩
    | 6 => obtain ⟨a, v, h⟩ := st_6 hts hgv; exact ⟨(a, v), fun _ => h⟩
    | 7 => obtain ⟨a, v, h⟩ := st_7 hts hgv; exact ⟨(a, v), fun _ => h⟩
    | 8 => obtain ⟨a, v, h⟩ := st_8 hts hgv; exact ⟨(a, v), fun _ => h⟩
    | 9 => obtain ⟨a, v, h⟩ := st_9 hts hgv; exact ⟨(a, v), fun _ => h⟩
    | 10 => obtain ⟨a, v, h⟩ := st_10 hts hgv; exact ⟨(a, v), fun _ => h⟩
    | 11 => obtain ⟨a, v, h⟩ := st_11 hts hgv; exact ⟨(a, v), fun _ => h⟩
    | 12 => obtain ⟨a, v, h⟩ := st_12 hts hgv; exact ⟨(a, v), fun _ => h⟩
    | 13 => obtain ⟨a, v, h⟩ := st_13 hts hgv; exact ⟨(a, v), fun _ => h⟩
    | 14 => obtain ⟨a, v, h⟩ := st_14 hts hgv; exact ⟨(a, v), fun _ => h⟩
    | 15 => obtain ⟨a, v, h⟩ := st_15 hts hgv; exact ⟨(a, v), fun _ => h⟩
    | 16 => obtain ⟨a, v, h⟩ := st_16 hts hgv; exact ⟨(a, v), fun _ => h⟩
    | 17 => obtain ⟨a, v, h⟩ := st_17 hts hgv; exact ⟨(a, v), fun _ => h⟩
    | i + 18 => exact ⟨(0, 0), fun h => absurd h (by show ¬ i + 18 < 18; omega)⟩
  obtain ⟨ad, had⟩ := Classical.axiomOfChoice hst
  refine ⟨((dC, dI), (fun k => match k with | 0 => aB | 1 => aI | 2 => aP | _ => aQ), (fun i => (ad i).1), (fun i => (ad i).2)), ⟨hKc, fun k q hq => ?_⟩, fun i hi => had i hi, ?_, ?_, ?_, hAP, hAB⟩
  · match k, hq with
    | 0, hq => cases hq; exact ⟨fun n z => ⟨fun k h => (by cases h), kB, hB2, pB, hB3⟩, hB1⟩
    | 1, hq => cases hq; exact ⟨fun n z => ⟨fun k h => (by cases h), kI, hI2, pI, hI3⟩, hI1⟩
    | 2, hq => cases hq; exact ⟨fun n z => ⟨fun k h => (by cases h), kP, hP3, pP, hP4⟩, kP, pP, hP3, hP4, hP1, hP5⟩
    | 3, hq => cases hq; exact ⟨fun n z => ⟨fun k h => (by cases h), kQ, hQ3, pQ, hQ4⟩, hQ5⟩
    | k + 4, hq => simp at hq
  · exact va_Zof (hts (Cond.laysStatic "java/lang/String" "COMPACT_STRINGS" "Z") (List.mem_append_right _ (List.mem_of_getElem? (i := 274) (by decide +kernel)))) (hts (Cond.initialized "java/lang/String") (List.mem_append_right _ (List.mem_of_getElem? (i := 6) (by decide +kernel)))) (va_eqt (hs (Cond.eq (.static "java/lang/String" "COMPACT_STRINGS" "Z") (.int 1)) (by decide +kernel))) hA
  · exact va_Zqof (hts (Cond.laysStatic "jdk/internal/util/Preconditions" "SIOOBE_FORMATTER" "Ljava/util/function/BiFunction;") (List.mem_append_right _ (List.mem_of_getElem? (i := 290) (by decide +kernel)))) (hts (Cond.initialized "jdk/internal/util/Preconditions") (List.mem_append_right _ (List.mem_of_getElem? (i := 8) (by decide +kernel)))) (hs (Cond.isRef (.static "jdk/internal/util/Preconditions" "SIOOBE_FORMATTER" "Ljava/util/function/BiFunction;")) (by decide +kernel)) hA
  · exact va_tabs rfl rfl (hts (Cond.methodLinkNest R_Part 28 y_M_isLike R_M) (List.mem_append_right _ (List.mem_of_getElem? (i := 626) (by decide +kernel))))
