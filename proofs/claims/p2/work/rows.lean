section
-- ===== PART A: goes FIRST, ahead of the names: the tables' words, and 'selects' of the private methods out of them =====
/-- a private method of a class that the tables say can be made, by its rows of tables_1 -/
def lw_okq (q : MethodName × Nat) : Prop := (q.1.cls ≠ "java/lang/invoke/MethodHandle" ∧ q.1.cls ≠ "java/lang/invoke/VarHandle") ∧ Cond.instantiable q.1.cls q.2 ∈ tables_1 ∧ Cond.privateMethod q.1 ∈ tables_1 ∧ Cond.instanceMethod q.1 ∈ tables_1
theorem lw_p0 : lw_okq (⟨"ValueTexts$Reader", "object", "(I)Z"⟩, 3) := ⟨⟨by decide +kernel, by decide +kernel⟩, List.mem_of_getElem? (i := 110) (by decide +kernel), List.mem_of_getElem? (i := 135) (by decide +kernel), List.mem_of_getElem? (i := 136) (by decide +kernel)⟩
theorem lw_p1 : lw_okq (⟨"ValueTexts$Reader", "afterWhite", "(I)I"⟩, 3) := ⟨⟨by decide +kernel, by decide +kernel⟩, List.mem_of_getElem? (i := 110) (by decide +kernel), List.mem_of_getElem? (i := 139) (by decide +kernel), List.mem_of_getElem? (i := 140) (by decide +kernel)⟩
theorem lw_p2 : lw_okq (⟨"ValueTexts$Reader", "name", "()Z"⟩, 3) := ⟨⟨by decide +kernel, by decide +kernel⟩, List.mem_of_getElem? (i := 110) (by decide +kernel), List.mem_of_getElem? (i := 151) (by decide +kernel), List.mem_of_getElem? (i := 152) (by decide +kernel)⟩
theorem lw_p3 : lw_okq (⟨"ValueTexts$Reader", "wordLength", "(I)I"⟩, 3) := ⟨⟨by decide +kernel, by decide +kernel⟩, List.mem_of_getElem? (i := 110) (by decide +kernel), List.mem_of_getElem? (i := 155) (by decide +kernel), List.mem_of_getElem? (i := 156) (by decide +kernel)⟩
theorem lw_p4 : lw_okq (⟨"ValueTexts$Reader", "plainString", "()Z"⟩, 3) := ⟨⟨by decide +kernel, by decide +kernel⟩, List.mem_of_getElem? (i := 110) (by decide +kernel), List.mem_of_getElem? (i := 175) (by decide +kernel), List.mem_of_getElem? (i := 176) (by decide +kernel)⟩
theorem lw_p5 : lw_okq (⟨"ValueTexts$Reader", "escaped", "()I"⟩, 3) := ⟨⟨by decide +kernel, by decide +kernel⟩, List.mem_of_getElem? (i := 110) (by decide +kernel), List.mem_of_getElem? (i := 179) (by decide +kernel), List.mem_of_getElem? (i := 180) (by decide +kernel)⟩
theorem lw_p6 : lw_okq (⟨"ValueTexts$Reader", "octalDigit", "(I)I"⟩, 3) := ⟨⟨by decide +kernel, by decide +kernel⟩, List.mem_of_getElem? (i := 110) (by decide +kernel), List.mem_of_getElem? (i := 183) (by decide +kernel), List.mem_of_getElem? (i := 184) (by decide +kernel)⟩
theorem lw_p7 : lw_okq (⟨"ValueTexts$Reader", "dict", "(I)Z"⟩, 3) := ⟨⟨by decide +kernel, by decide +kernel⟩, List.mem_of_getElem? (i := 110) (by decide +kernel), List.mem_of_getElem? (i := 188) (by decide +kernel), List.mem_of_getElem? (i := 189) (by decide +kernel)⟩
theorem lw_p8 : lw_okq (⟨"ValueTexts$Tree", "holds", "(I)Z"⟩, 6) := ⟨⟨by decide +kernel, by decide +kernel⟩, List.mem_of_getElem? (i := 38) (by decide +kernel), List.mem_of_getElem? (i := 200) (by decide +kernel), List.mem_of_getElem? (i := 201) (by decide +kernel)⟩
theorem lw_p9 : lw_okq (⟨"ValueTexts$Reader", "hexString", "()Z"⟩, 3) := ⟨⟨by decide +kernel, by decide +kernel⟩, List.mem_of_getElem? (i := 110) (by decide +kernel), List.mem_of_getElem? (i := 224) (by decide +kernel), List.mem_of_getElem? (i := 225) (by decide +kernel)⟩
theorem lw_p10 : lw_okq (⟨"ValueTexts$Reader", "hexDigit", "(I)I"⟩, 3) := ⟨⟨by decide +kernel, by decide +kernel⟩, List.mem_of_getElem? (i := 110) (by decide +kernel), List.mem_of_getElem? (i := 228) (by decide +kernel), List.mem_of_getElem? (i := 229) (by decide +kernel)⟩
theorem lw_p11 : lw_okq (⟨"ValueTexts$Reader", "array", "(I)Z"⟩, 3) := ⟨⟨by decide +kernel, by decide +kernel⟩, List.mem_of_getElem? (i := 110) (by decide +kernel), List.mem_of_getElem? (i := 232) (by decide +kernel), List.mem_of_getElem? (i := 233) (by decide +kernel)⟩
theorem lw_p12 : lw_okq (⟨"ValueTexts$Reader", "number", "()Z"⟩, 3) := ⟨⟨by decide +kernel, by decide +kernel⟩, List.mem_of_getElem? (i := 110) (by decide +kernel), List.mem_of_getElem? (i := 236) (by decide +kernel), List.mem_of_getElem? (i := 237) (by decide +kernel)⟩
theorem lw_p13 : lw_okq (⟨"ValueTexts$Reader", "isInt", "(II)Z"⟩, 3) := ⟨⟨by decide +kernel, by decide +kernel⟩, List.mem_of_getElem? (i := 110) (by decide +kernel), List.mem_of_getElem? (i := 240) (by decide +kernel), List.mem_of_getElem? (i := 241) (by decide +kernel)⟩
theorem lw_p14 : lw_okq (⟨"ValueTexts$Reader", "isBelow", "(III)Z"⟩, 3) := ⟨⟨by decide +kernel, by decide +kernel⟩, List.mem_of_getElem? (i := 110) (by decide +kernel), List.mem_of_getElem? (i := 244) (by decide +kernel), List.mem_of_getElem? (i := 245) (by decide +kernel)⟩
theorem lw_p15 : lw_okq (⟨"ValueTexts$Reader", "numberAt", "(II)I"⟩, 3) := ⟨⟨by decide +kernel, by decide +kernel⟩, List.mem_of_getElem? (i := 110) (by decide +kernel), List.mem_of_getElem? (i := 248) (by decide +kernel), List.mem_of_getElem? (i := 249) (by decide +kernel)⟩
def lw_privs_1 : List (MethodName × Nat) := [(⟨"ValueTexts$Reader", "object", "(I)Z"⟩, 3), (⟨"ValueTexts$Reader", "afterWhite", "(I)I"⟩, 3), (⟨"ValueTexts$Reader", "name", "()Z"⟩, 3), (⟨"ValueTexts$Reader", "wordLength", "(I)I"⟩, 3), (⟨"ValueTexts$Reader", "plainString", "()Z"⟩, 3), (⟨"ValueTexts$Reader", "escaped", "()I"⟩, 3), (⟨"ValueTexts$Reader", "octalDigit", "(I)I"⟩, 3), (⟨"ValueTexts$Reader", "dict", "(I)Z"⟩, 3), (⟨"ValueTexts$Tree", "holds", "(I)Z"⟩, 6), (⟨"ValueTexts$Reader", "hexString", "()Z"⟩, 3), (⟨"ValueTexts$Reader", "hexDigit", "(I)I"⟩, 3), (⟨"ValueTexts$Reader", "array", "(I)Z"⟩, 3), (⟨"ValueTexts$Reader", "number", "()Z"⟩, 3), (⟨"ValueTexts$Reader", "isInt", "(II)Z"⟩, 3), (⟨"ValueTexts$Reader", "isBelow", "(III)Z"⟩, 3), (⟨"ValueTexts$Reader", "numberAt", "(II)I"⟩, 3)]
theorem lw_r1 : ∀ q ∈ lw_privs_1, lw_okq q := List.forall_mem_cons.mpr ⟨lw_p0, List.forall_mem_cons.mpr ⟨lw_p1, List.forall_mem_cons.mpr ⟨lw_p2, List.forall_mem_cons.mpr ⟨lw_p3, List.forall_mem_cons.mpr ⟨lw_p4, List.forall_mem_cons.mpr ⟨lw_p5, List.forall_mem_cons.mpr ⟨lw_p6, List.forall_mem_cons.mpr ⟨lw_p7, List.forall_mem_cons.mpr ⟨lw_p8, List.forall_mem_cons.mpr ⟨lw_p9, List.forall_mem_cons.mpr ⟨lw_p10, List.forall_mem_cons.mpr ⟨lw_p11, List.forall_mem_cons.mpr ⟨lw_p12, List.forall_mem_cons.mpr ⟨lw_p13, List.forall_mem_cons.mpr ⟨lw_p14, List.forall_mem_cons.mpr ⟨lw_p15, fun _ h => absurd h List.not_mem_nil⟩⟩⟩⟩⟩⟩⟩⟩⟩⟩⟩⟩⟩⟩⟩⟩
theorem lw_p16 : lw_okq (⟨"ValueTexts$Reader", "word", "()Z"⟩, 3) := ⟨⟨by decide +kernel, by decide +kernel⟩, List.mem_of_getElem? (i := 110) (by decide +kernel), List.mem_of_getElem? (i := 253) (by decide +kernel), List.mem_of_getElem? (i := 254) (by decide +kernel)⟩
theorem lw_p17 : lw_okq (⟨"ValueTexts$Reader", "kindOfWord", "(I)I"⟩, 3) := ⟨⟨by decide +kernel, by decide +kernel⟩, List.mem_of_getElem? (i := 110) (by decide +kernel), List.mem_of_getElem? (i := 257) (by decide +kernel), List.mem_of_getElem? (i := 258) (by decide +kernel)⟩
theorem lw_p18 : lw_okq (⟨"ValueTexts$Reader", "isWord", "(Ljava/lang/String;I)Z"⟩, 3) := ⟨⟨by decide +kernel, by decide +kernel⟩, List.mem_of_getElem? (i := 110) (by decide +kernel), List.mem_of_getElem? (i := 262) (by decide +kernel), List.mem_of_getElem? (i := 263) (by decide +kernel)⟩
theorem lw_p19 : lw_okq (⟨"ValueTexts$Writer", "addValue", "(II)V"⟩, 2) := ⟨⟨by decide +kernel, by decide +kernel⟩, List.mem_of_getElem? (i := 321) (by decide +kernel), List.mem_of_getElem? (i := 338) (by decide +kernel), List.mem_of_getElem? (i := 339) (by decide +kernel)⟩
theorem lw_p20 : lw_okq (⟨"ValueTexts$Writer", "addInt", "(I)V"⟩, 2) := ⟨⟨by decide +kernel, by decide +kernel⟩, List.mem_of_getElem? (i := 321) (by decide +kernel), List.mem_of_getElem? (i := 353) (by decide +kernel), List.mem_of_getElem? (i := 354) (by decide +kernel)⟩
theorem lw_p21 : lw_okq (⟨"ValueTexts$Writer", "addName", "(I)V"⟩, 2) := ⟨⟨by decide +kernel, by decide +kernel⟩, List.mem_of_getElem? (i := 321) (by decide +kernel), List.mem_of_getElem? (i := 359) (by decide +kernel), List.mem_of_getElem? (i := 360) (by decide +kernel)⟩
theorem lw_p22 : lw_okq (⟨"ValueTexts$Writer", "addString", "(I)V"⟩, 2) := ⟨⟨by decide +kernel, by decide +kernel⟩, List.mem_of_getElem? (i := 321) (by decide +kernel), List.mem_of_getElem? (i := 366) (by decide +kernel), List.mem_of_getElem? (i := 367) (by decide +kernel)⟩
theorem lw_p23 : lw_okq (⟨"ValueTexts$Writer", "addArray", "(II)V"⟩, 2) := ⟨⟨by decide +kernel, by decide +kernel⟩, List.mem_of_getElem? (i := 321) (by decide +kernel), List.mem_of_getElem? (i := 374) (by decide +kernel), List.mem_of_getElem? (i := 375) (by decide +kernel)⟩
theorem lw_p24 : lw_okq (⟨"ValueTexts$Writer", "addSpaceBefore", "(I)V"⟩, 2) := ⟨⟨by decide +kernel, by decide +kernel⟩, List.mem_of_getElem? (i := 321) (by decide +kernel), List.mem_of_getElem? (i := 378) (by decide +kernel), List.mem_of_getElem? (i := 379) (by decide +kernel)⟩
theorem lw_p25 : lw_okq (⟨"ValueTexts$Writer", "addDict", "(II)V"⟩, 2) := ⟨⟨by decide +kernel, by decide +kernel⟩, List.mem_of_getElem? (i := 321) (by decide +kernel), List.mem_of_getElem? (i := 383) (by decide +kernel), List.mem_of_getElem? (i := 384) (by decide +kernel)⟩
theorem lw_p26 : lw_okq (⟨"ValueTexts$Writer", "addRef", "(I)V"⟩, 2) := ⟨⟨by decide +kernel, by decide +kernel⟩, List.mem_of_getElem? (i := 321) (by decide +kernel), List.mem_of_getElem? (i := 389) (by decide +kernel), List.mem_of_getElem? (i := 390) (by decide +kernel)⟩
theorem lw_p27 : lw_okq (⟨"ValueTexts", "pointAt", "(I)I"⟩, 5) := ⟨⟨by decide +kernel, by decide +kernel⟩, List.mem_of_getElem? (i := 16) (by decide +kernel), List.mem_of_getElem? (i := 398) (by decide +kernel), List.mem_of_getElem? (i := 399) (by decide +kernel)⟩
theorem lw_p28 : lw_okq (⟨"ValueTexts$Tree", "nameNode", "(II)I"⟩, 6) := ⟨⟨by decide +kernel, by decide +kernel⟩, List.mem_of_getElem? (i := 38) (by decide +kernel), List.mem_of_getElem? (i := 410) (by decide +kernel), List.mem_of_getElem? (i := 411) (by decide +kernel)⟩
theorem lw_p29 : lw_okq (⟨"ValueTexts$Tree", "itemNode", "(II)I"⟩, 6) := ⟨⟨by decide +kernel, by decide +kernel⟩, List.mem_of_getElem? (i := 38) (by decide +kernel), List.mem_of_getElem? (i := 414) (by decide +kernel), List.mem_of_getElem? (i := 415) (by decide +kernel)⟩
theorem lw_p30 : lw_okq (⟨"ValueTextsModel", "used", "()I"⟩, 12) := ⟨⟨by decide +kernel, by decide +kernel⟩, List.mem_of_getElem? (i := 448) (by decide +kernel), List.mem_of_getElem? (i := 506) (by decide +kernel), List.mem_of_getElem? (i := 507) (by decide +kernel)⟩
theorem lw_p31 : lw_okq (⟨"ValueTextsModel", "object", "(I)LValueTextsModel$Part;"⟩, 12) := ⟨⟨by decide +kernel, by decide +kernel⟩, List.mem_of_getElem? (i := 448) (by decide +kernel), List.mem_of_getElem? (i := 510) (by decide +kernel), List.mem_of_getElem? (i := 511) (by decide +kernel)⟩
def lw_privs_2 : List (MethodName × Nat) := [(⟨"ValueTexts$Reader", "word", "()Z"⟩, 3), (⟨"ValueTexts$Reader", "kindOfWord", "(I)I"⟩, 3), (⟨"ValueTexts$Reader", "isWord", "(Ljava/lang/String;I)Z"⟩, 3), (⟨"ValueTexts$Writer", "addValue", "(II)V"⟩, 2), (⟨"ValueTexts$Writer", "addInt", "(I)V"⟩, 2), (⟨"ValueTexts$Writer", "addName", "(I)V"⟩, 2), (⟨"ValueTexts$Writer", "addString", "(I)V"⟩, 2), (⟨"ValueTexts$Writer", "addArray", "(II)V"⟩, 2), (⟨"ValueTexts$Writer", "addSpaceBefore", "(I)V"⟩, 2), (⟨"ValueTexts$Writer", "addDict", "(II)V"⟩, 2), (⟨"ValueTexts$Writer", "addRef", "(I)V"⟩, 2), (⟨"ValueTexts", "pointAt", "(I)I"⟩, 5), (⟨"ValueTexts$Tree", "nameNode", "(II)I"⟩, 6), (⟨"ValueTexts$Tree", "itemNode", "(II)I"⟩, 6), (⟨"ValueTextsModel", "used", "()I"⟩, 12), (⟨"ValueTextsModel", "object", "(I)LValueTextsModel$Part;"⟩, 12)]
theorem lw_r2 : ∀ q ∈ lw_privs_2, lw_okq q := List.forall_mem_cons.mpr ⟨lw_p16, List.forall_mem_cons.mpr ⟨lw_p17, List.forall_mem_cons.mpr ⟨lw_p18, List.forall_mem_cons.mpr ⟨lw_p19, List.forall_mem_cons.mpr ⟨lw_p20, List.forall_mem_cons.mpr ⟨lw_p21, List.forall_mem_cons.mpr ⟨lw_p22, List.forall_mem_cons.mpr ⟨lw_p23, List.forall_mem_cons.mpr ⟨lw_p24, List.forall_mem_cons.mpr ⟨lw_p25, List.forall_mem_cons.mpr ⟨lw_p26, List.forall_mem_cons.mpr ⟨lw_p27, List.forall_mem_cons.mpr ⟨lw_p28, List.forall_mem_cons.mpr ⟨lw_p29, List.forall_mem_cons.mpr ⟨lw_p30, List.forall_mem_cons.mpr ⟨lw_p31, fun _ h => absurd h List.not_mem_nil⟩⟩⟩⟩⟩⟩⟩⟩⟩⟩⟩⟩⟩⟩⟩⟩
theorem lw_p32 : lw_okq (⟨"ValueTextsModel", "white", "()V"⟩, 12) := ⟨⟨by decide +kernel, by decide +kernel⟩, List.mem_of_getElem? (i := 448) (by decide +kernel), List.mem_of_getElem? (i := 514) (by decide +kernel), List.mem_of_getElem? (i := 515) (by decide +kernel)⟩
theorem lw_p33 : lw_okq (⟨"ValueTextsModel", "name", "()LValueTextsModel$Part;"⟩, 12) := ⟨⟨by decide +kernel, by decide +kernel⟩, List.mem_of_getElem? (i := 448) (by decide +kernel), List.mem_of_getElem? (i := 521) (by decide +kernel), List.mem_of_getElem? (i := 522) (by decide +kernel)⟩
theorem lw_p34 : lw_okq (⟨"ValueTextsModel", "wordEnd", "(I)I"⟩, 12) := ⟨⟨by decide +kernel, by decide +kernel⟩, List.mem_of_getElem? (i := 448) (by decide +kernel), List.mem_of_getElem? (i := 525) (by decide +kernel), List.mem_of_getElem? (i := 526) (by decide +kernel)⟩
theorem lw_p35 : lw_okq (⟨"ValueTextsModel", "string", "()LValueTextsModel$Part;"⟩, 12) := ⟨⟨by decide +kernel, by decide +kernel⟩, List.mem_of_getElem? (i := 448) (by decide +kernel), List.mem_of_getElem? (i := 590) (by decide +kernel), List.mem_of_getElem? (i := 591) (by decide +kernel)⟩
theorem lw_p36 : lw_okq (⟨"ValueTextsModel", "escaped", "()I"⟩, 12) := ⟨⟨by decide +kernel, by decide +kernel⟩, List.mem_of_getElem? (i := 448) (by decide +kernel), List.mem_of_getElem? (i := 594) (by decide +kernel), List.mem_of_getElem? (i := 595) (by decide +kernel)⟩
theorem lw_p37 : lw_okq (⟨"ValueTextsModel", "takeByte", "(I)Z"⟩, 12) := ⟨⟨by decide +kernel, by decide +kernel⟩, List.mem_of_getElem? (i := 448) (by decide +kernel), List.mem_of_getElem? (i := 598) (by decide +kernel), List.mem_of_getElem? (i := 599) (by decide +kernel)⟩
theorem lw_p38 : lw_okq (⟨"ValueTextsModel", "ofBytes", "(I)LValueTextsModel$Part;"⟩, 12) := ⟨⟨by decide +kernel, by decide +kernel⟩, List.mem_of_getElem? (i := 448) (by decide +kernel), List.mem_of_getElem? (i := 602) (by decide +kernel), List.mem_of_getElem? (i := 603) (by decide +kernel)⟩
theorem lw_p39 : lw_okq (⟨"ValueTextsModel", "array", "(I)LValueTextsModel$Part;"⟩, 12) := ⟨⟨by decide +kernel, by decide +kernel⟩, List.mem_of_getElem? (i := 448) (by decide +kernel), List.mem_of_getElem? (i := 609) (by decide +kernel), List.mem_of_getElem? (i := 610) (by decide +kernel)⟩
theorem lw_p40 : lw_okq (⟨"ValueTextsModel", "dict", "(I)LValueTextsModel$Part;"⟩, 12) := ⟨⟨by decide +kernel, by decide +kernel⟩, List.mem_of_getElem? (i := 448) (by decide +kernel), List.mem_of_getElem? (i := 617) (by decide +kernel), List.mem_of_getElem? (i := 618) (by decide +kernel)⟩
theorem lw_p41 : lw_okq (⟨"ValueTextsModel", "digits", "()LValueTextsModel$Part;"⟩, 12) := ⟨⟨by decide +kernel, by decide +kernel⟩, List.mem_of_getElem? (i := 448) (by decide +kernel), List.mem_of_getElem? (i := 630) (by decide +kernel), List.mem_of_getElem? (i := 631) (by decide +kernel)⟩
theorem lw_p42 : lw_okq (⟨"ValueTextsModel", "isWord", "(IILjava/lang/String;)Z"⟩, 12) := ⟨⟨by decide +kernel, by decide +kernel⟩, List.mem_of_getElem? (i := 448) (by decide +kernel), List.mem_of_getElem? (i := 641) (by decide +kernel), List.mem_of_getElem? (i := 642) (by decide +kernel)⟩
theorem lw_p43 : lw_okq (⟨"ValueTextsModel", "isAt", "(ILjava/lang/String;)Z"⟩, 12) := ⟨⟨by decide +kernel, by decide +kernel⟩, List.mem_of_getElem? (i := 448) (by decide +kernel), List.mem_of_getElem? (i := 646) (by decide +kernel), List.mem_of_getElem? (i := 647) (by decide +kernel)⟩
theorem lw_p44 : lw_okq (⟨"ValueTextsModel", "numberOf", "(II)I"⟩, 12) := ⟨⟨by decide +kernel, by decide +kernel⟩, List.mem_of_getElem? (i := 448) (by decide +kernel), List.mem_of_getElem? (i := 653) (by decide +kernel), List.mem_of_getElem? (i := 654) (by decide +kernel)⟩
theorem lw_p45 : lw_okq (⟨"ValueTextsModel", "reference", "(I)LValueTextsModel$Part;"⟩, 12) := ⟨⟨by decide +kernel, by decide +kernel⟩, List.mem_of_getElem? (i := 448) (by decide +kernel), List.mem_of_getElem? (i := 658) (by decide +kernel), List.mem_of_getElem? (i := 659) (by decide +kernel)⟩
theorem lw_p46 : lw_okq (⟨"ValueTextsModel", "takeNumber", "()I"⟩, 12) := ⟨⟨by decide +kernel, by decide +kernel⟩, List.mem_of_getElem? (i := 448) (by decide +kernel), List.mem_of_getElem? (i := 662) (by decide +kernel), List.mem_of_getElem? (i := 663) (by decide +kernel)⟩
theorem lw_p47 : lw_okq (⟨"ValueTextsModel", "takeWord", "(Ljava/lang/String;)Z"⟩, 12) := ⟨⟨by decide +kernel, by decide +kernel⟩, List.mem_of_getElem? (i := 448) (by decide +kernel), List.mem_of_getElem? (i := 667) (by decide +kernel), List.mem_of_getElem? (i := 668) (by decide +kernel)⟩
def lw_privs_3 : List (MethodName × Nat) := [(⟨"ValueTextsModel", "white", "()V"⟩, 12), (⟨"ValueTextsModel", "name", "()LValueTextsModel$Part;"⟩, 12), (⟨"ValueTextsModel", "wordEnd", "(I)I"⟩, 12), (⟨"ValueTextsModel", "string", "()LValueTextsModel$Part;"⟩, 12), (⟨"ValueTextsModel", "escaped", "()I"⟩, 12), (⟨"ValueTextsModel", "takeByte", "(I)Z"⟩, 12), (⟨"ValueTextsModel", "ofBytes", "(I)LValueTextsModel$Part;"⟩, 12), (⟨"ValueTextsModel", "array", "(I)LValueTextsModel$Part;"⟩, 12), (⟨"ValueTextsModel", "dict", "(I)LValueTextsModel$Part;"⟩, 12), (⟨"ValueTextsModel", "digits", "()LValueTextsModel$Part;"⟩, 12), (⟨"ValueTextsModel", "isWord", "(IILjava/lang/String;)Z"⟩, 12), (⟨"ValueTextsModel", "isAt", "(ILjava/lang/String;)Z"⟩, 12), (⟨"ValueTextsModel", "numberOf", "(II)I"⟩, 12), (⟨"ValueTextsModel", "reference", "(I)LValueTextsModel$Part;"⟩, 12), (⟨"ValueTextsModel", "takeNumber", "()I"⟩, 12), (⟨"ValueTextsModel", "takeWord", "(Ljava/lang/String;)Z"⟩, 12)]
theorem lw_r3 : ∀ q ∈ lw_privs_3, lw_okq q := List.forall_mem_cons.mpr ⟨lw_p32, List.forall_mem_cons.mpr ⟨lw_p33, List.forall_mem_cons.mpr ⟨lw_p34, List.forall_mem_cons.mpr ⟨lw_p35, List.forall_mem_cons.mpr ⟨lw_p36, List.forall_mem_cons.mpr ⟨lw_p37, List.forall_mem_cons.mpr ⟨lw_p38, List.forall_mem_cons.mpr ⟨lw_p39, List.forall_mem_cons.mpr ⟨lw_p40, List.forall_mem_cons.mpr ⟨lw_p41, List.forall_mem_cons.mpr ⟨lw_p42, List.forall_mem_cons.mpr ⟨lw_p43, List.forall_mem_cons.mpr ⟨lw_p44, List.forall_mem_cons.mpr ⟨lw_p45, List.forall_mem_cons.mpr ⟨lw_p46, List.forall_mem_cons.mpr ⟨lw_p47, fun _ h => absurd h List.not_mem_nil⟩⟩⟩⟩⟩⟩⟩⟩⟩⟩⟩⟩⟩⟩⟩⟩
theorem lw_p48 : lw_okq (⟨"ValueTextsModel", "isAt", "(LValueTextsModel$Part;)I"⟩, 12) := ⟨⟨by decide +kernel, by decide +kernel⟩, List.mem_of_getElem? (i := 448) (by decide +kernel), List.mem_of_getElem? (i := 676) (by decide +kernel), List.mem_of_getElem? (i := 677) (by decide +kernel)⟩
theorem lw_p49 : lw_okq (⟨"ValueTextsModel", "tell", "([B)I"⟩, 12) := ⟨⟨by decide +kernel, by decide +kernel⟩, List.mem_of_getElem? (i := 448) (by decide +kernel), List.mem_of_getElem? (i := 702) (by decide +kernel), List.mem_of_getElem? (i := 703) (by decide +kernel)⟩
theorem lw_p50 : lw_okq (⟨"ValueTextsModel", "write", "(LValueTextsModel$Part;)V"⟩, 12) := ⟨⟨by decide +kernel, by decide +kernel⟩, List.mem_of_getElem? (i := 448) (by decide +kernel), List.mem_of_getElem? (i := 716) (by decide +kernel), List.mem_of_getElem? (i := 717) (by decide +kernel)⟩
theorem lw_p51 : lw_okq (⟨"ValueTextsModel", "say", "(Ljava/lang/String;)V"⟩, 12) := ⟨⟨by decide +kernel, by decide +kernel⟩, List.mem_of_getElem? (i := 448) (by decide +kernel), List.mem_of_getElem? (i := 720) (by decide +kernel), List.mem_of_getElem? (i := 721) (by decide +kernel)⟩
theorem lw_p52 : lw_okq (⟨"ValueTextsModel", "say", "(I)V"⟩, 12) := ⟨⟨by decide +kernel, by decide +kernel⟩, List.mem_of_getElem? (i := 448) (by decide +kernel), List.mem_of_getElem? (i := 724) (by decide +kernel), List.mem_of_getElem? (i := 725) (by decide +kernel)⟩
theorem lw_p53 : lw_okq (⟨"ValueTextsModel", "number", "(II)V"⟩, 12) := ⟨⟨by decide +kernel, by decide +kernel⟩, List.mem_of_getElem? (i := 448) (by decide +kernel), List.mem_of_getElem? (i := 728) (by decide +kernel), List.mem_of_getElem? (i := 729) (by decide +kernel)⟩
theorem lw_p54 : lw_okq (⟨"ValueTextsModel", "say", "([B)V"⟩, 12) := ⟨⟨by decide +kernel, by decide +kernel⟩, List.mem_of_getElem? (i := 448) (by decide +kernel), List.mem_of_getElem? (i := 732) (by decide +kernel), List.mem_of_getElem? (i := 733) (by decide +kernel)⟩
theorem lw_p55 : lw_okq (⟨"ValueTextsModel", "hexDigit", "(I)V"⟩, 12) := ⟨⟨by decide +kernel, by decide +kernel⟩, List.mem_of_getElem? (i := 448) (by decide +kernel), List.mem_of_getElem? (i := 736) (by decide +kernel), List.mem_of_getElem? (i := 737) (by decide +kernel)⟩
def lw_privs_4 : List (MethodName × Nat) := [(⟨"ValueTextsModel", "isAt", "(LValueTextsModel$Part;)I"⟩, 12), (⟨"ValueTextsModel", "tell", "([B)I"⟩, 12), (⟨"ValueTextsModel", "write", "(LValueTextsModel$Part;)V"⟩, 12), (⟨"ValueTextsModel", "say", "(Ljava/lang/String;)V"⟩, 12), (⟨"ValueTextsModel", "say", "(I)V"⟩, 12), (⟨"ValueTextsModel", "number", "(II)V"⟩, 12), (⟨"ValueTextsModel", "say", "([B)V"⟩, 12), (⟨"ValueTextsModel", "hexDigit", "(I)V"⟩, 12)]
theorem lw_r4 : ∀ q ∈ lw_privs_4, lw_okq q := List.forall_mem_cons.mpr ⟨lw_p48, List.forall_mem_cons.mpr ⟨lw_p49, List.forall_mem_cons.mpr ⟨lw_p50, List.forall_mem_cons.mpr ⟨lw_p51, List.forall_mem_cons.mpr ⟨lw_p52, List.forall_mem_cons.mpr ⟨lw_p53, List.forall_mem_cons.mpr ⟨lw_p54, List.forall_mem_cons.mpr ⟨lw_p55, fun _ h => absurd h List.not_mem_nil⟩⟩⟩⟩⟩⟩⟩⟩
def lw_privs : List (MethodName × Nat) := lw_privs_1 ++ (lw_privs_2 ++ (lw_privs_3 ++ (lw_privs_4)))
def lw_tbl : List Cond := k2_sels lw_privs ++ tables_1
theorem lw_privs_ok : ∀ q ∈ lw_privs, lw_okq q := by
  show ∀ q ∈ lw_privs_1 ++ (lw_privs_2 ++ (lw_privs_3 ++ (lw_privs_4))), lw_okq q
  exact List.forall_mem_append.mpr ⟨lw_r1, List.forall_mem_append.mpr ⟨lw_r2, List.forall_mem_append.mpr ⟨lw_r3, lw_r4⟩⟩⟩
-- ===== end of PART A
def R_V : String := "ValueTexts"
def R_Row : String := "ValueTexts$Row"
def R_Tree : String := "ValueTexts$Tree"
def R_Reader : String := "ValueTexts$Reader"
def R_Writer : String := "ValueTexts$Writer"
def R_M : String := "ValueTextsModel"
def R_Part : String := "ValueTextsModel$Part"
def R_L : String := "ValueTextsLaw"
def R_Str : String := "java/lang/String"
def R_SL : String := "java/lang/StringLatin1"
def R_Arr : String := "java/util/Arrays"
def R_Math : String := "java/lang/Math"
def R_Sys : String := "java/lang/System"
def R_Pre : String := "jdk/internal/util/Preconditions"
def F_V : u_T := fun k => match k with
  | 0 => ("ValueTexts", "tape", "LValueTexts$Row;", true)
  | 1 => ("ValueTexts", "out", "LValueTexts$Row;", true)
  | 2 => ("ValueTexts", "value", "LValueTexts$Tree;", false)
  | 3 => ("ValueTexts", "spare", "LValueTexts$Tree;", false)
  | _ => ("ValueTexts", "point", "I", false)
def t_V : Nat → FieldType := fun k => match k with
  | 0 => .object "ValueTexts$Row"
  | 1 => .object "ValueTexts$Row"
  | 2 => .object "ValueTexts$Tree"
  | 3 => .object "ValueTexts$Tree"
  | _ => .int
theorem n_V : ∀ a, a < 5 → ∀ b, b < 5 → a ≠ b → (F_V a).2.1 ≠ (F_V b).2.1 := by decide +kernel
theorem t_V_ok : ∀ k, k < 5 → parseFieldDescriptor (F_V k).2.2.1 = some (t_V k) := by decide +kernel
def F_Row : u_T := fun k => match k with
  | 0 => ("ValueTexts$Row", "cells", "[B", true)
  | _ => ("ValueTexts$Row", "size", "I", false)
def t_Row : Nat → FieldType := fun k => match k with
  | 0 => .array .byte
  | _ => .int
theorem n_Row : ∀ a, a < 2 → ∀ b, b < 2 → a ≠ b → (F_Row a).2.1 ≠ (F_Row b).2.1 := by decide +kernel
theorem t_Row_ok : ∀ k, k < 2 → parseFieldDescriptor (F_Row k).2.2.1 = some (t_Row k) := by decide +kernel
def F_Tree : u_T := fun k => match k with
  | 0 => ("ValueTexts$Tree", "kinds", "[B", true)
  | 1 => ("ValueTexts$Tree", "numbers", "[I", true)
  | 2 => ("ValueTexts$Tree", "others", "[I", true)
  | 3 => ("ValueTexts$Tree", "spans", "[I", true)
  | 4 => ("ValueTexts$Tree", "text", "LValueTexts$Row;", true)
  | _ => ("ValueTexts$Tree", "size", "I", false)
def t_Tree : Nat → FieldType := fun k => match k with
  | 0 => .array .byte
  | 1 => .array .int
  | 2 => .array .int
  | 3 => .array .int
  | 4 => .object "ValueTexts$Row"
  | _ => .int
theorem n_Tree : ∀ a, a < 6 → ∀ b, b < 6 → a ≠ b → (F_Tree a).2.1 ≠ (F_Tree b).2.1 := by decide +kernel
theorem t_Tree_ok : ∀ k, k < 6 → parseFieldDescriptor (F_Tree k).2.2.1 = some (t_Tree k) := by decide +kernel
def F_Reader : u_T := fun k => match k with
  | 0 => ("ValueTexts$Reader", "tape", "LValueTexts$Row;", true)
  | 1 => ("ValueTexts$Reader", "tree", "LValueTexts$Tree;", true)
  | _ => ("ValueTexts$Reader", "at", "I", false)
def t_Reader : Nat → FieldType := fun k => match k with
  | 0 => .object "ValueTexts$Row"
  | 1 => .object "ValueTexts$Tree"
  | _ => .int
theorem n_Reader : ∀ a, a < 3 → ∀ b, b < 3 → a ≠ b → (F_Reader a).2.1 ≠ (F_Reader b).2.1 := by decide +kernel
theorem t_Reader_ok : ∀ k, k < 3 → parseFieldDescriptor (F_Reader k).2.2.1 = some (t_Reader k) := by decide +kernel
def F_Writer : u_T := fun k => match k with
  | 0 => ("ValueTexts$Writer", "tree", "LValueTexts$Tree;", true)
  | _ => ("ValueTexts$Writer", "out", "LValueTexts$Row;", true)
def t_Writer : Nat → FieldType := fun k => match k with
  | 0 => .object "ValueTexts$Tree"
  | _ => .object "ValueTexts$Row"
theorem n_Writer : ∀ a, a < 2 → ∀ b, b < 2 → a ≠ b → (F_Writer a).2.1 ≠ (F_Writer b).2.1 := by decide +kernel
theorem t_Writer_ok : ∀ k, k < 2 → parseFieldDescriptor (F_Writer k).2.2.1 = some (t_Writer k) := by decide +kernel
def F_M : u_T := fun k => match k with
  | 0 => ("ValueTextsModel", "text", "[B", false)
  | 1 => ("ValueTextsModel", "size", "I", false)
  | 2 => ("ValueTextsModel", "at", "I", false)
  | 3 => ("ValueTextsModel", "taken", "[B", true)
  | 4 => ("ValueTextsModel", "tape", "[B", true)
  | 5 => ("ValueTextsModel", "out", "[B", true)
  | 6 => ("ValueTextsModel", "tapeMany", "I", false)
  | 7 => ("ValueTextsModel", "outMany", "I", false)
  | 8 => ("ValueTextsModel", "all", "LValueTextsModel$Part;", false)
  | 9 => ("ValueTextsModel", "point", "LValueTextsModel$Part;", false)
  | 10 => ("ValueTextsModel", "page", "[B", true)
  | _ => ("ValueTextsModel", "written", "I", false)
def t_M : Nat → FieldType := fun k => match k with
  | 0 => .array .byte
  | 1 => .int
  | 2 => .int
  | 3 => .array .byte
  | 4 => .array .byte
  | 5 => .array .byte
  | 6 => .int
  | 7 => .int
  | 8 => .object "ValueTextsModel$Part"
  | 9 => .object "ValueTextsModel$Part"
  | 10 => .array .byte
  | _ => .int
theorem n_M : ∀ a, a < 12 → ∀ b, b < 12 → a ≠ b → (F_M a).2.1 ≠ (F_M b).2.1 := by decide +kernel
theorem t_M_ok : ∀ k, k < 12 → parseFieldDescriptor (F_M k).2.2.1 = some (t_M k) := by decide +kernel
def F_Part : u_T := fun k => match k with
  | 0 => ("ValueTextsModel$Part", "kind", "I", true)
  | 1 => ("ValueTextsModel$Part", "x", "I", false)
  | 2 => ("ValueTextsModel$Part", "y", "I", false)
  | 3 => ("ValueTextsModel$Part", "many", "I", false)
  | 4 => ("ValueTextsModel$Part", "bytes", "[B", false)
  | 5 => ("ValueTextsModel$Part", "item", "[LValueTextsModel$Part;", false)
  | _ => ("ValueTextsModel$Part", "name", "[[B", false)
def t_Part : Nat → FieldType := fun k => match k with
  | 0 => .int
  | 1 => .int
  | 2 => .int
  | 3 => .int
  | 4 => .array .byte
  | 5 => .array (.object "ValueTextsModel$Part")
  | _ => .array (.array .byte)
theorem n_Part : ∀ a, a < 7 → ∀ b, b < 7 → a ≠ b → (F_Part a).2.1 ≠ (F_Part b).2.1 := by decide +kernel
theorem t_Part_ok : ∀ k, k < 7 → parseFieldDescriptor (F_Part k).2.2.1 = some (t_Part k) := by decide +kernel
abbrev b_V_init : ByteArray := prog_1_method_1_code
def y_V_init : MethodName := ⟨R_V, "<init>", "()V"⟩
abbrev b_V_feed : ByteArray := prog_1_method_2_code
def y_V_feed : MethodName := ⟨R_V, "feed", "(IIIII)I"⟩
abbrev b_V_end : ByteArray := prog_1_method_3_code
def y_V_end : MethodName := ⟨R_V, "end", "(I)I"⟩
abbrev b_V_read : ByteArray := prog_1_method_4_code
def y_V_read : MethodName := ⟨R_V, "read", "()I"⟩
abbrev b_V_write : ByteArray := prog_1_method_5_code
def y_V_write : MethodName := ⟨R_V, "write", "()I"⟩
abbrev b_V_top : ByteArray := prog_1_method_6_code
def y_V_top : MethodName := ⟨R_V, "top", "()I"⟩
abbrev b_V_item : ByteArray := prog_1_method_7_code
def y_V_item : MethodName := ⟨R_V, "item", "(I)I"⟩
abbrev b_V_find : ByteArray := prog_1_method_8_code
def y_V_find : MethodName := ⟨R_V, "find", "()I"⟩
abbrev b_V_look : ByteArray := prog_1_method_9_code
def y_V_look : MethodName := ⟨R_V, "look", "(I)I"⟩
abbrev b_V_bytes : ByteArray := prog_1_method_10_code
def y_V_bytes : MethodName := ⟨R_V, "bytes", "(I)I"⟩
abbrev b_V_octet : ByteArray := prog_1_method_11_code
def y_V_octet : MethodName := ⟨R_V, "octet", "(I)I"⟩
abbrev b_V_pointAt : ByteArray := prog_1_method_12_code
def y_V_pointAt : MethodName := ⟨R_V, "pointAt", "(I)I"⟩
abbrev b_M_in : ByteArray := prog_7_method_1_code
def y_M_in : MethodName := ⟨R_M, "in", "(JJJ)Z"⟩
abbrev b_M_isLike : ByteArray := prog_7_method_2_code
def y_M_isLike : MethodName := ⟨R_M, "isLike", "([B[BII)Z"⟩
abbrev b_M_isWhite : ByteArray := prog_7_method_3_code
def y_M_isWhite : MethodName := ⟨R_M, "isWhite", "(I)Z"⟩
abbrev b_M_isDelimiter : ByteArray := prog_7_method_4_code
def y_M_isDelimiter : MethodName := ⟨R_M, "isDelimiter", "(I)Z"⟩
abbrev b_M_isRegular : ByteArray := prog_7_method_5_code
def y_M_isRegular : MethodName := ⟨R_M, "isRegular", "(I)Z"⟩
abbrev b_M_white : ByteArray := prog_7_method_6_code
def y_M_white : MethodName := ⟨R_M, "white", "()V"⟩
abbrev b_M_wordEnd : ByteArray := prog_7_method_7_code
def y_M_wordEnd : MethodName := ⟨R_M, "wordEnd", "(I)I"⟩
abbrev b_M_isAt_s : ByteArray := prog_7_method_8_code
def y_M_isAt_s : MethodName := ⟨R_M, "isAt", "(ILjava/lang/String;)Z"⟩
abbrev b_M_isWord : ByteArray := prog_7_method_9_code
def y_M_isWord : MethodName := ⟨R_M, "isWord", "(IILjava/lang/String;)Z"⟩
abbrev b_M_takeWord : ByteArray := prog_7_method_10_code
def y_M_takeWord : MethodName := ⟨R_M, "takeWord", "(Ljava/lang/String;)Z"⟩
abbrev b_M_takeByte : ByteArray := prog_7_method_11_code
def y_M_takeByte : MethodName := ⟨R_M, "takeByte", "(I)Z"⟩
abbrev b_M_isDigit : ByteArray := prog_7_method_12_code
def y_M_isDigit : MethodName := ⟨R_M, "isDigit", "(I)Z"⟩
abbrev b_M_numberOf : ByteArray := prog_7_method_13_code
def y_M_numberOf : MethodName := ⟨R_M, "numberOf", "(II)I"⟩
abbrev b_M_takeNumber : ByteArray := prog_7_method_14_code
def y_M_takeNumber : MethodName := ⟨R_M, "takeNumber", "()I"⟩
abbrev b_M_object : ByteArray := prog_7_method_15_code
def y_M_object : MethodName := ⟨R_M, "object", "(I)LValueTextsModel$Part;"⟩
abbrev b_M_reference : ByteArray := prog_7_method_16_code
def y_M_reference : MethodName := ⟨R_M, "reference", "(I)LValueTextsModel$Part;"⟩
abbrev b_M_name : ByteArray := prog_7_method_17_code
def y_M_name : MethodName := ⟨R_M, "name", "()LValueTextsModel$Part;"⟩
abbrev b_M_ofBytes : ByteArray := prog_7_method_18_code
def y_M_ofBytes : MethodName := ⟨R_M, "ofBytes", "(I)LValueTextsModel$Part;"⟩
abbrev b_M_string : ByteArray := prog_7_method_19_code
def y_M_string : MethodName := ⟨R_M, "string", "()LValueTextsModel$Part;"⟩
abbrev b_M_escaped : ByteArray := prog_7_method_20_code
def y_M_escaped : MethodName := ⟨R_M, "escaped", "()I"⟩
abbrev b_M_hexOf : ByteArray := prog_7_method_21_code
def y_M_hexOf : MethodName := ⟨R_M, "hexOf", "(I)I"⟩
abbrev b_M_digits : ByteArray := prog_7_method_22_code
def y_M_digits : MethodName := ⟨R_M, "digits", "()LValueTextsModel$Part;"⟩
abbrev b_M_array : ByteArray := prog_7_method_23_code
def y_M_array : MethodName := ⟨R_M, "array", "(I)LValueTextsModel$Part;"⟩
abbrev b_M_longer : ByteArray := prog_7_method_24_code
def y_M_longer : MethodName := ⟨R_M, "longer", "([LValueTextsModel$Part;)[LValueTextsModel$Part;"⟩
abbrev b_M_dict : ByteArray := prog_7_method_25_code
def y_M_dict : MethodName := ⟨R_M, "dict", "(I)LValueTextsModel$Part;"⟩
abbrev b_M_init : ByteArray := prog_7_method_26_code
def y_M_init : MethodName := ⟨R_M, "<init>", "()V"⟩
abbrev b_M_feed : ByteArray := prog_7_method_27_code
def y_M_feed : MethodName := ⟨R_M, "feed", "(IIIII)I"⟩
abbrev b_M_end : ByteArray := prog_7_method_28_code
def y_M_end : MethodName := ⟨R_M, "end", "(I)I"⟩
abbrev b_M_used : ByteArray := prog_7_method_29_code
def y_M_used : MethodName := ⟨R_M, "used", "()I"⟩
abbrev b_M_read : ByteArray := prog_7_method_30_code
def y_M_read : MethodName := ⟨R_M, "read", "()I"⟩
abbrev b_M_isAt_p : ByteArray := prog_7_method_31_code
def y_M_isAt_p : MethodName := ⟨R_M, "isAt", "(LValueTextsModel$Part;)I"⟩
abbrev b_M_top : ByteArray := prog_7_method_32_code
def y_M_top : MethodName := ⟨R_M, "top", "()I"⟩
abbrev b_M_item : ByteArray := prog_7_method_33_code
def y_M_item : MethodName := ⟨R_M, "item", "(I)I"⟩
abbrev b_M_find : ByteArray := prog_7_method_34_code
def y_M_find : MethodName := ⟨R_M, "find", "()I"⟩
abbrev b_M_look : ByteArray := prog_7_method_35_code
def y_M_look : MethodName := ⟨R_M, "look", "(I)I"⟩
abbrev b_M_tell : ByteArray := prog_7_method_36_code
def y_M_tell : MethodName := ⟨R_M, "tell", "([B)I"⟩
abbrev b_M_bytes : ByteArray := prog_7_method_37_code
def y_M_bytes : MethodName := ⟨R_M, "bytes", "(I)I"⟩
abbrev b_M_octet : ByteArray := prog_7_method_38_code
def y_M_octet : MethodName := ⟨R_M, "octet", "(I)I"⟩
abbrev b_M_say_i : ByteArray := prog_7_method_39_code
def y_M_say_i : MethodName := ⟨R_M, "say", "(I)V"⟩
abbrev b_M_say_s : ByteArray := prog_7_method_40_code
def y_M_say_s : MethodName := ⟨R_M, "say", "(Ljava/lang/String;)V"⟩
abbrev b_M_say_b : ByteArray := prog_7_method_41_code
def y_M_say_b : MethodName := ⟨R_M, "say", "([B)V"⟩
abbrev b_M_number : ByteArray := prog_7_method_42_code
def y_M_number : MethodName := ⟨R_M, "number", "(II)V"⟩
abbrev b_M_hexDigit : ByteArray := prog_7_method_43_code
def y_M_hexDigit : MethodName := ⟨R_M, "hexDigit", "(I)V"⟩
abbrev b_M_write_p : ByteArray := prog_7_method_44_code
def y_M_write_p : MethodName := ⟨R_M, "write", "(LValueTextsModel$Part;)V"⟩
abbrev b_M_write : ByteArray := prog_7_method_45_code
def y_M_write : MethodName := ⟨R_M, "write", "()I"⟩
abbrev b_Reader_init : ByteArray := prog_2_method_1_code
def y_Reader_init : MethodName := ⟨R_Reader, "<init>", "(LValueTexts$Row;LValueTexts$Tree;)V"⟩
abbrev b_Reader_readsAll : ByteArray := prog_2_method_2_code
def y_Reader_readsAll : MethodName := ⟨R_Reader, "readsAll", "()Z"⟩
abbrev b_Reader_object : ByteArray := prog_2_method_3_code
def y_Reader_object : MethodName := ⟨R_Reader, "object", "(I)Z"⟩
abbrev b_Reader_array : ByteArray := prog_2_method_4_code
def y_Reader_array : MethodName := ⟨R_Reader, "array", "(I)Z"⟩
abbrev b_Reader_dict : ByteArray := prog_2_method_5_code
def y_Reader_dict : MethodName := ⟨R_Reader, "dict", "(I)Z"⟩
abbrev b_Reader_name : ByteArray := prog_2_method_6_code
def y_Reader_name : MethodName := ⟨R_Reader, "name", "()Z"⟩
abbrev b_Reader_plainString : ByteArray := prog_2_method_7_code
def y_Reader_plainString : MethodName := ⟨R_Reader, "plainString", "()Z"⟩
abbrev b_Reader_escaped : ByteArray := prog_2_method_8_code
def y_Reader_escaped : MethodName := ⟨R_Reader, "escaped", "()I"⟩
abbrev b_Reader_octalDigit : ByteArray := prog_2_method_9_code
def y_Reader_octalDigit : MethodName := ⟨R_Reader, "octalDigit", "(I)I"⟩
abbrev b_Reader_hexString : ByteArray := prog_2_method_10_code
def y_Reader_hexString : MethodName := ⟨R_Reader, "hexString", "()Z"⟩
abbrev b_Reader_hexDigit : ByteArray := prog_2_method_11_code
def y_Reader_hexDigit : MethodName := ⟨R_Reader, "hexDigit", "(I)I"⟩
abbrev b_Reader_word : ByteArray := prog_2_method_12_code
def y_Reader_word : MethodName := ⟨R_Reader, "word", "()Z"⟩
abbrev b_Reader_kindOfWord : ByteArray := prog_2_method_13_code
def y_Reader_kindOfWord : MethodName := ⟨R_Reader, "kindOfWord", "(I)I"⟩
abbrev b_Reader_isWord : ByteArray := prog_2_method_14_code
def y_Reader_isWord : MethodName := ⟨R_Reader, "isWord", "(Ljava/lang/String;I)Z"⟩
abbrev b_Reader_number : ByteArray := prog_2_method_15_code
def y_Reader_number : MethodName := ⟨R_Reader, "number", "()Z"⟩
abbrev b_Reader_isBelow : ByteArray := prog_2_method_16_code
def y_Reader_isBelow : MethodName := ⟨R_Reader, "isBelow", "(III)Z"⟩
abbrev b_Reader_isInt : ByteArray := prog_2_method_17_code
def y_Reader_isInt : MethodName := ⟨R_Reader, "isInt", "(II)Z"⟩
abbrev b_Reader_numberAt : ByteArray := prog_2_method_18_code
def y_Reader_numberAt : MethodName := ⟨R_Reader, "numberAt", "(II)I"⟩
abbrev b_Reader_wordLength : ByteArray := prog_2_method_19_code
def y_Reader_wordLength : MethodName := ⟨R_Reader, "wordLength", "(I)I"⟩
abbrev b_Reader_isRegular : ByteArray := prog_2_method_20_code
def y_Reader_isRegular : MethodName := ⟨R_Reader, "isRegular", "(I)Z"⟩
abbrev b_Reader_afterWhite : ByteArray := prog_2_method_21_code
def y_Reader_afterWhite : MethodName := ⟨R_Reader, "afterWhite", "(I)I"⟩
abbrev b_Reader_isWhite : ByteArray := prog_2_method_22_code
def y_Reader_isWhite : MethodName := ⟨R_Reader, "isWhite", "(I)Z"⟩
abbrev b_Row_init : ByteArray := prog_3_method_1_code
def y_Row_init : MethodName := ⟨R_Row, "<init>", "(I)V"⟩
abbrev b_Row_size : ByteArray := prog_3_method_2_code
def y_Row_size : MethodName := ⟨R_Row, "size", "()I"⟩
abbrev b_Row_get : ByteArray := prog_3_method_3_code
def y_Row_get : MethodName := ⟨R_Row, "get", "(I)I"⟩
abbrev b_Row_cut : ByteArray := prog_3_method_4_code
def y_Row_cut : MethodName := ⟨R_Row, "cut", "(I)V"⟩
abbrev b_Row_add : ByteArray := prog_3_method_5_code
def y_Row_add : MethodName := ⟨R_Row, "add", "(I)V"⟩
abbrev b_Row_addFour : ByteArray := prog_3_method_6_code
def y_Row_addFour : MethodName := ⟨R_Row, "addFour", "(I)V"⟩
abbrev b_Row_addWord : ByteArray := prog_3_method_7_code
def y_Row_addWord : MethodName := ⟨R_Row, "addWord", "(Ljava/lang/String;)V"⟩
abbrev b_Row_addFrom : ByteArray := prog_3_method_8_code
def y_Row_addFrom : MethodName := ⟨R_Row, "addFrom", "(LValueTexts$Row;II)V"⟩
abbrev b_Row_hasAt : ByteArray := prog_3_method_9_code
def y_Row_hasAt : MethodName := ⟨R_Row, "hasAt", "(ILValueTexts$Row;II)Z"⟩
abbrev b_Tree_init : ByteArray := prog_4_method_1_code
def y_Tree_init : MethodName := ⟨R_Tree, "<init>", "()V"⟩
abbrev b_Tree_clear : ByteArray := prog_4_method_2_code
def y_Tree_clear : MethodName := ⟨R_Tree, "clear", "()V"⟩
abbrev b_Tree_add : ByteArray := prog_4_method_3_code
def y_Tree_add : MethodName := ⟨R_Tree, "add", "(III)I"⟩
abbrev b_Tree_countPart : ByteArray := prog_4_method_4_code
def y_Tree_countPart : MethodName := ⟨R_Tree, "countPart", "(I)V"⟩
abbrev b_Tree_text : ByteArray := prog_4_method_5_code
def y_Tree_text : MethodName := ⟨R_Tree, "text", "()LValueTexts$Row;"⟩
abbrev b_Tree_kind : ByteArray := prog_4_method_6_code
def y_Tree_kind : MethodName := ⟨R_Tree, "kind", "(I)I"⟩
abbrev b_Tree_number : ByteArray := prog_4_method_7_code
def y_Tree_number : MethodName := ⟨R_Tree, "number", "(I)I"⟩
abbrev b_Tree_other : ByteArray := prog_4_method_8_code
def y_Tree_other : MethodName := ⟨R_Tree, "other", "(I)I"⟩
abbrev b_Tree_holds : ByteArray := prog_4_method_9_code
def y_Tree_holds : MethodName := ⟨R_Tree, "holds", "(I)Z"⟩
abbrev b_Tree_after : ByteArray := prog_4_method_10_code
def y_Tree_after : MethodName := ⟨R_Tree, "after", "(I)I"⟩
abbrev b_Tree_part : ByteArray := prog_4_method_11_code
def y_Tree_part : MethodName := ⟨R_Tree, "part", "(II)I"⟩
abbrev b_Tree_itemNode : ByteArray := prog_4_method_12_code
def y_Tree_itemNode : MethodName := ⟨R_Tree, "itemNode", "(II)I"⟩
abbrev b_Tree_nameNode : ByteArray := prog_4_method_13_code
def y_Tree_nameNode : MethodName := ⟨R_Tree, "nameNode", "(II)I"⟩
abbrev b_Tree_valueNamed : ByteArray := prog_4_method_14_code
def y_Tree_valueNamed : MethodName := ⟨R_Tree, "valueNamed", "(ILValueTexts$Row;II)I"⟩
abbrev b_Tree_nodeWithText : ByteArray := prog_4_method_15_code
def y_Tree_nodeWithText : MethodName := ⟨R_Tree, "nodeWithText", "(II)I"⟩
abbrev b_Tree_countValues : ByteArray := prog_4_method_16_code
def y_Tree_countValues : MethodName := ⟨R_Tree, "countValues", "(I)I"⟩
abbrev b_Writer_init : ByteArray := prog_5_method_1_code
def y_Writer_init : MethodName := ⟨R_Writer, "<init>", "(LValueTexts$Tree;LValueTexts$Row;)V"⟩
abbrev b_Writer_addAll : ByteArray := prog_5_method_2_code
def y_Writer_addAll : MethodName := ⟨R_Writer, "addAll", "(I)V"⟩
abbrev b_Writer_addValue : ByteArray := prog_5_method_3_code
def y_Writer_addValue : MethodName := ⟨R_Writer, "addValue", "(II)V"⟩
abbrev b_Writer_addInt : ByteArray := prog_5_method_4_code
def y_Writer_addInt : MethodName := ⟨R_Writer, "addInt", "(I)V"⟩
abbrev b_Writer_addName : ByteArray := prog_5_method_5_code
def y_Writer_addName : MethodName := ⟨R_Writer, "addName", "(I)V"⟩
abbrev b_Writer_addString : ByteArray := prog_5_method_6_code
def y_Writer_addString : MethodName := ⟨R_Writer, "addString", "(I)V"⟩
abbrev b_Writer_hexDigit : ByteArray := prog_5_method_7_code
def y_Writer_hexDigit : MethodName := ⟨R_Writer, "hexDigit", "(I)I"⟩
abbrev b_Writer_addRef : ByteArray := prog_5_method_8_code
def y_Writer_addRef : MethodName := ⟨R_Writer, "addRef", "(I)V"⟩
abbrev b_Writer_addArray : ByteArray := prog_5_method_9_code
def y_Writer_addArray : MethodName := ⟨R_Writer, "addArray", "(II)V"⟩
abbrev b_Writer_addDict : ByteArray := prog_5_method_10_code
def y_Writer_addDict : MethodName := ⟨R_Writer, "addDict", "(II)V"⟩
abbrev b_Writer_addSpaceBefore : ByteArray := prog_5_method_11_code
def y_Writer_addSpaceBefore : MethodName := ⟨R_Writer, "addSpaceBefore", "(I)V"⟩
abbrev b_Part_init : ByteArray := prog_8_method_1_code
def y_Part_init : MethodName := ⟨R_Part, "<init>", "(I)V"⟩
abbrev b_Part_parts : ByteArray := prog_8_method_2_code
def y_Part_parts : MethodName := ⟨R_Part, "parts", "()I"⟩
abbrev b_Part_get : ByteArray := prog_8_method_3_code
def y_Part_get : MethodName := ⟨R_Part, "get", "([BII)LValueTextsModel$Part;"⟩
abbrev b_Math_min : ByteArray := prog_10_method_69_code
def y_Math_min : MethodName := ⟨R_Math, "min", "(II)I"⟩
abbrev b_Str_charAt : ByteArray := prog_11_method_56_code
def y_Str_charAt : MethodName := ⟨R_Str, "charAt", "(I)C"⟩
abbrev b_Str_checkIndex : ByteArray := prog_11_method_155_code
def y_Str_checkIndex : MethodName := ⟨R_Str, "checkIndex", "(II)V"⟩
abbrev b_Str_coder : ByteArray := prog_11_method_152_code
def y_Str_coder : MethodName := ⟨R_Str, "coder", "()B"⟩
abbrev b_Str_isLatin1 : ByteArray := prog_11_method_154_code
def y_Str_isLatin1 : MethodName := ⟨R_Str, "isLatin1", "()Z"⟩
abbrev b_Str_length : ByteArray := prog_11_method_54_code
def y_Str_length : MethodName := ⟨R_Str, "length", "()I"⟩
abbrev b_SL_charAt : ByteArray := prog_12_method_2_code
def y_SL_charAt : MethodName := ⟨R_SL, "charAt", "([BI)C"⟩
abbrev b_Arr_copyOf : ByteArray := prog_15_method_121_code
def y_Arr_copyOf : MethodName := ⟨R_Arr, "copyOf", "([BI)[B"⟩
abbrev b_Arr_copyOfRange : ByteArray := prog_15_method_132_code
def y_Arr_copyOfRange : MethodName := ⟨R_Arr, "copyOfRange", "([BII)[B"⟩
abbrev b_Pre_checkIndex : ByteArray := prog_16_method_11_code
def y_Pre_checkIndex : MethodName := ⟨R_Pre, "checkIndex", "(IILjava/util/function/BiFunction;)I"⟩
abbrev b_Arr_copyOfRangeByte : ByteArray := prog_15_method_133_code
def y_Arr_copyOfRangeByte : MethodName := ⟨R_Arr, "copyOfRangeByte", "([BII)[B"⟩
abbrev b_Arr_checkLength : ByteArray := prog_15_method_131_code
def y_Arr_checkLength : MethodName := ⟨R_Arr, "checkLength", "(II)V"⟩
abbrev vwCl : List vw_C := [(R_V, F_V, 5), (R_Row, F_Row, 2), (R_Tree, F_Tree, 6), (R_Reader, F_Reader, 3), (R_Writer, F_Writer, 2), (R_M, F_M, 12), (R_Part, F_Part, 7)]
end
section
/-- the words that every method of mine has: all that keep -/
def bigW : List Cond := lw_tbl.filter goodWord
theorem big_r {w : Cond} {i : Nat} (h : tables_1[i]? = some w) (hg : goodWord w = true) : w ∈ bigW := List.mem_filter.mpr ⟨List.mem_append_right _ (List.mem_of_getElem? h), hg⟩
theorem big_s {w : Cond} {i : Nat} (h : (k2_sels lw_privs)[i]? = some w) (hg : goodWord w = true) : w ∈ bigW := List.mem_filter.mpr ⟨List.mem_append_left _ (List.mem_of_getElem? h), hg⟩
theorem big_good {w : Cond} (h : w ∈ bigW) : (w.onTables && w.keeps) = true ∨ ∃ ty, w = .arrayClass ty := good_of_word (List.mem_filter.mp h).2
theorem ms_0 : Cond.selects R_Reader y_Reader_object y_Reader_object ∈ bigW := big_s (i := 0) (by decide +kernel) (by decide +kernel)
theorem ms_1 : Cond.selects R_Reader y_Reader_afterWhite y_Reader_afterWhite ∈ bigW := big_s (i := 1) (by decide +kernel) (by decide +kernel)
theorem ms_2 : Cond.selects R_Reader y_Reader_name y_Reader_name ∈ bigW := big_s (i := 2) (by decide +kernel) (by decide +kernel)
theorem ms_3 : Cond.selects R_Reader y_Reader_wordLength y_Reader_wordLength ∈ bigW := big_s (i := 3) (by decide +kernel) (by decide +kernel)
theorem ms_4 : Cond.selects R_Reader y_Reader_plainString y_Reader_plainString ∈ bigW := big_s (i := 4) (by decide +kernel) (by decide +kernel)
theorem ms_5 : Cond.selects R_Reader y_Reader_escaped y_Reader_escaped ∈ bigW := big_s (i := 5) (by decide +kernel) (by decide +kernel)
theorem ms_6 : Cond.selects R_Reader y_Reader_octalDigit y_Reader_octalDigit ∈ bigW := big_s (i := 6) (by decide +kernel) (by decide +kernel)
theorem ms_7 : Cond.selects R_Reader y_Reader_dict y_Reader_dict ∈ bigW := big_s (i := 7) (by decide +kernel) (by decide +kernel)
theorem ms_8 : Cond.selects R_Tree y_Tree_holds y_Tree_holds ∈ bigW := big_s (i := 8) (by decide +kernel) (by decide +kernel)
theorem ms_9 : Cond.selects R_Reader y_Reader_hexString y_Reader_hexString ∈ bigW := big_s (i := 9) (by decide +kernel) (by decide +kernel)
theorem ms_10 : Cond.selects R_Reader y_Reader_hexDigit y_Reader_hexDigit ∈ bigW := big_s (i := 10) (by decide +kernel) (by decide +kernel)
theorem ms_11 : Cond.selects R_Reader y_Reader_array y_Reader_array ∈ bigW := big_s (i := 11) (by decide +kernel) (by decide +kernel)
theorem ms_12 : Cond.selects R_Reader y_Reader_number y_Reader_number ∈ bigW := big_s (i := 12) (by decide +kernel) (by decide +kernel)
theorem ms_13 : Cond.selects R_Reader y_Reader_isInt y_Reader_isInt ∈ bigW := big_s (i := 13) (by decide +kernel) (by decide +kernel)
theorem ms_14 : Cond.selects R_Reader y_Reader_isBelow y_Reader_isBelow ∈ bigW := big_s (i := 14) (by decide +kernel) (by decide +kernel)
theorem ms_15 : Cond.selects R_Reader y_Reader_numberAt y_Reader_numberAt ∈ bigW := big_s (i := 15) (by decide +kernel) (by decide +kernel)
theorem ms_16 : Cond.selects R_Reader y_Reader_word y_Reader_word ∈ bigW := big_s (i := 16) (by decide +kernel) (by decide +kernel)
theorem ms_17 : Cond.selects R_Reader y_Reader_kindOfWord y_Reader_kindOfWord ∈ bigW := big_s (i := 17) (by decide +kernel) (by decide +kernel)
theorem ms_18 : Cond.selects R_Reader y_Reader_isWord y_Reader_isWord ∈ bigW := big_s (i := 18) (by decide +kernel) (by decide +kernel)
theorem ms_28 : Cond.selects R_Tree y_Tree_nameNode y_Tree_nameNode ∈ bigW := big_s (i := 28) (by decide +kernel) (by decide +kernel)
theorem ms_29 : Cond.selects R_Tree y_Tree_itemNode y_Tree_itemNode ∈ bigW := big_s (i := 29) (by decide +kernel) (by decide +kernel)
theorem m_2 : Cond.initialized R_Row ∈ bigW := big_r (i := 2) (by decide +kernel) (by decide +kernel)
theorem m_3 : Cond.initialized R_Tree ∈ bigW := big_r (i := 3) (by decide +kernel) (by decide +kernel)
theorem m_5 : Cond.initialized R_Reader ∈ bigW := big_r (i := 5) (by decide +kernel) (by decide +kernel)
theorem m_6 : Cond.initialized R_Str ∈ bigW := big_r (i := 6) (by decide +kernel) (by decide +kernel)
theorem m_7 : Cond.initialized R_SL ∈ bigW := big_r (i := 7) (by decide +kernel) (by decide +kernel)
theorem m_8 : Cond.initialized R_Pre ∈ bigW := big_r (i := 8) (by decide +kernel) (by decide +kernel)
theorem m_21 : Cond.instanceMethod objectInit ∈ bigW := big_r (i := 21) (by decide +kernel) (by decide +kernel)
theorem m_24 : Cond.instantiable R_Row 2 ∈ bigW := big_r (i := 24) (by decide +kernel) (by decide +kernel)
theorem m_26 : Cond.instanceMethod y_Row_init ∈ bigW := big_r (i := 26) (by decide +kernel) (by decide +kernel)
theorem m_27 : Cond.code y_Row_init b_Row_init 2 none ∈ bigW := big_r (i := 27) (by decide +kernel) (by decide +kernel)
theorem m_28 : Cond.methodLink R_Row 1 objectInit ∈ bigW := big_r (i := 28) (by decide +kernel) (by decide +kernel)
theorem m_29 : Cond.fieldLink R_Row 7 "ValueTexts$Row" "cells" "[B" ∈ bigW := big_r (i := 29) (by decide +kernel) (by decide +kernel)
theorem m_30 : Cond.fieldLink R_Row 13 "ValueTexts$Row" "size" "I" ∈ bigW := big_r (i := 30) (by decide +kernel) (by decide +kernel)
theorem m_36 : Cond.arrayClass .byte ∈ bigW := big_r (i := 36) (by decide +kernel) (by decide +kernel)
theorem m_42 : Cond.methodLink R_Tree 3 objectInit ∈ bigW := big_r (i := 42) (by decide +kernel) (by decide +kernel)
theorem m_43 : Cond.classLink R_Tree 25 R_Row ∈ bigW := big_r (i := 43) (by decide +kernel) (by decide +kernel)
theorem m_44 : Cond.methodLink R_Tree 27 y_Row_init ∈ bigW := big_r (i := 44) (by decide +kernel) (by decide +kernel)
theorem m_45 : Cond.fieldLink R_Tree 9 "ValueTexts$Tree" "kinds" "[B" ∈ bigW := big_r (i := 45) (by decide +kernel) (by decide +kernel)
theorem m_46 : Cond.fieldLink R_Tree 15 "ValueTexts$Tree" "numbers" "[I" ∈ bigW := big_r (i := 46) (by decide +kernel) (by decide +kernel)
theorem m_47 : Cond.fieldLink R_Tree 19 "ValueTexts$Tree" "others" "[I" ∈ bigW := big_r (i := 47) (by decide +kernel) (by decide +kernel)
theorem m_48 : Cond.fieldLink R_Tree 22 "ValueTexts$Tree" "spans" "[I" ∈ bigW := big_r (i := 48) (by decide +kernel) (by decide +kernel)
theorem m_49 : Cond.fieldLink R_Tree 30 "ValueTexts$Tree" "text" "LValueTexts$Row;" ∈ bigW := big_r (i := 49) (by decide +kernel) (by decide +kernel)
theorem m_50 : Cond.fieldLink R_Tree 34 "ValueTexts$Tree" "size" "I" ∈ bigW := big_r (i := 50) (by decide +kernel) (by decide +kernel)
theorem m_64 : Cond.arrayClass .int ∈ bigW := big_r (i := 64) (by decide +kernel) (by decide +kernel)
theorem m_86 : Cond.instanceMethod y_Row_size ∈ bigW := big_r (i := 86) (by decide +kernel) (by decide +kernel)
theorem m_87 : Cond.selects R_Row y_Row_size y_Row_size ∈ bigW := big_r (i := 87) (by decide +kernel) (by decide +kernel)
theorem m_88 : Cond.code y_Row_size b_Row_size 1 (some .int) ∈ bigW := big_r (i := 88) (by decide +kernel) (by decide +kernel)
theorem m_93 : Cond.methodLink R_Row 17 y_Row_add ∈ bigW := big_r (i := 93) (by decide +kernel) (by decide +kernel)
theorem m_94 : Cond.instanceMethod y_Row_add ∈ bigW := big_r (i := 94) (by decide +kernel) (by decide +kernel)
theorem m_95 : Cond.selects R_Row y_Row_add y_Row_add ∈ bigW := big_r (i := 95) (by decide +kernel) (by decide +kernel)
theorem m_96 : Cond.code y_Row_add b_Row_add 2 none ∈ bigW := big_r (i := 96) (by decide +kernel) (by decide +kernel)
theorem m_102 : Cond.instanceMethod y_Row_cut ∈ bigW := big_r (i := 102) (by decide +kernel) (by decide +kernel)
theorem m_103 : Cond.selects R_Row y_Row_cut y_Row_cut ∈ bigW := big_r (i := 103) (by decide +kernel) (by decide +kernel)
theorem m_104 : Cond.code y_Row_cut b_Row_cut 2 none ∈ bigW := big_r (i := 104) (by decide +kernel) (by decide +kernel)
theorem m_114 : Cond.methodLink R_Reader 3 objectInit ∈ bigW := big_r (i := 114) (by decide +kernel) (by decide +kernel)
theorem m_115 : Cond.fieldLink R_Reader 9 "ValueTexts$Reader" "tape" "LValueTexts$Row;" ∈ bigW := big_r (i := 115) (by decide +kernel) (by decide +kernel)
theorem m_116 : Cond.fieldLink R_Reader 15 "ValueTexts$Reader" "tree" "LValueTexts$Tree;" ∈ bigW := big_r (i := 116) (by decide +kernel) (by decide +kernel)
theorem m_117 : Cond.fieldLink R_Reader 19 "ValueTexts$Reader" "at" "I" ∈ bigW := big_r (i := 117) (by decide +kernel) (by decide +kernel)
theorem m_129 : Cond.methodLink R_Reader 23 y_Tree_clear ∈ bigW := big_r (i := 129) (by decide +kernel) (by decide +kernel)
theorem m_130 : Cond.instanceMethod y_Tree_clear ∈ bigW := big_r (i := 130) (by decide +kernel) (by decide +kernel)
theorem m_131 : Cond.selects R_Tree y_Tree_clear y_Tree_clear ∈ bigW := big_r (i := 131) (by decide +kernel) (by decide +kernel)
theorem m_132 : Cond.code y_Tree_clear b_Tree_clear 1 none ∈ bigW := big_r (i := 132) (by decide +kernel) (by decide +kernel)
theorem m_133 : Cond.methodLink R_Tree 38 y_Row_cut ∈ bigW := big_r (i := 133) (by decide +kernel) (by decide +kernel)
theorem m_134 : Cond.methodLink R_Reader 28 y_Reader_object ∈ bigW := big_r (i := 134) (by decide +kernel) (by decide +kernel)
theorem m_136 : Cond.instanceMethod y_Reader_object ∈ bigW := big_r (i := 136) (by decide +kernel) (by decide +kernel)
theorem m_137 : Cond.code y_Reader_object b_Reader_object 2 (some .boolean) ∈ bigW := big_r (i := 137) (by decide +kernel) (by decide +kernel)
theorem m_138 : Cond.methodLink R_Reader 32 y_Reader_afterWhite ∈ bigW := big_r (i := 138) (by decide +kernel) (by decide +kernel)
theorem m_140 : Cond.instanceMethod y_Reader_afterWhite ∈ bigW := big_r (i := 140) (by decide +kernel) (by decide +kernel)
theorem m_141 : Cond.code y_Reader_afterWhite b_Reader_afterWhite 3 (some .int) ∈ bigW := big_r (i := 141) (by decide +kernel) (by decide +kernel)
theorem m_142 : Cond.methodLink R_Reader 36 y_Row_size ∈ bigW := big_r (i := 142) (by decide +kernel) (by decide +kernel)
theorem m_143 : Cond.methodLink R_Reader 42 y_Row_get ∈ bigW := big_r (i := 143) (by decide +kernel) (by decide +kernel)
theorem m_144 : Cond.instanceMethod y_Row_get ∈ bigW := big_r (i := 144) (by decide +kernel) (by decide +kernel)
theorem m_145 : Cond.selects R_Row y_Row_get y_Row_get ∈ bigW := big_r (i := 145) (by decide +kernel) (by decide +kernel)
theorem m_146 : Cond.code y_Row_get b_Row_get 2 (some .int) ∈ bigW := big_r (i := 146) (by decide +kernel) (by decide +kernel)
theorem m_147 : Cond.methodLink R_Reader 139 y_Reader_isWhite ∈ bigW := big_r (i := 147) (by decide +kernel) (by decide +kernel)
theorem m_148 : Cond.static y_Reader_isWhite ∈ bigW := big_r (i := 148) (by decide +kernel) (by decide +kernel)
theorem m_149 : Cond.code y_Reader_isWhite b_Reader_isWhite 1 (some .boolean) ∈ bigW := big_r (i := 149) (by decide +kernel) (by decide +kernel)
theorem m_150 : Cond.methodLink R_Reader 45 y_Reader_name ∈ bigW := big_r (i := 150) (by decide +kernel) (by decide +kernel)
theorem m_152 : Cond.instanceMethod y_Reader_name ∈ bigW := big_r (i := 152) (by decide +kernel) (by decide +kernel)
theorem m_153 : Cond.code y_Reader_name b_Reader_name 2 (some .boolean) ∈ bigW := big_r (i := 153) (by decide +kernel) (by decide +kernel)
theorem m_154 : Cond.methodLink R_Reader 75 y_Reader_wordLength ∈ bigW := big_r (i := 154) (by decide +kernel) (by decide +kernel)
theorem m_156 : Cond.instanceMethod y_Reader_wordLength ∈ bigW := big_r (i := 156) (by decide +kernel) (by decide +kernel)
theorem m_157 : Cond.code y_Reader_wordLength b_Reader_wordLength 3 (some .int) ∈ bigW := big_r (i := 157) (by decide +kernel) (by decide +kernel)
theorem m_158 : Cond.methodLink R_Reader 136 y_Reader_isRegular ∈ bigW := big_r (i := 158) (by decide +kernel) (by decide +kernel)
theorem m_159 : Cond.static y_Reader_isRegular ∈ bigW := big_r (i := 159) (by decide +kernel) (by decide +kernel)
theorem m_160 : Cond.code y_Reader_isRegular b_Reader_isRegular 1 (some .boolean) ∈ bigW := big_r (i := 160) (by decide +kernel) (by decide +kernel)
theorem m_161 : Cond.methodLink R_Reader 82 y_Tree_text ∈ bigW := big_r (i := 161) (by decide +kernel) (by decide +kernel)
theorem m_162 : Cond.instanceMethod y_Tree_text ∈ bigW := big_r (i := 162) (by decide +kernel) (by decide +kernel)
theorem m_163 : Cond.selects R_Tree y_Tree_text y_Tree_text ∈ bigW := big_r (i := 163) (by decide +kernel) (by decide +kernel)
theorem m_164 : Cond.code y_Tree_text b_Tree_text 1 (some (.object "ValueTexts$Row")) ∈ bigW := big_r (i := 164) (by decide +kernel) (by decide +kernel)
theorem m_165 : Cond.methodLink R_Reader 67 y_Tree_add ∈ bigW := big_r (i := 165) (by decide +kernel) (by decide +kernel)
theorem m_166 : Cond.instanceMethod y_Tree_add ∈ bigW := big_r (i := 166) (by decide +kernel) (by decide +kernel)
theorem m_167 : Cond.selects R_Tree y_Tree_add y_Tree_add ∈ bigW := big_r (i := 167) (by decide +kernel) (by decide +kernel)
theorem m_168 : Cond.code y_Tree_add b_Tree_add 5 (some .int) ∈ bigW := big_r (i := 168) (by decide +kernel) (by decide +kernel)
theorem m_169 : Cond.methodLink R_Reader 86 y_Row_addFrom ∈ bigW := big_r (i := 169) (by decide +kernel) (by decide +kernel)
theorem m_170 : Cond.instanceMethod y_Row_addFrom ∈ bigW := big_r (i := 170) (by decide +kernel) (by decide +kernel)
theorem m_171 : Cond.selects R_Row y_Row_addFrom y_Row_addFrom ∈ bigW := big_r (i := 171) (by decide +kernel) (by decide +kernel)
theorem m_172 : Cond.code y_Row_addFrom b_Row_addFrom 5 none ∈ bigW := big_r (i := 172) (by decide +kernel) (by decide +kernel)
theorem m_173 : Cond.methodLink R_Row 31 y_Row_get ∈ bigW := big_r (i := 173) (by decide +kernel) (by decide +kernel)
theorem m_174 : Cond.methodLink R_Reader 49 y_Reader_plainString ∈ bigW := big_r (i := 174) (by decide +kernel) (by decide +kernel)
theorem m_176 : Cond.instanceMethod y_Reader_plainString ∈ bigW := big_r (i := 176) (by decide +kernel) (by decide +kernel)
theorem m_177 : Cond.code y_Reader_plainString b_Reader_plainString 4 (some .boolean) ∈ bigW := big_r (i := 177) (by decide +kernel) (by decide +kernel)
theorem m_178 : Cond.methodLink R_Reader 90 y_Reader_escaped ∈ bigW := big_r (i := 178) (by decide +kernel) (by decide +kernel)
theorem m_180 : Cond.instanceMethod y_Reader_escaped ∈ bigW := big_r (i := 180) (by decide +kernel) (by decide +kernel)
theorem m_181 : Cond.code y_Reader_escaped b_Reader_escaped 5 (some .int) ∈ bigW := big_r (i := 181) (by decide +kernel) (by decide +kernel)
theorem m_182 : Cond.methodLink R_Reader 95 y_Reader_octalDigit ∈ bigW := big_r (i := 182) (by decide +kernel) (by decide +kernel)
theorem m_184 : Cond.instanceMethod y_Reader_octalDigit ∈ bigW := big_r (i := 184) (by decide +kernel) (by decide +kernel)
theorem m_185 : Cond.code y_Reader_octalDigit b_Reader_octalDigit 3 (some .int) ∈ bigW := big_r (i := 185) (by decide +kernel) (by decide +kernel)
theorem m_186 : Cond.methodLink R_Reader 93 y_Row_add ∈ bigW := big_r (i := 186) (by decide +kernel) (by decide +kernel)
theorem m_187 : Cond.methodLink R_Reader 52 y_Reader_dict ∈ bigW := big_r (i := 187) (by decide +kernel) (by decide +kernel)
theorem m_189 : Cond.instanceMethod y_Reader_dict ∈ bigW := big_r (i := 189) (by decide +kernel) (by decide +kernel)
theorem m_190 : Cond.code y_Reader_dict b_Reader_dict 5 (some .boolean) ∈ bigW := big_r (i := 190) (by decide +kernel) (by decide +kernel)
theorem m_191 : Cond.methodLink R_Reader 78 y_Tree_valueNamed ∈ bigW := big_r (i := 191) (by decide +kernel) (by decide +kernel)
theorem m_192 : Cond.instanceMethod y_Tree_valueNamed ∈ bigW := big_r (i := 192) (by decide +kernel) (by decide +kernel)
theorem m_193 : Cond.selects R_Tree y_Tree_valueNamed y_Tree_valueNamed ∈ bigW := big_r (i := 193) (by decide +kernel) (by decide +kernel)
theorem m_194 : Cond.code y_Tree_valueNamed b_Tree_valueNamed 8 (some .int) ∈ bigW := big_r (i := 194) (by decide +kernel) (by decide +kernel)
theorem m_195 : Cond.methodLink R_Tree 49 y_Tree_kind ∈ bigW := big_r (i := 195) (by decide +kernel) (by decide +kernel)
theorem m_196 : Cond.instanceMethod y_Tree_kind ∈ bigW := big_r (i := 196) (by decide +kernel) (by decide +kernel)
theorem m_197 : Cond.selects R_Tree y_Tree_kind y_Tree_kind ∈ bigW := big_r (i := 197) (by decide +kernel) (by decide +kernel)
theorem m_198 : Cond.code y_Tree_kind b_Tree_kind 2 (some .int) ∈ bigW := big_r (i := 198) (by decide +kernel) (by decide +kernel)
theorem m_199 : Cond.methodLink R_Tree 41 y_Tree_holds ∈ bigW := big_r (i := 199) (by decide +kernel) (by decide +kernel)
theorem m_201 : Cond.instanceMethod y_Tree_holds ∈ bigW := big_r (i := 201) (by decide +kernel) (by decide +kernel)
theorem m_202 : Cond.code y_Tree_holds b_Tree_holds 2 (some .boolean) ∈ bigW := big_r (i := 202) (by decide +kernel) (by decide +kernel)
theorem m_203 : Cond.methodLink R_Tree 45 y_Tree_number ∈ bigW := big_r (i := 203) (by decide +kernel) (by decide +kernel)
theorem m_204 : Cond.instanceMethod y_Tree_number ∈ bigW := big_r (i := 204) (by decide +kernel) (by decide +kernel)
theorem m_205 : Cond.selects R_Tree y_Tree_number y_Tree_number ∈ bigW := big_r (i := 205) (by decide +kernel) (by decide +kernel)
theorem m_206 : Cond.code y_Tree_number b_Tree_number 2 (some .int) ∈ bigW := big_r (i := 206) (by decide +kernel) (by decide +kernel)
theorem m_207 : Cond.methodLink R_Tree 62 y_Tree_other ∈ bigW := big_r (i := 207) (by decide +kernel) (by decide +kernel)
theorem m_208 : Cond.instanceMethod y_Tree_other ∈ bigW := big_r (i := 208) (by decide +kernel) (by decide +kernel)
theorem m_209 : Cond.selects R_Tree y_Tree_other y_Tree_other ∈ bigW := big_r (i := 209) (by decide +kernel) (by decide +kernel)
theorem m_210 : Cond.code y_Tree_other b_Tree_other 2 (some .int) ∈ bigW := big_r (i := 210) (by decide +kernel) (by decide +kernel)
theorem m_211 : Cond.methodLink R_Tree 65 y_Row_hasAt ∈ bigW := big_r (i := 211) (by decide +kernel) (by decide +kernel)
theorem m_212 : Cond.instanceMethod y_Row_hasAt ∈ bigW := big_r (i := 212) (by decide +kernel) (by decide +kernel)
theorem m_213 : Cond.selects R_Row y_Row_hasAt y_Row_hasAt ∈ bigW := big_r (i := 213) (by decide +kernel) (by decide +kernel)
theorem m_214 : Cond.code y_Row_hasAt b_Row_hasAt 6 (some .boolean) ∈ bigW := big_r (i := 214) (by decide +kernel) (by decide +kernel)
theorem m_215 : Cond.methodLink R_Tree 59 y_Tree_after ∈ bigW := big_r (i := 215) (by decide +kernel) (by decide +kernel)
theorem m_216 : Cond.instanceMethod y_Tree_after ∈ bigW := big_r (i := 216) (by decide +kernel) (by decide +kernel)
theorem m_217 : Cond.selects R_Tree y_Tree_after y_Tree_after ∈ bigW := big_r (i := 217) (by decide +kernel) (by decide +kernel)
theorem m_218 : Cond.code y_Tree_after b_Tree_after 2 (some .int) ∈ bigW := big_r (i := 218) (by decide +kernel) (by decide +kernel)
theorem m_219 : Cond.methodLink R_Reader 71 y_Tree_countPart ∈ bigW := big_r (i := 219) (by decide +kernel) (by decide +kernel)
theorem m_220 : Cond.instanceMethod y_Tree_countPart ∈ bigW := big_r (i := 220) (by decide +kernel) (by decide +kernel)
theorem m_221 : Cond.selects R_Tree y_Tree_countPart y_Tree_countPart ∈ bigW := big_r (i := 221) (by decide +kernel) (by decide +kernel)
theorem m_222 : Cond.code y_Tree_countPart b_Tree_countPart 2 none ∈ bigW := big_r (i := 222) (by decide +kernel) (by decide +kernel)
theorem m_223 : Cond.methodLink R_Reader 55 y_Reader_hexString ∈ bigW := big_r (i := 223) (by decide +kernel) (by decide +kernel)
theorem m_225 : Cond.instanceMethod y_Reader_hexString ∈ bigW := big_r (i := 225) (by decide +kernel) (by decide +kernel)
theorem m_226 : Cond.code y_Reader_hexString b_Reader_hexString 5 (some .boolean) ∈ bigW := big_r (i := 226) (by decide +kernel) (by decide +kernel)
theorem m_227 : Cond.methodLink R_Reader 98 y_Reader_hexDigit ∈ bigW := big_r (i := 227) (by decide +kernel) (by decide +kernel)
theorem m_229 : Cond.instanceMethod y_Reader_hexDigit ∈ bigW := big_r (i := 229) (by decide +kernel) (by decide +kernel)
theorem m_230 : Cond.code y_Reader_hexDigit b_Reader_hexDigit 3 (some .int) ∈ bigW := big_r (i := 230) (by decide +kernel) (by decide +kernel)
theorem m_231 : Cond.methodLink R_Reader 58 y_Reader_array ∈ bigW := big_r (i := 231) (by decide +kernel) (by decide +kernel)
theorem m_233 : Cond.instanceMethod y_Reader_array ∈ bigW := big_r (i := 233) (by decide +kernel) (by decide +kernel)
theorem m_234 : Cond.code y_Reader_array b_Reader_array 4 (some .boolean) ∈ bigW := big_r (i := 234) (by decide +kernel) (by decide +kernel)
theorem m_235 : Cond.methodLink R_Reader 61 y_Reader_number ∈ bigW := big_r (i := 235) (by decide +kernel) (by decide +kernel)
theorem m_237 : Cond.instanceMethod y_Reader_number ∈ bigW := big_r (i := 237) (by decide +kernel) (by decide +kernel)
theorem m_238 : Cond.code y_Reader_number b_Reader_number 6 (some .boolean) ∈ bigW := big_r (i := 238) (by decide +kernel) (by decide +kernel)
theorem m_239 : Cond.methodLink R_Reader 123 y_Reader_isInt ∈ bigW := big_r (i := 239) (by decide +kernel) (by decide +kernel)
theorem m_241 : Cond.instanceMethod y_Reader_isInt ∈ bigW := big_r (i := 241) (by decide +kernel) (by decide +kernel)
theorem m_242 : Cond.code y_Reader_isInt b_Reader_isInt 7 (some .boolean) ∈ bigW := big_r (i := 242) (by decide +kernel) (by decide +kernel)
theorem m_243 : Cond.methodLink R_Reader 127 y_Reader_isBelow ∈ bigW := big_r (i := 243) (by decide +kernel) (by decide +kernel)
theorem m_245 : Cond.instanceMethod y_Reader_isBelow ∈ bigW := big_r (i := 245) (by decide +kernel) (by decide +kernel)
theorem m_246 : Cond.code y_Reader_isBelow b_Reader_isBelow 4 (some .boolean) ∈ bigW := big_r (i := 246) (by decide +kernel) (by decide +kernel)
theorem m_247 : Cond.methodLink R_Reader 132 y_Reader_numberAt ∈ bigW := big_r (i := 247) (by decide +kernel) (by decide +kernel)
theorem m_249 : Cond.instanceMethod y_Reader_numberAt ∈ bigW := big_r (i := 249) (by decide +kernel) (by decide +kernel)
theorem m_250 : Cond.code y_Reader_numberAt b_Reader_numberAt 6 (some .int) ∈ bigW := big_r (i := 250) (by decide +kernel) (by decide +kernel)
theorem m_251 : Cond.constant R_Reader 131 65536 ∈ bigW := big_r (i := 251) (by decide +kernel) (by decide +kernel)
theorem m_252 : Cond.methodLink R_Reader 64 y_Reader_word ∈ bigW := big_r (i := 252) (by decide +kernel) (by decide +kernel)
theorem m_254 : Cond.instanceMethod y_Reader_word ∈ bigW := big_r (i := 254) (by decide +kernel) (by decide +kernel)
theorem m_255 : Cond.code y_Reader_word b_Reader_word 3 (some .boolean) ∈ bigW := big_r (i := 255) (by decide +kernel) (by decide +kernel)
theorem m_256 : Cond.methodLink R_Reader 101 y_Reader_kindOfWord ∈ bigW := big_r (i := 256) (by decide +kernel) (by decide +kernel)
theorem m_258 : Cond.instanceMethod y_Reader_kindOfWord ∈ bigW := big_r (i := 258) (by decide +kernel) (by decide +kernel)
theorem m_259 : Cond.code y_Reader_kindOfWord b_Reader_kindOfWord 2 (some .int) ∈ bigW := big_r (i := 259) (by decide +kernel) (by decide +kernel)
theorem m_261 : Cond.methodLink R_Reader 106 y_Reader_isWord ∈ bigW := big_r (i := 261) (by decide +kernel) (by decide +kernel)
theorem m_263 : Cond.instanceMethod y_Reader_isWord ∈ bigW := big_r (i := 263) (by decide +kernel) (by decide +kernel)
theorem m_264 : Cond.code y_Reader_isWord b_Reader_isWord 4 (some .boolean) ∈ bigW := big_r (i := 264) (by decide +kernel) (by decide +kernel)
theorem m_265 : Cond.methodLink R_Reader 114 y_Str_length ∈ bigW := big_r (i := 265) (by decide +kernel) (by decide +kernel)
theorem m_266 : Cond.instanceMethod y_Str_length ∈ bigW := big_r (i := 266) (by decide +kernel) (by decide +kernel)
theorem m_267 : Cond.selects R_Str y_Str_length y_Str_length ∈ bigW := big_r (i := 267) (by decide +kernel) (by decide +kernel)
theorem m_268 : Cond.code y_Str_length b_Str_length 1 (some .int) ∈ bigW := big_r (i := 268) (by decide +kernel) (by decide +kernel)
theorem m_269 : Cond.methodLink R_Str 335 y_Str_coder ∈ bigW := big_r (i := 269) (by decide +kernel) (by decide +kernel)
theorem m_270 : Cond.instanceMethod y_Str_coder ∈ bigW := big_r (i := 270) (by decide +kernel) (by decide +kernel)
theorem m_271 : Cond.selects R_Str y_Str_coder y_Str_coder ∈ bigW := big_r (i := 271) (by decide +kernel) (by decide +kernel)
theorem m_272 : Cond.code y_Str_coder b_Str_coder 1 (some .byte) ∈ bigW := big_r (i := 272) (by decide +kernel) (by decide +kernel)
theorem m_273 : Cond.fieldLink R_Str 38 "java/lang/String" "COMPACT_STRINGS" "Z" ∈ bigW := big_r (i := 273) (by decide +kernel) (by decide +kernel)
theorem m_275 : Cond.methodLink R_Reader 119 y_Str_charAt ∈ bigW := big_r (i := 275) (by decide +kernel) (by decide +kernel)
theorem m_276 : Cond.instanceMethod y_Str_charAt ∈ bigW := big_r (i := 276) (by decide +kernel) (by decide +kernel)
theorem m_277 : Cond.selects R_Str y_Str_charAt y_Str_charAt ∈ bigW := big_r (i := 277) (by decide +kernel) (by decide +kernel)
theorem m_278 : Cond.code y_Str_charAt b_Str_charAt 2 (some .char) ∈ bigW := big_r (i := 278) (by decide +kernel) (by decide +kernel)
theorem m_279 : Cond.methodLink R_Str 492 y_Str_isLatin1 ∈ bigW := big_r (i := 279) (by decide +kernel) (by decide +kernel)
theorem m_280 : Cond.instanceMethod y_Str_isLatin1 ∈ bigW := big_r (i := 280) (by decide +kernel) (by decide +kernel)
theorem m_281 : Cond.selects R_Str y_Str_isLatin1 y_Str_isLatin1 ∈ bigW := big_r (i := 281) (by decide +kernel) (by decide +kernel)
theorem m_282 : Cond.code y_Str_isLatin1 b_Str_isLatin1 1 (some .boolean) ∈ bigW := big_r (i := 282) (by decide +kernel) (by decide +kernel)
theorem m_283 : Cond.methodLink R_Str 495 y_SL_charAt ∈ bigW := big_r (i := 283) (by decide +kernel) (by decide +kernel)
theorem m_284 : Cond.static y_SL_charAt ∈ bigW := big_r (i := 284) (by decide +kernel) (by decide +kernel)
theorem m_285 : Cond.code y_SL_charAt b_SL_charAt 2 (some .char) ∈ bigW := big_r (i := 285) (by decide +kernel) (by decide +kernel)
theorem m_286 : Cond.methodLink R_SL 9 y_Str_checkIndex ∈ bigW := big_r (i := 286) (by decide +kernel) (by decide +kernel)
theorem m_287 : Cond.static y_Str_checkIndex ∈ bigW := big_r (i := 287) (by decide +kernel) (by decide +kernel)
theorem m_288 : Cond.code y_Str_checkIndex b_Str_checkIndex 2 none ∈ bigW := big_r (i := 288) (by decide +kernel) (by decide +kernel)
theorem m_289 : Cond.fieldLink R_Str 1053 "jdk/internal/util/Preconditions" "SIOOBE_FORMATTER" "Ljava/util/function/BiFunction;" ∈ bigW := big_r (i := 289) (by decide +kernel) (by decide +kernel)
theorem m_291 : Cond.methodLink R_Str 1059 y_Pre_checkIndex ∈ bigW := big_r (i := 291) (by decide +kernel) (by decide +kernel)
theorem m_292 : Cond.static y_Pre_checkIndex ∈ bigW := big_r (i := 292) (by decide +kernel) (by decide +kernel)
theorem m_293 : Cond.code y_Pre_checkIndex b_Pre_checkIndex 3 (some .int) ∈ bigW := big_r (i := 293) (by decide +kernel) (by decide +kernel)
theorem m_347 : Cond.methodLink R_Row 21 y_Str_length ∈ bigW := big_r (i := 347) (by decide +kernel) (by decide +kernel)
theorem m_348 : Cond.methodLink R_Row 27 y_Str_charAt ∈ bigW := big_r (i := 348) (by decide +kernel) (by decide +kernel)
theorem m_409 : Cond.methodLink R_Tree 52 y_Tree_nameNode ∈ bigW := big_r (i := 409) (by decide +kernel) (by decide +kernel)
theorem m_411 : Cond.instanceMethod y_Tree_nameNode ∈ bigW := big_r (i := 411) (by decide +kernel) (by decide +kernel)
theorem m_412 : Cond.code y_Tree_nameNode b_Tree_nameNode 5 (some .int) ∈ bigW := big_r (i := 412) (by decide +kernel) (by decide +kernel)
theorem m_413 : Cond.methodLink R_Tree 56 y_Tree_itemNode ∈ bigW := big_r (i := 413) (by decide +kernel) (by decide +kernel)
theorem m_415 : Cond.instanceMethod y_Tree_itemNode ∈ bigW := big_r (i := 415) (by decide +kernel) (by decide +kernel)
theorem m_416 : Cond.code y_Tree_itemNode b_Tree_itemNode 5 (some .int) ∈ bigW := big_r (i := 416) (by decide +kernel) (by decide +kernel)
theorem m_744 : Cond.fieldLink R_Str 9 "java/lang/String" "value" "[B" ∈ bigW := big_r (i := 744) (by decide +kernel) (by decide +kernel)
theorem m_745 : Cond.fieldLink R_Str 15 "java/lang/String" "coder" "B" ∈ bigW := big_r (i := 745) (by decide +kernel) (by decide +kernel)
theorem i_V : ∀ w ∈ u_ws R_V F_V 5, w ∈ bigW := by
  intro w hw
  have e : u_ws R_V F_V 5 = [u_lay R_V F_V 0, u_lay R_V F_V 1, u_lay R_V F_V 2, u_lay R_V F_V 3, u_lay R_V F_V 4] := rfl
  rw [e] at hw
  simp only [List.mem_cons, List.not_mem_nil, or_false] at hw
  rcases hw with rfl | rfl | rfl | rfl | rfl
  · exact big_r (i := 70) (by decide +kernel) (by decide +kernel)
  · exact big_r (i := 72) (by decide +kernel) (by decide +kernel)
  · exact big_r (i := 74) (by decide +kernel) (by decide +kernel)
  · exact big_r (i := 76) (by decide +kernel) (by decide +kernel)
  · exact big_r (i := 78) (by decide +kernel) (by decide +kernel)
theorem i_Row : ∀ w ∈ u_ws R_Row F_Row 2, w ∈ bigW := by
  intro w hw
  have e : u_ws R_Row F_Row 2 = [u_lay R_Row F_Row 0, u_lay R_Row F_Row 1] := rfl
  rw [e] at hw
  simp only [List.mem_cons, List.not_mem_nil, or_false] at hw
  rcases hw with rfl | rfl
  · exact big_r (i := 31) (by decide +kernel) (by decide +kernel)
  · exact big_r (i := 33) (by decide +kernel) (by decide +kernel)
theorem i_Tree : ∀ w ∈ u_ws R_Tree F_Tree 6, w ∈ bigW := by
  intro w hw
  have e : u_ws R_Tree F_Tree 6 = [u_lay R_Tree F_Tree 0, u_lay R_Tree F_Tree 1, u_lay R_Tree F_Tree 2, u_lay R_Tree F_Tree 3, u_lay R_Tree F_Tree 4, u_lay R_Tree F_Tree 5] := rfl
  rw [e] at hw
  simp only [List.mem_cons, List.not_mem_nil, or_false] at hw
  rcases hw with rfl | rfl | rfl | rfl | rfl | rfl
  · exact big_r (i := 51) (by decide +kernel) (by decide +kernel)
  · exact big_r (i := 53) (by decide +kernel) (by decide +kernel)
  · exact big_r (i := 55) (by decide +kernel) (by decide +kernel)
  · exact big_r (i := 57) (by decide +kernel) (by decide +kernel)
  · exact big_r (i := 59) (by decide +kernel) (by decide +kernel)
  · exact big_r (i := 61) (by decide +kernel) (by decide +kernel)
theorem i_Reader : ∀ w ∈ u_ws R_Reader F_Reader 3, w ∈ bigW := by
  intro w hw
  have e : u_ws R_Reader F_Reader 3 = [u_lay R_Reader F_Reader 0, u_lay R_Reader F_Reader 1, u_lay R_Reader F_Reader 2] := rfl
  rw [e] at hw
  simp only [List.mem_cons, List.not_mem_nil, or_false] at hw
  rcases hw with rfl | rfl | rfl
  · exact big_r (i := 118) (by decide +kernel) (by decide +kernel)
  · exact big_r (i := 120) (by decide +kernel) (by decide +kernel)
  · exact big_r (i := 122) (by decide +kernel) (by decide +kernel)
theorem i_Writer : ∀ w ∈ u_ws R_Writer F_Writer 2, w ∈ bigW := by
  intro w hw
  have e : u_ws R_Writer F_Writer 2 = [u_lay R_Writer F_Writer 0, u_lay R_Writer F_Writer 1] := rfl
  rw [e] at hw
  simp only [List.mem_cons, List.not_mem_nil, or_false] at hw
  rcases hw with rfl | rfl
  · exact big_r (i := 328) (by decide +kernel) (by decide +kernel)
  · exact big_r (i := 330) (by decide +kernel) (by decide +kernel)
theorem i_M : ∀ w ∈ u_ws R_M F_M 12, w ∈ bigW := by
  intro w hw
  have e : u_ws R_M F_M 12 = [u_lay R_M F_M 0, u_lay R_M F_M 1, u_lay R_M F_M 2, u_lay R_M F_M 3, u_lay R_M F_M 4, u_lay R_M F_M 5, u_lay R_M F_M 6, u_lay R_M F_M 7, u_lay R_M F_M 8, u_lay R_M F_M 9, u_lay R_M F_M 10, u_lay R_M F_M 11] := rfl
  rw [e] at hw
  simp only [List.mem_cons, List.not_mem_nil, or_false] at hw
  rcases hw with rfl | rfl | rfl | rfl | rfl | rfl | rfl | rfl | rfl | rfl | rfl | rfl
  · exact big_r (i := 465) (by decide +kernel) (by decide +kernel)
  · exact big_r (i := 467) (by decide +kernel) (by decide +kernel)
  · exact big_r (i := 469) (by decide +kernel) (by decide +kernel)
  · exact big_r (i := 471) (by decide +kernel) (by decide +kernel)
  · exact big_r (i := 473) (by decide +kernel) (by decide +kernel)
  · exact big_r (i := 475) (by decide +kernel) (by decide +kernel)
  · exact big_r (i := 477) (by decide +kernel) (by decide +kernel)
  · exact big_r (i := 479) (by decide +kernel) (by decide +kernel)
  · exact big_r (i := 481) (by decide +kernel) (by decide +kernel)
  · exact big_r (i := 483) (by decide +kernel) (by decide +kernel)
  · exact big_r (i := 485) (by decide +kernel) (by decide +kernel)
  · exact big_r (i := 487) (by decide +kernel) (by decide +kernel)
theorem i_Part : ∀ w ∈ u_ws R_Part F_Part 7, w ∈ bigW := by
  intro w hw
  have e : u_ws R_Part F_Part 7 = [u_lay R_Part F_Part 0, u_lay R_Part F_Part 1, u_lay R_Part F_Part 2, u_lay R_Part F_Part 3, u_lay R_Part F_Part 4, u_lay R_Part F_Part 5, u_lay R_Part F_Part 6] := rfl
  rw [e] at hw
  simp only [List.mem_cons, List.not_mem_nil, or_false] at hw
  rcases hw with rfl | rfl | rfl | rfl | rfl | rfl | rfl
  · exact big_r (i := 552) (by decide +kernel) (by decide +kernel)
  · exact big_r (i := 554) (by decide +kernel) (by decide +kernel)
  · exact big_r (i := 556) (by decide +kernel) (by decide +kernel)
  · exact big_r (i := 558) (by decide +kernel) (by decide +kernel)
  · exact big_r (i := 560) (by decide +kernel) (by decide +kernel)
  · exact big_r (i := 562) (by decide +kernel) (by decide +kernel)
  · exact big_r (i := 564) (by decide +kernel) (by decide +kernel)
theorem m_oi : Cond.code objectInit ⟨#[0xb1]⟩ 1 none ∈ bigW := big_r (i := 22) rfl (by decide +kernel)
theorem hy_Pre_checkIndex : y_Pre_checkIndex.cls = R_Pre ∧ y_Pre_checkIndex.cls ≠ "java/lang/invoke/MethodHandle" ∧ y_Pre_checkIndex.cls ≠ "java/lang/invoke/VarHandle" ∧ (parseMethodDescriptor y_Pre_checkIndex.desc).map (fun d => d.parameters.length) = some 3 := by decide +kernel
theorem hy_Reader_afterWhite : y_Reader_afterWhite.cls = R_Reader ∧ y_Reader_afterWhite.cls ≠ "java/lang/invoke/MethodHandle" ∧ y_Reader_afterWhite.cls ≠ "java/lang/invoke/VarHandle" ∧ (parseMethodDescriptor y_Reader_afterWhite.desc).map (fun d => d.parameters.length) = some 1 := by decide +kernel
theorem hy_Reader_array : y_Reader_array.cls = R_Reader ∧ y_Reader_array.cls ≠ "java/lang/invoke/MethodHandle" ∧ y_Reader_array.cls ≠ "java/lang/invoke/VarHandle" ∧ (parseMethodDescriptor y_Reader_array.desc).map (fun d => d.parameters.length) = some 1 := by decide +kernel
theorem hy_Reader_dict : y_Reader_dict.cls = R_Reader ∧ y_Reader_dict.cls ≠ "java/lang/invoke/MethodHandle" ∧ y_Reader_dict.cls ≠ "java/lang/invoke/VarHandle" ∧ (parseMethodDescriptor y_Reader_dict.desc).map (fun d => d.parameters.length) = some 1 := by decide +kernel
theorem hy_Reader_escaped : y_Reader_escaped.cls = R_Reader ∧ y_Reader_escaped.cls ≠ "java/lang/invoke/MethodHandle" ∧ y_Reader_escaped.cls ≠ "java/lang/invoke/VarHandle" ∧ (parseMethodDescriptor y_Reader_escaped.desc).map (fun d => d.parameters.length) = some 0 := by decide +kernel
theorem hy_Reader_hexDigit : y_Reader_hexDigit.cls = R_Reader ∧ y_Reader_hexDigit.cls ≠ "java/lang/invoke/MethodHandle" ∧ y_Reader_hexDigit.cls ≠ "java/lang/invoke/VarHandle" ∧ (parseMethodDescriptor y_Reader_hexDigit.desc).map (fun d => d.parameters.length) = some 1 := by decide +kernel
theorem hy_Reader_hexString : y_Reader_hexString.cls = R_Reader ∧ y_Reader_hexString.cls ≠ "java/lang/invoke/MethodHandle" ∧ y_Reader_hexString.cls ≠ "java/lang/invoke/VarHandle" ∧ (parseMethodDescriptor y_Reader_hexString.desc).map (fun d => d.parameters.length) = some 0 := by decide +kernel
theorem hy_Reader_isBelow : y_Reader_isBelow.cls = R_Reader ∧ y_Reader_isBelow.cls ≠ "java/lang/invoke/MethodHandle" ∧ y_Reader_isBelow.cls ≠ "java/lang/invoke/VarHandle" ∧ (parseMethodDescriptor y_Reader_isBelow.desc).map (fun d => d.parameters.length) = some 3 := by decide +kernel
theorem hy_Reader_isInt : y_Reader_isInt.cls = R_Reader ∧ y_Reader_isInt.cls ≠ "java/lang/invoke/MethodHandle" ∧ y_Reader_isInt.cls ≠ "java/lang/invoke/VarHandle" ∧ (parseMethodDescriptor y_Reader_isInt.desc).map (fun d => d.parameters.length) = some 2 := by decide +kernel
theorem hy_Reader_isRegular : y_Reader_isRegular.cls = R_Reader ∧ y_Reader_isRegular.cls ≠ "java/lang/invoke/MethodHandle" ∧ y_Reader_isRegular.cls ≠ "java/lang/invoke/VarHandle" ∧ (parseMethodDescriptor y_Reader_isRegular.desc).map (fun d => d.parameters.length) = some 1 := by decide +kernel
theorem hy_Reader_isWhite : y_Reader_isWhite.cls = R_Reader ∧ y_Reader_isWhite.cls ≠ "java/lang/invoke/MethodHandle" ∧ y_Reader_isWhite.cls ≠ "java/lang/invoke/VarHandle" ∧ (parseMethodDescriptor y_Reader_isWhite.desc).map (fun d => d.parameters.length) = some 1 := by decide +kernel
theorem hy_Reader_isWord : y_Reader_isWord.cls = R_Reader ∧ y_Reader_isWord.cls ≠ "java/lang/invoke/MethodHandle" ∧ y_Reader_isWord.cls ≠ "java/lang/invoke/VarHandle" ∧ (parseMethodDescriptor y_Reader_isWord.desc).map (fun d => d.parameters.length) = some 2 := by decide +kernel
theorem hy_Reader_kindOfWord : y_Reader_kindOfWord.cls = R_Reader ∧ y_Reader_kindOfWord.cls ≠ "java/lang/invoke/MethodHandle" ∧ y_Reader_kindOfWord.cls ≠ "java/lang/invoke/VarHandle" ∧ (parseMethodDescriptor y_Reader_kindOfWord.desc).map (fun d => d.parameters.length) = some 1 := by decide +kernel
theorem hy_Reader_name : y_Reader_name.cls = R_Reader ∧ y_Reader_name.cls ≠ "java/lang/invoke/MethodHandle" ∧ y_Reader_name.cls ≠ "java/lang/invoke/VarHandle" ∧ (parseMethodDescriptor y_Reader_name.desc).map (fun d => d.parameters.length) = some 0 := by decide +kernel
theorem hy_Reader_number : y_Reader_number.cls = R_Reader ∧ y_Reader_number.cls ≠ "java/lang/invoke/MethodHandle" ∧ y_Reader_number.cls ≠ "java/lang/invoke/VarHandle" ∧ (parseMethodDescriptor y_Reader_number.desc).map (fun d => d.parameters.length) = some 0 := by decide +kernel
theorem hy_Reader_numberAt : y_Reader_numberAt.cls = R_Reader ∧ y_Reader_numberAt.cls ≠ "java/lang/invoke/MethodHandle" ∧ y_Reader_numberAt.cls ≠ "java/lang/invoke/VarHandle" ∧ (parseMethodDescriptor y_Reader_numberAt.desc).map (fun d => d.parameters.length) = some 2 := by decide +kernel
theorem hy_Reader_object : y_Reader_object.cls = R_Reader ∧ y_Reader_object.cls ≠ "java/lang/invoke/MethodHandle" ∧ y_Reader_object.cls ≠ "java/lang/invoke/VarHandle" ∧ (parseMethodDescriptor y_Reader_object.desc).map (fun d => d.parameters.length) = some 1 := by decide +kernel
theorem hy_Reader_octalDigit : y_Reader_octalDigit.cls = R_Reader ∧ y_Reader_octalDigit.cls ≠ "java/lang/invoke/MethodHandle" ∧ y_Reader_octalDigit.cls ≠ "java/lang/invoke/VarHandle" ∧ (parseMethodDescriptor y_Reader_octalDigit.desc).map (fun d => d.parameters.length) = some 1 := by decide +kernel
theorem hy_Reader_plainString : y_Reader_plainString.cls = R_Reader ∧ y_Reader_plainString.cls ≠ "java/lang/invoke/MethodHandle" ∧ y_Reader_plainString.cls ≠ "java/lang/invoke/VarHandle" ∧ (parseMethodDescriptor y_Reader_plainString.desc).map (fun d => d.parameters.length) = some 0 := by decide +kernel
theorem hy_Reader_word : y_Reader_word.cls = R_Reader ∧ y_Reader_word.cls ≠ "java/lang/invoke/MethodHandle" ∧ y_Reader_word.cls ≠ "java/lang/invoke/VarHandle" ∧ (parseMethodDescriptor y_Reader_word.desc).map (fun d => d.parameters.length) = some 0 := by decide +kernel
theorem hy_Reader_wordLength : y_Reader_wordLength.cls = R_Reader ∧ y_Reader_wordLength.cls ≠ "java/lang/invoke/MethodHandle" ∧ y_Reader_wordLength.cls ≠ "java/lang/invoke/VarHandle" ∧ (parseMethodDescriptor y_Reader_wordLength.desc).map (fun d => d.parameters.length) = some 1 := by decide +kernel
theorem hy_Row_init : y_Row_init.cls = R_Row ∧ y_Row_init.cls ≠ "java/lang/invoke/MethodHandle" ∧ y_Row_init.cls ≠ "java/lang/invoke/VarHandle" ∧ (parseMethodDescriptor y_Row_init.desc).map (fun d => d.parameters.length) = some 1 := by decide +kernel
theorem hy_Row_add : y_Row_add.cls = R_Row ∧ y_Row_add.cls ≠ "java/lang/invoke/MethodHandle" ∧ y_Row_add.cls ≠ "java/lang/invoke/VarHandle" ∧ (parseMethodDescriptor y_Row_add.desc).map (fun d => d.parameters.length) = some 1 := by decide +kernel
theorem hy_Row_addFrom : y_Row_addFrom.cls = R_Row ∧ y_Row_addFrom.cls ≠ "java/lang/invoke/MethodHandle" ∧ y_Row_addFrom.cls ≠ "java/lang/invoke/VarHandle" ∧ (parseMethodDescriptor y_Row_addFrom.desc).map (fun d => d.parameters.length) = some 3 := by decide +kernel
theorem hy_Row_cut : y_Row_cut.cls = R_Row ∧ y_Row_cut.cls ≠ "java/lang/invoke/MethodHandle" ∧ y_Row_cut.cls ≠ "java/lang/invoke/VarHandle" ∧ (parseMethodDescriptor y_Row_cut.desc).map (fun d => d.parameters.length) = some 1 := by decide +kernel
theorem hy_Row_get : y_Row_get.cls = R_Row ∧ y_Row_get.cls ≠ "java/lang/invoke/MethodHandle" ∧ y_Row_get.cls ≠ "java/lang/invoke/VarHandle" ∧ (parseMethodDescriptor y_Row_get.desc).map (fun d => d.parameters.length) = some 1 := by decide +kernel
theorem hy_Row_hasAt : y_Row_hasAt.cls = R_Row ∧ y_Row_hasAt.cls ≠ "java/lang/invoke/MethodHandle" ∧ y_Row_hasAt.cls ≠ "java/lang/invoke/VarHandle" ∧ (parseMethodDescriptor y_Row_hasAt.desc).map (fun d => d.parameters.length) = some 4 := by decide +kernel
theorem hy_Row_size : y_Row_size.cls = R_Row ∧ y_Row_size.cls ≠ "java/lang/invoke/MethodHandle" ∧ y_Row_size.cls ≠ "java/lang/invoke/VarHandle" ∧ (parseMethodDescriptor y_Row_size.desc).map (fun d => d.parameters.length) = some 0 := by decide +kernel
theorem hy_SL_charAt : y_SL_charAt.cls = R_SL ∧ y_SL_charAt.cls ≠ "java/lang/invoke/MethodHandle" ∧ y_SL_charAt.cls ≠ "java/lang/invoke/VarHandle" ∧ (parseMethodDescriptor y_SL_charAt.desc).map (fun d => d.parameters.length) = some 2 := by decide +kernel
theorem hy_Str_charAt : y_Str_charAt.cls = R_Str ∧ y_Str_charAt.cls ≠ "java/lang/invoke/MethodHandle" ∧ y_Str_charAt.cls ≠ "java/lang/invoke/VarHandle" ∧ (parseMethodDescriptor y_Str_charAt.desc).map (fun d => d.parameters.length) = some 1 := by decide +kernel
theorem hy_Str_checkIndex : y_Str_checkIndex.cls = R_Str ∧ y_Str_checkIndex.cls ≠ "java/lang/invoke/MethodHandle" ∧ y_Str_checkIndex.cls ≠ "java/lang/invoke/VarHandle" ∧ (parseMethodDescriptor y_Str_checkIndex.desc).map (fun d => d.parameters.length) = some 2 := by decide +kernel
theorem hy_Str_coder : y_Str_coder.cls = R_Str ∧ y_Str_coder.cls ≠ "java/lang/invoke/MethodHandle" ∧ y_Str_coder.cls ≠ "java/lang/invoke/VarHandle" ∧ (parseMethodDescriptor y_Str_coder.desc).map (fun d => d.parameters.length) = some 0 := by decide +kernel
theorem hy_Str_isLatin1 : y_Str_isLatin1.cls = R_Str ∧ y_Str_isLatin1.cls ≠ "java/lang/invoke/MethodHandle" ∧ y_Str_isLatin1.cls ≠ "java/lang/invoke/VarHandle" ∧ (parseMethodDescriptor y_Str_isLatin1.desc).map (fun d => d.parameters.length) = some 0 := by decide +kernel
theorem hy_Str_length : y_Str_length.cls = R_Str ∧ y_Str_length.cls ≠ "java/lang/invoke/MethodHandle" ∧ y_Str_length.cls ≠ "java/lang/invoke/VarHandle" ∧ (parseMethodDescriptor y_Str_length.desc).map (fun d => d.parameters.length) = some 0 := by decide +kernel
theorem hy_Tree_add : y_Tree_add.cls = R_Tree ∧ y_Tree_add.cls ≠ "java/lang/invoke/MethodHandle" ∧ y_Tree_add.cls ≠ "java/lang/invoke/VarHandle" ∧ (parseMethodDescriptor y_Tree_add.desc).map (fun d => d.parameters.length) = some 3 := by decide +kernel
theorem hy_Tree_after : y_Tree_after.cls = R_Tree ∧ y_Tree_after.cls ≠ "java/lang/invoke/MethodHandle" ∧ y_Tree_after.cls ≠ "java/lang/invoke/VarHandle" ∧ (parseMethodDescriptor y_Tree_after.desc).map (fun d => d.parameters.length) = some 1 := by decide +kernel
theorem hy_Tree_clear : y_Tree_clear.cls = R_Tree ∧ y_Tree_clear.cls ≠ "java/lang/invoke/MethodHandle" ∧ y_Tree_clear.cls ≠ "java/lang/invoke/VarHandle" ∧ (parseMethodDescriptor y_Tree_clear.desc).map (fun d => d.parameters.length) = some 0 := by decide +kernel
theorem hy_Tree_countPart : y_Tree_countPart.cls = R_Tree ∧ y_Tree_countPart.cls ≠ "java/lang/invoke/MethodHandle" ∧ y_Tree_countPart.cls ≠ "java/lang/invoke/VarHandle" ∧ (parseMethodDescriptor y_Tree_countPart.desc).map (fun d => d.parameters.length) = some 1 := by decide +kernel
theorem hy_Tree_holds : y_Tree_holds.cls = R_Tree ∧ y_Tree_holds.cls ≠ "java/lang/invoke/MethodHandle" ∧ y_Tree_holds.cls ≠ "java/lang/invoke/VarHandle" ∧ (parseMethodDescriptor y_Tree_holds.desc).map (fun d => d.parameters.length) = some 1 := by decide +kernel
theorem hy_Tree_itemNode : y_Tree_itemNode.cls = R_Tree ∧ y_Tree_itemNode.cls ≠ "java/lang/invoke/MethodHandle" ∧ y_Tree_itemNode.cls ≠ "java/lang/invoke/VarHandle" ∧ (parseMethodDescriptor y_Tree_itemNode.desc).map (fun d => d.parameters.length) = some 2 := by decide +kernel
theorem hy_Tree_kind : y_Tree_kind.cls = R_Tree ∧ y_Tree_kind.cls ≠ "java/lang/invoke/MethodHandle" ∧ y_Tree_kind.cls ≠ "java/lang/invoke/VarHandle" ∧ (parseMethodDescriptor y_Tree_kind.desc).map (fun d => d.parameters.length) = some 1 := by decide +kernel
theorem hy_Tree_nameNode : y_Tree_nameNode.cls = R_Tree ∧ y_Tree_nameNode.cls ≠ "java/lang/invoke/MethodHandle" ∧ y_Tree_nameNode.cls ≠ "java/lang/invoke/VarHandle" ∧ (parseMethodDescriptor y_Tree_nameNode.desc).map (fun d => d.parameters.length) = some 2 := by decide +kernel
theorem hy_Tree_number : y_Tree_number.cls = R_Tree ∧ y_Tree_number.cls ≠ "java/lang/invoke/MethodHandle" ∧ y_Tree_number.cls ≠ "java/lang/invoke/VarHandle" ∧ (parseMethodDescriptor y_Tree_number.desc).map (fun d => d.parameters.length) = some 1 := by decide +kernel
theorem hy_Tree_other : y_Tree_other.cls = R_Tree ∧ y_Tree_other.cls ≠ "java/lang/invoke/MethodHandle" ∧ y_Tree_other.cls ≠ "java/lang/invoke/VarHandle" ∧ (parseMethodDescriptor y_Tree_other.desc).map (fun d => d.parameters.length) = some 1 := by decide +kernel
theorem hy_Tree_text : y_Tree_text.cls = R_Tree ∧ y_Tree_text.cls ≠ "java/lang/invoke/MethodHandle" ∧ y_Tree_text.cls ≠ "java/lang/invoke/VarHandle" ∧ (parseMethodDescriptor y_Tree_text.desc).map (fun d => d.parameters.length) = some 0 := by decide +kernel
theorem hy_Tree_valueNamed : y_Tree_valueNamed.cls = R_Tree ∧ y_Tree_valueNamed.cls ≠ "java/lang/invoke/MethodHandle" ∧ y_Tree_valueNamed.cls ≠ "java/lang/invoke/VarHandle" ∧ (parseMethodDescriptor y_Tree_valueNamed.desc).map (fun d => d.parameters.length) = some 4 := by decide +kernel
end
section
def nS : Nat := 18
def ownS : List String := ["ValueTexts$Reader", "ValueTexts$Reader", "ValueTexts$Reader", "ValueTexts$Writer", "ValueTexts$Writer", "ValueTexts$Writer", "ValueTexts$Writer", "ValueTexts$Writer", "ValueTexts$Writer", "ValueTextsModel", "ValueTextsModel", "ValueTextsModel", "ValueTextsModel", "ValueTextsModel", "ValueTextsModel", "ValueTextsModel", "ValueTextsModel", "ValueTextsModel"]
def idxS : List Nat := [104, 110, 112, 29, 37, 39, 92, 94, 84, 80, 88, 90, 101, 234, 236, 238, 244, 246]
def txS : List String := ["null", "true", "false", "null", "true", "false", "<<", ">>", " R", "null", "true", "false", "R", " R", "[", "<<", "]", ">>"]
def lenS : List Nat := [4, 4, 5, 4, 4, 5, 2, 2, 2, 4, 4, 5, 1, 2, 1, 2, 1, 2]
def bytS : List (List Int32) := [[110, 117, 108, 108], [116, 114, 117, 101], [102, 97, 108, 115, 101], [110, 117, 108, 108], [116, 114, 117, 101], [102, 97, 108, 115, 101], [60, 60], [62, 62], [32, 82], [110, 117, 108, 108], [116, 114, 117, 101], [102, 97, 108, 115, 101], [82], [32, 82], [91], [60, 60], [93], [62, 62]]
/-! MY OWN HELPERS: a contract in one shape (gP, gB; MI, MV), its prologue (MI.of, MV.of), its calls (gc_..) -/
/-- a method's words: its code, and all that keep -/
def wsU (y : MethodName) (cc : ByteArray) (n : Nat) (r : Option FieldType) : List Cond := Cond.code y cc n r :: bigW
theorem good_U {y : MethodName} {cc : ByteArray} {n : Nat} {r : Option FieldType} (h : Cond.code y cc n r ∈ bigW) : GoodIn bigW (wsU y cc n r) := by
  intro w hw
  rcases List.mem_cons.mp hw with e | e
  · rw [e]; exact ⟨h, big_good h⟩
  · exact ⟨e, big_good e⟩
theorem good_V {own C : String} {idx : Nat} {y : MethodName} {cc : ByteArray} {n : Nat} {r : Option FieldType} (h1 : Cond.methodLink own idx y ∈ bigW) (h2 : Cond.instanceMethod y ∈ bigW) (h3 : Cond.selects C y y ∈ bigW) (h4 : Cond.initialized C ∈ bigW) (h5 : Cond.code y cc n r ∈ bigW) : GoodIn bigW (wsV own idx C y (wsU y cc n r)) := by
  intro w hw
  rcases List.mem_append.mp hw with e | e
  · have hm : w ∈ bigW := by
      simp only [List.mem_cons, List.not_mem_nil, or_false] at e
      rcases e with rfl | rfl | rfl | rfl
      · exact h1
      · exact h2
      · exact h3
      · exact h4
    exact ⟨hm, big_good hm⟩
  · exact good_U h5 w e
theorem good_S {own : String} {idx : Nat} {y : MethodName} {cc : ByteArray} {n : Nat} {r : Option FieldType} (h1 : Cond.methodLink own idx y ∈ bigW) (h2 : Cond.static y ∈ bigW) (h4 : Cond.initialized y.cls ∈ bigW) (h5 : Cond.code y cc n r ∈ bigW) : GoodIn bigW (va_wsS own idx y (wsU y cc n r)) := by
  intro w hw
  rcases List.mem_append.mp hw with e | e
  · have hm : w ∈ bigW := by
      simp only [List.mem_cons, List.not_mem_nil, or_false] at e
      rcases e with rfl | rfl | rfl
      · exact h1
      · exact h2
      · exact h4
    exact ⟨hm, big_good hm⟩
  · exact good_U h5 w e
/-- what is fixed for the whole claim: the classes' numbers and slots; the array classes; the places of the String constants -/
abbrev GG : Type := va_G × (Nat → ClassId) × (Nat → Nat) × (Nat → Nat)
abbrev tyG (G : GG) : List (ClassId × FieldType) := [(G.2.1 0, .byte), (G.2.1 1, .int)]
/-- the String constants (by place), and COMPACT_STRINGS -/
def ES (G : GG) (A : Nat → Prop) (U : State) : Prop :=
  (∀ i : Nat, i < nS → vk_S 1 [(lenS.getD i 0)] [(bytS.getD i [])] (fun _ => G.2.2.1 i) (fun _ => G.2.2.2 i) A U U.heap ∧ vk_R (ownS.getD i "") (idxS.getD i 0) (txS.getD i "") (G.2.2.1 i) U) ∧ va_Z "java/lang/String" "COMPACT_STRINGS" "Z" (.int 1) A U U.heap ∧ va_Zq "jdk/internal/util/Preconditions" "SIOOBE_FORMATTER" "Ljava/util/function/BiFunction;" A U U.heap ∧ va_Nw (.methodLinkNest R_Part 28 y_M_isLike R_M) U
theorem ES.go {G : GG} {A A' : Nat → Prop} {s U : State} {H : Heap} {locs : List Loc} (h : ES G A s) (hS : va_S A s.heap H locs) (hA : ∀ q, A' q → A q) (hU : U.heap = H) (hW : s.WarmedH U.vm) : ES G A' U := by
  refine ⟨fun i hi => ⟨?_, (h.1 i hi).2.warm hW⟩, ?_, ?_, h.2.2.2.warmM hW⟩
  · rw [hU]
    exact (((h.1 i hi).1.moved hW.alike).kept hS.2.1).narrow hA
  · rw [hU]
    exact ((h.2.1.moved hW.alike).kept hS.2.1).narrow hA
  · rw [hU]
    exact ((h.2.2.1.moved hW.alike).kept hS.2.1).narrow hA
theorem ES.blind {G : GG} {A : Nat → Prop} {U : State} {g : JFrame} {mk : MethodId} {a : Array Value} (h : ES G A U) : ES G A (U.calling g mk a) :=
  ⟨fun i hi => ⟨(h.1 i hi).1.moved (u := U) (U := U.calling g mk a) (Vm.Alike.refl U.vm), (h.1 i hi).2.same (u := U) rfl⟩, h.2.1.moved (u := U) (U := U.calling g mk a) (Vm.Alike.refl U.vm), h.2.2.1.moved (u := U) (U := U.calling g mk a) (Vm.Alike.refl U.vm), h.2.2.2.same rfl (u := U) rfl⟩
/-- what a state knows of the tables and of what lies outside the worlds -/
def KE (G : GG) (A : Nat → Prop) (U : State) : Prop := va_K G.1 vwCl (tyG G) U ∧ ES G A U
theorem KE.go {G : GG} {A A' : Nat → Prop} {s U : State} {H : Heap} {locs : List Loc} (h : KE G A s) (hS : va_S A s.heap H locs) (hA : ∀ q, A' q → A q) (hU : U.heap = H) (hW : s.WarmedH U.vm) : KE G A' U :=
  ⟨va_K.moved hW.alike h.1, ES.go h.2 hS hA hU hW⟩
theorem KE.blind {G : GG} {A : Nat → Prop} {U : State} {g : JFrame} {mk : MethodId} {a : Array Value} (h : KE G A U) : KE G A (U.calling g mk a) :=
  ⟨va_K.moved (u := U) (U := U.calling g mk a) (Vm.Alike.refl U.vm) h.1, h.2.blind⟩
/-- a method's start -/
def gP (G : GG) (av : List Value) (ws : va_W) (sz : Nat) : Array Value → State → Prop :=
  va_Pc av (fun U => U.heap.size = sz ∧ va_P G.1 vwCl ws U.heap ∧ va_D (fun _ => True) ws ∧ KE G (va_A ws sz) U)
/-- the world behind it -/
def gB (G : GG) {S : Type} (w1 : S → va_W) (A : Nat → Prop) : S → State → Prop := fun u t => va_P G.1 vwCl (w1 u) t.heap ∧ va_D A (w1 u)
/-- contracts: an int (a boolean, a byte ..), or nothing, comes back -/
def MI (l : Launch) (y : MethodName) (cc : ByteArray) (maxL : Nat) (ty : FieldType) (rm : Room) (G : GG) (av : List Value) (cells : va_W) {S : Type} (post : Int32 → S → Prop) (w1 : S → va_W) (mc ms : Nat) : Prop :=
  ∀ sz : Nat, Met l y (wsU y cc maxL (some ty)) rm (gP G av cells sz) (va_Qi post (gB G w1 (va_A cells sz)) (va_A cells sz)) mc ms (va_A cells sz)
def MV (l : Launch) (y : MethodName) (cc : ByteArray) (maxL : Nat) (rm : Room) (G : GG) (av : List Value) (cells : va_W) {S : Type} (post : S → Prop) (w1 : S → va_W) (mc ms : Nat) : Prop :=
  ∀ sz : Nat, Met l y (wsU y cc maxL none) rm (gP G av cells sz) (va_Qv post (gB G w1 (va_A cells sz)) (va_A cells sz)) mc ms (va_A cells sz)
/-- a reference comes back: its address is a part of the state behind -/
def MR (l : Launch) (y : MethodName) (cc : ByteArray) (maxL : Nat) (ty : FieldType) (rm : Room) (G : GG) (av : List Value) (cells : va_W) {S : Type} (post : Nat → S → Prop) (w1 : S → va_W) (mc ms : Nat) : Prop :=
  ∀ sz : Nat, Met l y (wsU y cc maxL (some ty)) rm (gP G av cells sz) (va_Qr (S := S) (fun _ => True) (fun u ra t => post ra u ∧ gB G w1 (va_A cells sz) u t) (va_A cells sz)) mc ms (va_A cells sz)
set_option maxHeartbeats 1000000 in
theorem MI.of {l : Launch} {y : MethodName} {rm : Room} {G : GG} {av : List Value} {cells : va_W} {S : Type} {post : Int32 → S → Prop} {w1 : S → va_W} {mc ms : Nat} {cc : ByteArray} {maxL : Nat} {ty : FieldType} {C : String}
    (hy : plainName y.cls = true) (hC : y.cls = C) (hlen : (lg_sl av).length ≤ maxL)
    (body : ∀ (p : Program) (e : Env) (s : State) (m : MethodId) (args : Array Value) (below : List Frame) (meth : Method) (c : Code) (A : Nat → Prop) (Q : State → Prop) (H : Heap) (ls : Array Slot),
      p.tables.exec = Jvm.exec → c.code = cc → c.maxLocals = maxL → s.vm.findClass C = some m.cls → (∀ w ∈ bigW, w.before args s = true) → KE G A s → (∀ q, s.heap.size ≤ q → A q) → va_P G.1 vwCl cells H → va_D A cells → va_S A s.heap H [] →
      (∀ {pc : Nat} {ls : Array Slot} {H : Heap} {locs : List Loc} {k n : Nat} (v : Int32) (u : S), k ≤ mc → n ≤ ms → decode cc pc = .ok (.ireturn, 1) → narrow ty (.int v) = .int v → post v u → va_P G.1 vwCl (w1 u) H → va_D A (w1 u) → va_S A s.heap H locs → W p l e rm s m args below meth c H locs k n Q (F0 m pc ls [.int v])) →
      lv_has ls maxL (lv_args 0 av) → W p l e rm s m args below meth c H [] 0 0 Q (F0 m 0 ls [])) : MI l y cc maxL ty rm G av cells post w1 mc ms := by
  intro sz
  refine Met.ofW (cc := cc) (maxL := maxL) (ret := some ty) hy rfl ?_
  intro p e s m args below meth c s₁ B hml hv
  obtain ⟨rfl, hsz, hP, hD0, hE⟩ := hv
  have hlocks := B.notSynchronized
  subst hsz
  rw [lg_entry_eq]
  refine body p e s m _ below meth c (va_A cells s.heap.size) _ s.heap _ B.exec B.bytes hml (by rw [← hC]; exact findClass_of_methodNamed B.named) (fun w h => atoms_spec B.pre w (List.mem_cons_of_mem _ h)) hE (fun q h => Or.inr h) hP hD0.self va_S.rf ?_ (lv_entry av hlen)
  intro pc ls H locs k n v u hk hn hd hnar hpost hP' hD' hS'
  refine W.widen hk hn ?_
  exact W.zret B.exec B.bytes B.returns hnar (fun t ht hW => ⟨⟨v, u, rfl, hpost, by rw [ht]; exact hP', hD'⟩, hS'.F ht⟩) hS'.2.2 hd
set_option maxHeartbeats 1000000 in
theorem MV.of {l : Launch} {y : MethodName} {rm : Room} {G : GG} {av : List Value} {cells : va_W} {S : Type} {post : S → Prop} {w1 : S → va_W} {mc ms : Nat} {cc : ByteArray} {maxL : Nat} {C : String}
    (hy : plainName y.cls = true) (hC : y.cls = C) (hlen : (lg_sl av).length ≤ maxL)
    (body : ∀ (p : Program) (e : Env) (s : State) (m : MethodId) (args : Array Value) (below : List Frame) (meth : Method) (c : Code) (A : Nat → Prop) (Q : State → Prop) (H : Heap) (ls : Array Slot),
      p.tables.exec = Jvm.exec → c.code = cc → c.maxLocals = maxL → s.vm.findClass C = some m.cls → (∀ w ∈ bigW, w.before args s = true) → KE G A s → (∀ q, s.heap.size ≤ q → A q) → va_P G.1 vwCl cells H → va_D A cells → va_S A s.heap H [] → meth.name = y.name →
      (∀ {pc : Nat} {ls : Array Slot} {H : Heap} {locs : List Loc} {k n : Nat} (u : S), k ≤ mc → n ≤ ms → decode cc pc = .ok (.return_, 1) → post u → va_P G.1 vwCl (w1 u) H → va_D A (w1 u) → va_S A s.heap H locs → W p l e rm s m args below meth c H locs k n Q (F0 m pc ls [])) →
      lv_has ls maxL (lv_args 0 av) → W p l e rm s m args below meth c H [] 0 0 Q (F0 m 0 ls [])) : MV l y cc maxL rm G av cells post w1 mc ms := by
  intro sz
  refine Met.ofW (cc := cc) (maxL := maxL) (ret := none) hy rfl ?_
  intro p e s m args below meth c s₁ B hml hv
  obtain ⟨rfl, hsz, hP, hD0, hE⟩ := hv
  have hlocks := B.notSynchronized
  subst hsz
  rw [lg_entry_eq]
  refine body p e s m _ below meth c (va_A cells s.heap.size) _ s.heap _ B.exec B.bytes hml (by rw [← hC]; exact findClass_of_methodNamed B.named) (fun w h => atoms_spec B.pre w (List.mem_cons_of_mem _ h)) hE (fun q h => Or.inr h) hP hD0.self va_S.rf (name_of_methodNamed B.named B.method).1 ?_ (lv_entry av hlen)
  intro pc ls H locs k n u hk hn hd hpost hP' hD' hS'
  refine W.widen hk hn ?_
  exact W.vret B.exec B.bytes B.returns (fun t ht hW => ⟨⟨u, rfl, hpost, by rw [ht]; exact hP', hD'⟩, hS'.F ht⟩) hS'.2.2 hd
set_option maxHeartbeats 1000000 in
theorem MR.of {l : Launch} {y : MethodName} {rm : Room} {G : GG} {av : List Value} {cells : va_W} {S : Type} {post : Nat → S → Prop} {w1 : S → va_W} {mc ms : Nat} {cc : ByteArray} {maxL : Nat} {ty : FieldType} {C : String}
    (hy : plainName y.cls = true) (hC : y.cls = C) (hlen : (lg_sl av).length ≤ maxL) (hty : (∃ n, ty = .object n) ∨ ∃ t, ty = .array t)
    (body : ∀ (p : Program) (e : Env) (s : State) (m : MethodId) (args : Array Value) (below : List Frame) (meth : Method) (c : Code) (A : Nat → Prop) (Q : State → Prop) (H : Heap) (ls : Array Slot),
      p.tables.exec = Jvm.exec → c.code = cc → c.maxLocals = maxL → s.vm.findClass C = some m.cls → (∀ w ∈ bigW, w.before args s = true) → KE G A s → (∀ q, s.heap.size ≤ q → A q) → va_P G.1 vwCl cells H → va_D A cells → va_S A s.heap H [] →
      (∀ {pc : Nat} {ls : Array Slot} {H : Heap} {locs : List Loc} {k n : Nat} (ra : Nat) (u : S), k ≤ mc → n ≤ ms → decode cc pc = .ok (.areturn, 1) → post ra u → va_P G.1 vwCl (w1 u) H → va_D A (w1 u) → va_S A s.heap H locs → W p l e rm s m args below meth c H locs k n Q (F0 m pc ls [.ref ra])) →
      lv_has ls maxL (lv_args 0 av) → W p l e rm s m args below meth c H [] 0 0 Q (F0 m 0 ls [])) : MR l y cc maxL ty rm G av cells post w1 mc ms := by
  intro sz
  refine Met.ofW (cc := cc) (maxL := maxL) (ret := some ty) hy rfl ?_
  intro p e s m args below meth c s₁ B hml hv
  obtain ⟨rfl, hsz, hP, hD0, hE⟩ := hv
  have hlocks := B.notSynchronized
  subst hsz
  rw [lg_entry_eq]
  refine body p e s m _ below meth c (va_A cells s.heap.size) _ s.heap _ B.exec B.bytes hml (by rw [← hC]; exact findClass_of_methodNamed B.named) (fun w h => atoms_spec B.pre w (List.mem_cons_of_mem _ h)) hE (fun q h => Or.inr h) hP hD0.self va_S.rf ?_ (lv_entry av hlen)
  intro pc ls H locs k n ra u hk hn hd hpost hP' hD' hS'
  refine W.widen hk hn ?_
  exact W.aret B.exec B.bytes B.returns hty (Or.inr ⟨ra, rfl⟩) (fun t ht hW => ⟨⟨u, ra, rfl, trivial, hpost, by rw [ht]; exact hP', hD'⟩, hS'.F ht⟩) hS'.2.2 hd
theorem gP.blind {G : GG} {av : List Value} {ws : va_W} {sz : Nat} : FrameBlind (gP G av ws sz) := by
  intro a U g mk q
  obtain ⟨q0, q1, qP, qD, qE⟩ := q
  exact ⟨q0, q1, qP, qD, KE.blind qE⟩
section GC
variable {p : Program} {l : Launch} {e : Env} {R : Room} {s : State} {m : MethodId} {args : Array Value} {below : List Frame} {meth : Method} {c : Code} {H : Heap} {locs : List Loc} {cells slots : Nat} {Q : State → Prop}
variable {cc : ByteArray} {pc : Nat} {ls : Array Slot} {rest : List Value} {A : Nat → Prop} {G : GG} {ws wc wr : va_W}
variable {y : MethodName} {bytes : ByteArray} {maxL nL mc ms n index : Nat} {ret : Option FieldType} {wy : List Cond} {rm : Room} {Ts : List Cond} {own C host : String} {b : Nat} {As : List Value}
theorem gP.here {av : List Value} (hE : KE G A s) (hP : va_P G.1 vwCl ws H) (hD : va_D A ws) (hS : va_S A s.heap H locs) (hA : ∀ q, s.heap.size ≤ q → A q) (isC : List Nat) (hC : isC.map (fun i => ws[i]?) = wc.map some) (hnC : va_nd isC = true) : ∀ U : State, U.heap = H → s.WarmedH U.vm → gP G av wc H.size av.toArray U := by
  intro U hU hW
  have hFc := va_free (wc := wc) hD hS hA isC hC
  refine ⟨rfl, by rw [hU], fun k q hk => ?_, (hD.sub isC hnC hC).weaken (fun _ _ _ _ => trivial), KE.go hE hS hFc hU hW⟩
  have h1 : (isC.map (fun i => ws[i]?))[k]? = some (some q) := by rw [hC, List.getElem?_map, hk]; rfl
  rw [List.getElem?_map] at h1
  cases hi : isC[k]? with
  | none => rw [hi] at h1; cases h1
  | some i => rw [hi] at h1; rw [hU]; exact hP i q (Option.some.inj h1)
end GC
section GD
variable {p : Program} {l : Launch} {e : Env} {R : Room} {s : State} {m : MethodId} {args : Array Value} {below : List Frame} {meth : Method} {c : Code} {H : Heap} {locs : List Loc} {cells slots : Nat} {Q : State → Prop}
variable {cc : ByteArray} {pc : Nat} {ls : Array Slot} {rest : List Value} {A : Nat → Prop} {G : GG} {ws wc wr : va_W}
variable {y : MethodName} {bytes : ByteArray} {maxL nL mc ms n index : Nat} {ret : Option FieldType} {wy : List Cond} {rm : Room} {Ts : List Cond} {own C host : String} {b : Nat} {As st0 : List Value} {lv : List (Nat × Value)}
variable {Qc : Array Value → State → Outcome → State → Prop} {a : Array Value}
theorem gc_V (S : CallFix p m c cc nL s args Ts own) (hM : Met l y wy rm (gP G (.ref b :: As) wc H.size) Qc mc ms (va_A wc H.size)) (cw : CallW R s args own C index y bytes maxL ret wy rm mc ms n) (hE : KE G A s) (hP : va_P G.1 vwCl ws H) (hD : va_D A ws) (hS : va_S A s.heap H locs) (hA : ∀ q, s.heap.size ≤ q → A q)
    (hrecv : ∃ cellB : Cell, H[b]? = some cellB ∧ cellB.vm.isStatics = false ∧ s.vm.findClass C = some cellB.cls) (isC : List Nat) (hC : isC.map (fun i => ws[i]?) = wc.map some) (hnC : va_nd isC = true)
    (hn : As.length = n) (hl : lv_has ls nL lv) (hst : st0 = As.reverse ++ .ref b :: rest) (hro : (rest.map fun v => v.category).sum ≤ 8) (hdg : decode cc pc = .ok (.invokevirtual index, 3)) (hf : cells + mc ≤ R.cells ∧ slots + ms ≤ R.slots) :
    va_Run p l e R s m args below meth c H locs cells slots mc ms (F0 m pc ls st0) rest (Qc (Value.ref b :: As).toArray) (va_A wc H.size) :=
  va_runV (As := As) (rest := rest) S hM cw ⟨gP.blind, hrecv, gP.here hE hP hD hS hA isC hC hnC⟩ rfl hn hl.1 hst (lv_room hro) hdg hf
theorem gc_S (S : CallFix p m c cc nL s args Ts own) (hM : Met l y wy rm (gP G As wc H.size) Qc mc ms (va_A wc H.size)) (cw : CallB R s args own index y bytes maxL ret wy rm mc ms n ∧ (Cond.static y).before args s = true) (hE : KE G A s) (hP : va_P G.1 vwCl ws H) (hD : va_D A ws) (hS : va_S A s.heap H locs) (hA : ∀ q, s.heap.size ≤ q → A q)
    (isC : List Nat) (hC : isC.map (fun i => ws[i]?) = wc.map some) (hnC : va_nd isC = true)
    (hn : As.length = n) (hl : lv_has ls nL lv) (hst : st0 = As.reverse ++ rest) (hro : (rest.map fun v => v.category).sum ≤ 8) (hdg : decode cc pc = .ok (.invokestatic index, 3)) (hf : cells + mc ≤ R.cells ∧ slots + ms ≤ R.slots) :
    va_Run p l e R s m args below meth c H locs cells slots mc ms (F0 m pc ls st0) rest (Qc As.toArray) (va_A wc H.size) :=
  va_runS (As := As) (rest := rest) S hM cw ⟨gP.blind, gP.here hE hP hD hS hA isC hC hnC⟩ rfl hn hl.1 hst (lv_room hro) hdg hf
theorem gc_I (S : CallFix p m c cc nL s args Ts own) (hM : Met l y wy rm (gP G (.ref b :: As) wc H.size) Qc mc ms (va_A wc H.size)) (cw : CallB R s args own index y bytes maxL none wy rm mc ms n ∧ y.name = "<init>" ∧ (Cond.instanceMethod y).before args s = true) (hE : KE G A s) (hP : va_P G.1 vwCl ws H) (hD : va_D A ws) (hS : va_S A s.heap H locs) (hA : ∀ q, s.heap.size ≤ q → A q)
    (isC : List Nat) (hC : isC.map (fun i => ws[i]?) = wc.map some) (hnC : va_nd isC = true)
    (hn : As.length = n) (hl : lv_has ls nL lv) (hst : st0 = As.reverse ++ .ref b :: rest) (hro : (rest.map fun v => v.category).sum ≤ 8) (hdg : decode cc pc = .ok (.invokespecial index, 3)) (hf : cells + mc ≤ R.cells ∧ slots + ms ≤ R.slots) :
    va_Run p l e R s m args below meth c H locs cells slots mc ms (F0 m pc ls st0) rest (Qc (Value.ref b :: As).toArray) (va_A wc H.size) :=
  va_runI (As := As) (rest := rest) S hM cw ⟨gP.blind, gP.here hE hP hD hS hA isC hC hnC⟩ rfl hn hl.1 hst (lv_room hro) hdg hf
theorem gc_VN (S : CallFix p m c cc nL s args Ts own) (hM : Met l y wy rm (gP G (.ref b :: As) wc H.size) Qc mc ms (va_A wc H.size)) (cw : va_CN R s args own index y host bytes maxL ret wy rm mc ms n ∧ (Cond.instanceMethod y).before args s = true ∧ (Cond.selects C y y).before args s = true) (hE : KE G A s) (hP : va_P G.1 vwCl ws H) (hD : va_D A ws) (hS : va_S A s.heap H locs) (hA : ∀ q, s.heap.size ≤ q → A q)
    (hrecv : ∃ cellB : Cell, H[b]? = some cellB ∧ cellB.vm.isStatics = false ∧ s.vm.findClass C = some cellB.cls) (isC : List Nat) (hC : isC.map (fun i => ws[i]?) = wc.map some) (hnC : va_nd isC = true)
    (hn : As.length = n) (hl : lv_has ls nL lv) (hst : st0 = As.reverse ++ .ref b :: rest) (hro : (rest.map fun v => v.category).sum ≤ 8) (hdg : decode cc pc = .ok (.invokevirtual index, 3)) (hf : cells + mc ≤ R.cells ∧ slots + ms ≤ R.slots) :
    va_Run p l e R s m args below meth c H locs cells slots mc ms (F0 m pc ls st0) rest (Qc (Value.ref b :: As).toArray) (va_A wc H.size) :=
  va_runVN (As := As) (rest := rest) S hM cw ⟨gP.blind, hrecv, gP.here hE hP hD hS hA isC hC hnC⟩ rfl hn hl.1 hst (lv_room hro) hdg hf
theorem gc_SN (S : CallFix p m c cc nL s args Ts own) (hM : Met l y wy rm (gP G As wc H.size) Qc mc ms (va_A wc H.size)) (cw : va_CN R s args own index y host bytes maxL ret wy rm mc ms n ∧ (Cond.static y).before args s = true ∧ True) (hE : KE G A s) (hP : va_P G.1 vwCl ws H) (hD : va_D A ws) (hS : va_S A s.heap H locs) (hA : ∀ q, s.heap.size ≤ q → A q)
    (isC : List Nat) (hC : isC.map (fun i => ws[i]?) = wc.map some) (hnC : va_nd isC = true)
    (hn : As.length = n) (hl : lv_has ls nL lv) (hst : st0 = As.reverse ++ rest) (hro : (rest.map fun v => v.category).sum ≤ 8) (hdg : decode cc pc = .ok (.invokestatic index, 3)) (hf : cells + mc ≤ R.cells ∧ slots + ms ≤ R.slots) :
    va_Run p l e R s m args below meth c H locs cells slots mc ms (F0 m pc ls st0) rest (Qc As.toArray) (va_A wc H.size) :=
  va_runSN (As := As) (rest := rest) S hM cw ⟨gP.blind, gP.here hE hP hD hS hA isC hC hnC⟩ rfl hn hl.1 hst (lv_room hro) hdg hf
theorem gc_IN (S : CallFix p m c cc nL s args Ts own) (hM : Met l y wy rm (gP G (.ref b :: As) wc H.size) Qc mc ms (va_A wc H.size)) (cw : va_CN R s args own index y host bytes maxL none wy rm mc ms n ∧ y.name = "<init>" ∧ (Cond.instanceMethod y).before args s = true) (hE : KE G A s) (hP : va_P G.1 vwCl ws H) (hD : va_D A ws) (hS : va_S A s.heap H locs) (hA : ∀ q, s.heap.size ≤ q → A q)
    (isC : List Nat) (hC : isC.map (fun i => ws[i]?) = wc.map some) (hnC : va_nd isC = true)
    (hn : As.length = n) (hl : lv_has ls nL lv) (hst : st0 = As.reverse ++ .ref b :: rest) (hro : (rest.map fun v => v.category).sum ≤ 8) (hdg : decode cc pc = .ok (.invokespecial index, 3)) (hf : cells + mc ≤ R.cells ∧ slots + ms ≤ R.slots) :
    va_Run p l e R s m args below meth c H locs cells slots mc ms (F0 m pc ls st0) rest (Qc (Value.ref b :: As).toArray) (va_A wc H.size) :=
  va_runIN (As := As) (rest := rest) S hM cw ⟨gP.blind, gP.here hE hP hD hS hA isC hC hnC⟩ rfl hn hl.1 hst (lv_room hro) hdg hf
/-- behind the call: what wasn't the callee's stays -/
theorem gc_i {S : Type} {post : Int32 → S → Prop} {w1 : S → va_W} (hr : va_Run p l e R s m args below meth c H locs cells slots mc ms (F0 m pc ls st0) rest (va_Qi post (gB G w1 (va_A wc H.size)) (va_A wc H.size) a) (va_A wc H.size))
    (hP : va_P G.1 vwCl ws H) (hD : va_D A ws) (hS : va_S A s.heap H locs) (hA : ∀ q, s.heap.size ≤ q → A q) (isC isR : List Nat) (hC : isC.map (fun i => ws[i]?) = wc.map some) (hR : isR.map (fun i => ws[i]?) = wr.map some) (hn : va_nd isR = true) (hdis : ∀ i ∈ isR, i ∉ isC)
    (kk : ∀ (r : Int32) (u : S) (H1 : Heap) (locs1 : List Loc), post r u → va_P G.1 vwCl (wr ++ w1 u) H1 → va_D A (wr ++ w1 u) → va_S A s.heap H1 locs1 → W p l e R s m args below meth c H1 locs1 (cells + mc) (slots + ms) Q (F0 m (pc + 3) ls (.int r :: rest))) : W p l e R s m args below meth c H locs cells slots Q (F0 m pc ls st0) := by
  have hFc := va_free (wc := wc) hD hS hA isC hC
  refine va_calli hr hS (fun q _ h => hFc q h) hFc (fun r u t H1 locs1 ht hvm hw hB hz1 hk1 hS1 => ?_)
  obtain ⟨hP1, hD1⟩ := hB
  rw [ht] at hP1
  obtain ⟨hP2, hD2⟩ := va_join hP hD isC isR hC hR hn hdis hk1 hFc hP1 hD1
  exact kk r u H1 locs1 hw hP2 hD2 hS1
theorem gc_v {S : Type} {post : S → Prop} {w1 : S → va_W} (hr : va_Run p l e R s m args below meth c H locs cells slots mc ms (F0 m pc ls st0) rest (va_Qv post (gB G w1 (va_A wc H.size)) (va_A wc H.size) a) (va_A wc H.size))
    (hP : va_P G.1 vwCl ws H) (hD : va_D A ws) (hS : va_S A s.heap H locs) (hA : ∀ q, s.heap.size ≤ q → A q) (isC isR : List Nat) (hC : isC.map (fun i => ws[i]?) = wc.map some) (hR : isR.map (fun i => ws[i]?) = wr.map some) (hn : va_nd isR = true) (hdis : ∀ i ∈ isR, i ∉ isC)
    (kk : ∀ (u : S) (H1 : Heap) (locs1 : List Loc), post u → va_P G.1 vwCl (wr ++ w1 u) H1 → va_D A (wr ++ w1 u) → va_S A s.heap H1 locs1 → W p l e R s m args below meth c H1 locs1 (cells + mc) (slots + ms) Q (F0 m (pc + 3) ls rest)) : W p l e R s m args below meth c H locs cells slots Q (F0 m pc ls st0) := by
  have hFc := va_free (wc := wc) hD hS hA isC hC
  refine va_callv hr hS (fun q _ h => hFc q h) hFc (fun u t H1 locs1 ht hvm hw hB hz1 hk1 hS1 => ?_)
  obtain ⟨hP1, hD1⟩ := hB
  rw [ht] at hP1
  obtain ⟨hP2, hD2⟩ := va_join hP hD isC isR hC hR hn hdis hk1 hFc hP1 hD1
  exact kk u H1 locs1 hw hP2 hD2 hS1
theorem gc_r {S : Type} {post : Nat → S → Prop} {w1 : S → va_W} (hr : va_Run p l e R s m args below meth c H locs cells slots mc ms (F0 m pc ls st0) rest (va_Qr (S := S) (fun _ => True) (fun u ra t => post ra u ∧ gB G w1 (va_A wc H.size) u t) (va_A wc H.size) a) (va_A wc H.size))
    (hP : va_P G.1 vwCl ws H) (hD : va_D A ws) (hS : va_S A s.heap H locs) (hA : ∀ q, s.heap.size ≤ q → A q) (isC isR : List Nat) (hC : isC.map (fun i => ws[i]?) = wc.map some) (hR : isR.map (fun i => ws[i]?) = wr.map some) (hn : va_nd isR = true) (hdis : ∀ i ∈ isR, i ∉ isC)
    (kk : ∀ (ra : Nat) (u : S) (H1 : Heap) (locs1 : List Loc), post ra u → va_P G.1 vwCl (wr ++ w1 u) H1 → va_D A (wr ++ w1 u) → va_S A s.heap H1 locs1 → W p l e R s m args below meth c H1 locs1 (cells + mc) (slots + ms) Q (F0 m (pc + 3) ls (.ref ra :: rest))) : W p l e R s m args below meth c H locs cells slots Q (F0 m pc ls st0) := by
  have hFc := va_free (wc := wc) hD hS hA isC hC
  refine va_callr hr hS (fun q _ h => hFc q h) hFc (fun u ra t H1 locs1 ht hvm hw hB hz1 hk1 hS1 => ?_)
  obtain ⟨hq, hP1, hD1⟩ := hB
  rw [ht] at hP1
  obtain ⟨hP2, hD2⟩ := va_join hP hD isC isR hC hR hn hdis hk1 hFc hP1 hD1
  exact kk ra u H1 locs1 hq hP2 hD2 hS1
/-- a new array of a class that is known -/
theorem gc_newa (hexec : p.tables.exec = Jvm.exec) (hb : c.code = cc) {atype : ArrayType} (harr : (Cond.arrayClass (newarray.typeOf atype)).before args s = true) {ty : FieldType} (hty : newarray.typeOf atype = ty) (hE : KE G A s) (hP : va_P G.1 vwCl ws H) (hD : va_D A ws) (hS : va_S A s.heap H locs) (hA : ∀ q, s.heap.size ≤ q → A q) (t0 : Nat) {cA : ClassId} (ht : (tyG G)[t0]? = some (cA, ty)) (hnm : ∀ cX : ClassId, va_RA s cX ty → s.vm.findClass ("[" ++ ty.toString) = some cX)
    {n : Int32} {N' : Nat} {a0 : vp_A} (ha : ∀ cA : ClassId, vp_cell cA a0 = arrV cA N' (fun _ => defaultValue ty)) (hn : ¬ n < 0) (hN : n.toNatClampNeg = N') (hbytes : N' * componentBytes ty ≤ 536870912) (hcells : cells + 1 ≤ R.cells) (hslots : slots + N' ≤ R.slots) (hdg : decode cc pc = .ok (.newarray atype, 2))
    (kk : ∀ (q : Nat) (H1 : Heap), va_P G.1 vwCl (ws ++ [(q, .inl (cA, a0))]) H1 → va_D A (ws ++ [(q, .inl (cA, a0))]) → va_S A s.heap H1 locs →
      W p l e R s m args below meth c H1 locs (cells + 1) (slots + N') Q (F0 m (pc + 2) ls (.ref q :: rest))) : W p l e R s m args below meth c H locs cells slots Q (F0 m pc ls (.int n :: rest)) := by
  refine va_newa hexec hb harr hty hE.1 hP hD hS hA ha hn hN hbytes hcells hslots hdg (fun q cX H1 hK1 hP1 hD1 hS1 => ?_)
  have h1 := hnm cX (hK1.2 (tyG G).length (cX, ty) (by simp)).2
  have h2 := hnm cA (hE.1.2 t0 _ ht).2
  have h3 : cX = cA := Option.some.inj (h1.symm.trans h2)
  subst h3
  exact kk q H1 hP1 hD1 hS1
end GD
/-! small facts of numbers -/
theorem nb01 {v : Int32} (h : v = 0 ∨ v = 1) : narrow .boolean (.int v) = .int v := by rcases h with rfl | rfl <;> rfl
theorem z_lt {a b : Int32} : a < b ↔ a.toInt < b.toInt := Int32.lt_iff_toInt_lt
theorem z_le {a b : Int32} : a ≤ b ↔ a.toInt ≤ b.toInt := Int32.le_iff_toInt_le
theorem z_0 : (0 : Int32).toInt = 0 := by decide
theorem z_1 : (1 : Int32).toInt = 1 := by decide
theorem z_b (a : Int32) : -2147483648 ≤ a.toInt ∧ a.toInt < 2147483648 := ⟨by have := Int32.le_toInt a; omega, by have := Int32.toInt_lt a; omega⟩
theorem z_add {x y : Int32} (h1 : -2147483648 ≤ x.toInt + y.toInt) (h2 : x.toInt + y.toInt < 2147483648) : (x + y).toInt = x.toInt + y.toInt := by
  rw [Int32.toInt_add]
  exact Int.bmod_eq_of_le (by omega) (by omega)
theorem z_sub {x y : Int32} (h1 : -2147483648 ≤ x.toInt - y.toInt) (h2 : x.toInt - y.toInt < 2147483648) : (x - y).toInt = x.toInt - y.toInt := by
  rw [Int32.toInt_sub]
  exact Int.bmod_eq_of_le (by omega) (by omega)
theorem z_n {n : Nat} (h : n < 2147483648) : (nI n).toInt = (n : Int) := nI_toInt (by omega)
theorem z_in {x : Int32} {n : Nat} (h1 : 0 ≤ x.toInt) (h2 : x.toInt < n) : vp_in x n := vp_in_iff.mpr ⟨h1, h2⟩
/-- a loop that counts up to B -/
theorem ms_up {x y B : Int32} {n : Nat} (c : ¬ B ≤ x) (e : y = x + 1) (hm : (B.toInt - x.toInt).toNat < n + 1) : (B.toInt - y.toInt).toNat < n := by
  have h := z_b B
  have h2 := z_b x
  rw [z_le] at c
  rw [e, z_add (by rw [z_1]; omega) (by rw [z_1]; omega), z_1]
  omega
theorem ms_upe {x y B : Int32} {n : Nat} (c : ¬ B < x) (e : y = x + 1) (hB : B.toInt < 2147483647) (hm : (B.toInt + 1 - x.toInt).toNat < n + 1) : (B.toInt + 1 - y.toInt).toNat < n := by
  have h2 := z_b x
  rw [z_lt] at c
  rw [e, z_add (by rw [z_1]; omega) (by rw [z_1]; omega), z_1]
  omega
/-- a row: its size is one of its array's -/
def RowOk (N : Nat) (sz : Int32) : Prop := 0 ≤ sz.toInt ∧ sz.toInt ≤ N
theorem row_cut {N : Nat} {sz n : Int32} (hok : RowOk N sz) (c1 : ¬ n < 0) (c2 : ¬ sz < n) : RowOk N n := by
  have h := hok.2
  rw [z_lt, z_0] at c1
  rw [z_lt] at c2
  exact ⟨by omega, by omega⟩
theorem row_in {N : Nat} {sz : Int32} (hN : N ≤ 2000) (hok : RowOk N sz) (c : ¬ nI N ≤ sz) : vp_in sz N := by
  rw [z_le, z_n (by omega)] at c
  exact z_in hok.1 (by omega)
theorem row_add {N : Nat} {sz y : Int32} (hN : N ≤ 2000) (hok : RowOk N sz) (c : ¬ nI N ≤ sz) (e : y = sz + 1) : RowOk N y ∧ (sz.toInt < N → y.toInt = sz.toInt + 1) := by
  rw [z_le, z_n (by omega)] at c
  have h := hok.1
  have e2 : y.toInt = sz.toInt + 1 := by rw [e, z_add (by rw [z_1]; omega) (by rw [z_1]; omega), z_1]
  exact ⟨⟨by omega, by omega⟩, fun _ => e2⟩
theorem row_full {N : Nat} {sz : Int32} (hN : N ≤ 2000) (c : nI N ≤ sz) : sz.toInt < N → sz.toInt = sz.toInt + 1 := by
  rw [z_le, z_n (by omega)] at c
  omega
theorem up_0 {x y B : Int32} (h : 0 ≤ x.toInt) (c : ¬ B ≤ x) (e : y = x + 1) : 0 ≤ y.toInt := by
  have hB := z_b B
  rw [z_le] at c
  rw [e, z_add (by rw [z_1]; omega) (by rw [z_1]; omega), z_1]
  omega
theorem lenS_small : ∀ k, k < nS → lenS.getD k 0 < 2147483648 := by decide +kernel
theorem z_nle {x B : Int32} (c : ¬ B ≤ x) : x.toInt < B.toInt := by rw [z_le] at c; omega
/-! a tree's nodes -/
theorem tr_h1 {i size : Int32} (c1 : ¬ i < 0) (c2 : ¬ size ≤ i) : 0 ≤ i.toInt ∧ i.toInt < size.toInt := by
  rw [z_lt, z_0] at c1
  rw [z_le] at c2
  exact ⟨by omega, by omega⟩
theorem tr_h2 {i size : Int32} (c1 : i < 0) : ¬ (0 ≤ i.toInt ∧ i.toInt < size.toInt) := by
  rw [z_lt, z_0] at c1
  omega
theorem tr_h3 {i size : Int32} (c2 : size ≤ i) : ¬ (0 ≤ i.toInt ∧ i.toInt < size.toInt) := by
  rw [z_le] at c2
  omega
theorem tr_in {i size r : Int32} (hs : RowOk 1000 size) (h : (r = 1 ∧ 0 ≤ i.toInt ∧ i.toInt < size.toInt) ∨ (r = 0 ∧ ¬ (0 ≤ i.toInt ∧ i.toInt < size.toInt))) (c : ¬ r = 0) : vp_in i 1000 := by
  rcases h with h | h
  · have := hs.2
    exact z_in h.2.1 (by omega)
  · exact absurd h.1 c
def tr_num (size : Int32) (f : Nat → Int32) (i : Int32) : Int32 := if 0 ≤ i.toInt ∧ i.toInt < size.toInt then f i.toNatClampNeg else 0
theorem tr_num1 {i size r x : Int32} {f : Nat → Int32} (h : (r = 1 ∧ 0 ≤ i.toInt ∧ i.toInt < size.toInt) ∨ (r = 0 ∧ ¬ (0 ≤ i.toInt ∧ i.toInt < size.toInt))) (c : ¬ r = 0) (e : x = f i.toNatClampNeg) : tr_num size f i = x := by
  rcases h with h | h
  · rw [tr_num, if_pos h.2, e]
  · exact absurd h.1 c
theorem tr_num0 {i size r : Int32} {f : Nat → Int32} (h : (r = 1 ∧ 0 ≤ i.toInt ∧ i.toInt < size.toInt) ∨ (r = 0 ∧ ¬ (0 ≤ i.toInt ∧ i.toInt < size.toInt))) (c : r = 0) : tr_num size f i = 0 := by
  rcases h with h | h
  · rw [h.1] at c
    exact absurd c (by decide)
  · rw [tr_num, if_neg h.2]
end
section
theorem d_Row_init_0 : decode b_Row_init 0 = .ok (.aload_n 0, 1) := by decide +kernel
theorem d_Row_init_1 : decode b_Row_init 1 = .ok (.invokespecial 1, 3) := by decide +kernel
theorem d_Row_init_4 : decode b_Row_init 4 = .ok (.aload_n 0, 1) := by decide +kernel
theorem d_Row_init_5 : decode b_Row_init 5 = .ok (.iload_n 1, 1) := by decide +kernel
theorem d_Row_init_6 : decode b_Row_init 6 = .ok (.newarray .byte, 2) := by decide +kernel
theorem d_Row_init_8 : decode b_Row_init 8 = .ok (.putfield 7, 3) := by decide +kernel
theorem d_Row_init_11 : decode b_Row_init 11 = .ok (.aload_n 0, 1) := by decide +kernel
theorem d_Row_init_12 : decode b_Row_init 12 = .ok (.iconst 0, 1) := by decide +kernel
theorem d_Row_init_13 : decode b_Row_init 13 = .ok (.putfield 13, 3) := by decide +kernel
theorem d_Row_init_16 : decode b_Row_init 16 = .ok (.return_, 1) := by decide +kernel
theorem d_Row_size_0 : decode b_Row_size 0 = .ok (.aload_n 0, 1) := by decide +kernel
theorem d_Row_size_1 : decode b_Row_size 1 = .ok (.getfield 13, 3) := by decide +kernel
theorem d_Row_size_4 : decode b_Row_size 4 = .ok (.ireturn, 1) := by decide +kernel
theorem d_Row_get_0 : decode b_Row_get 0 = .ok (.iload_n 1, 1) := by decide +kernel
theorem d_Row_get_1 : decode b_Row_get 1 = .ok (.ifCond .lt 24, 3) := by decide +kernel
theorem d_Row_get_4 : decode b_Row_get 4 = .ok (.iload_n 1, 1) := by decide +kernel
theorem d_Row_get_5 : decode b_Row_get 5 = .ok (.aload_n 0, 1) := by decide +kernel
theorem d_Row_get_6 : decode b_Row_get 6 = .ok (.getfield 13, 3) := by decide +kernel
theorem d_Row_get_9 : decode b_Row_get 9 = .ok (.if_icmp .ge 16, 3) := by decide +kernel
theorem d_Row_get_12 : decode b_Row_get 12 = .ok (.aload_n 0, 1) := by decide +kernel
theorem d_Row_get_13 : decode b_Row_get 13 = .ok (.getfield 7, 3) := by decide +kernel
theorem d_Row_get_16 : decode b_Row_get 16 = .ok (.iload_n 1, 1) := by decide +kernel
theorem d_Row_get_17 : decode b_Row_get 17 = .ok (.baload, 1) := by decide +kernel
theorem d_Row_get_18 : decode b_Row_get 18 = .ok (.sipush 255, 3) := by decide +kernel
theorem d_Row_get_21 : decode b_Row_get 21 = .ok (.iand, 1) := by decide +kernel
theorem d_Row_get_22 : decode b_Row_get 22 = .ok (.goto 4, 3) := by decide +kernel
theorem d_Row_get_25 : decode b_Row_get 25 = .ok (.iconst (-1), 1) := by decide +kernel
theorem d_Row_get_26 : decode b_Row_get 26 = .ok (.ireturn, 1) := by decide +kernel
theorem d_Row_cut_0 : decode b_Row_cut 0 = .ok (.iload_n 1, 1) := by decide +kernel
theorem d_Row_cut_1 : decode b_Row_cut 1 = .ok (.ifCond .lt 16, 3) := by decide +kernel
theorem d_Row_cut_4 : decode b_Row_cut 4 = .ok (.iload_n 1, 1) := by decide +kernel
theorem d_Row_cut_5 : decode b_Row_cut 5 = .ok (.aload_n 0, 1) := by decide +kernel
theorem d_Row_cut_6 : decode b_Row_cut 6 = .ok (.getfield 13, 3) := by decide +kernel
theorem d_Row_cut_9 : decode b_Row_cut 9 = .ok (.if_icmp .gt 8, 3) := by decide +kernel
theorem d_Row_cut_12 : decode b_Row_cut 12 = .ok (.aload_n 0, 1) := by decide +kernel
theorem d_Row_cut_13 : decode b_Row_cut 13 = .ok (.iload_n 1, 1) := by decide +kernel
theorem d_Row_cut_14 : decode b_Row_cut 14 = .ok (.putfield 13, 3) := by decide +kernel
theorem d_Row_cut_17 : decode b_Row_cut 17 = .ok (.return_, 1) := by decide +kernel
theorem d_Row_add_0 : decode b_Row_add 0 = .ok (.aload_n 0, 1) := by decide +kernel
theorem d_Row_add_1 : decode b_Row_add 1 = .ok (.getfield 13, 3) := by decide +kernel
theorem d_Row_add_4 : decode b_Row_add 4 = .ok (.aload_n 0, 1) := by decide +kernel
theorem d_Row_add_5 : decode b_Row_add 5 = .ok (.getfield 7, 3) := by decide +kernel
theorem d_Row_add_8 : decode b_Row_add 8 = .ok (.arraylength, 1) := by decide +kernel
theorem d_Row_add_9 : decode b_Row_add 9 = .ok (.if_icmp .ge 24, 3) := by decide +kernel
theorem d_Row_add_12 : decode b_Row_add 12 = .ok (.aload_n 0, 1) := by decide +kernel
theorem d_Row_add_13 : decode b_Row_add 13 = .ok (.getfield 7, 3) := by decide +kernel
theorem d_Row_add_16 : decode b_Row_add 16 = .ok (.aload_n 0, 1) := by decide +kernel
theorem d_Row_add_17 : decode b_Row_add 17 = .ok (.getfield 13, 3) := by decide +kernel
theorem d_Row_add_20 : decode b_Row_add 20 = .ok (.iload_n 1, 1) := by decide +kernel
theorem d_Row_add_21 : decode b_Row_add 21 = .ok (.i2b, 1) := by decide +kernel
theorem d_Row_add_22 : decode b_Row_add 22 = .ok (.bastore, 1) := by decide +kernel
theorem d_Row_add_23 : decode b_Row_add 23 = .ok (.aload_n 0, 1) := by decide +kernel
theorem d_Row_add_24 : decode b_Row_add 24 = .ok (.dup, 1) := by decide +kernel
theorem d_Row_add_25 : decode b_Row_add 25 = .ok (.getfield 13, 3) := by decide +kernel
theorem d_Row_add_28 : decode b_Row_add 28 = .ok (.iconst 1, 1) := by decide +kernel
theorem d_Row_add_29 : decode b_Row_add 29 = .ok (.iadd, 1) := by decide +kernel
theorem d_Row_add_30 : decode b_Row_add 30 = .ok (.putfield 13, 3) := by decide +kernel
theorem d_Row_add_33 : decode b_Row_add 33 = .ok (.return_, 1) := by decide +kernel
theorem d_Row_addFour_0 : decode b_Row_addFour 0 = .ok (.aload_n 0, 1) := by decide +kernel
theorem d_Row_addFour_1 : decode b_Row_addFour 1 = .ok (.iload_n 1, 1) := by decide +kernel
theorem d_Row_addFour_2 : decode b_Row_addFour 2 = .ok (.bipush 24, 2) := by decide +kernel
theorem d_Row_addFour_4 : decode b_Row_addFour 4 = .ok (.iushr, 1) := by decide +kernel
theorem d_Row_addFour_5 : decode b_Row_addFour 5 = .ok (.invokevirtual 17, 3) := by decide +kernel
theorem d_Row_addFour_8 : decode b_Row_addFour 8 = .ok (.aload_n 0, 1) := by decide +kernel
theorem d_Row_addFour_9 : decode b_Row_addFour 9 = .ok (.iload_n 1, 1) := by decide +kernel
theorem d_Row_addFour_10 : decode b_Row_addFour 10 = .ok (.bipush 16, 2) := by decide +kernel
theorem d_Row_addFour_12 : decode b_Row_addFour 12 = .ok (.iushr, 1) := by decide +kernel
theorem d_Row_addFour_13 : decode b_Row_addFour 13 = .ok (.invokevirtual 17, 3) := by decide +kernel
theorem d_Row_addFour_16 : decode b_Row_addFour 16 = .ok (.aload_n 0, 1) := by decide +kernel
theorem d_Row_addFour_17 : decode b_Row_addFour 17 = .ok (.iload_n 1, 1) := by decide +kernel
theorem d_Row_addFour_18 : decode b_Row_addFour 18 = .ok (.bipush 8, 2) := by decide +kernel
theorem d_Row_addFour_20 : decode b_Row_addFour 20 = .ok (.iushr, 1) := by decide +kernel
theorem d_Row_addFour_21 : decode b_Row_addFour 21 = .ok (.invokevirtual 17, 3) := by decide +kernel
theorem d_Row_addFour_24 : decode b_Row_addFour 24 = .ok (.aload_n 0, 1) := by decide +kernel
theorem d_Row_addFour_25 : decode b_Row_addFour 25 = .ok (.iload_n 1, 1) := by decide +kernel
theorem d_Row_addFour_26 : decode b_Row_addFour 26 = .ok (.invokevirtual 17, 3) := by decide +kernel
theorem d_Row_addFour_29 : decode b_Row_addFour 29 = .ok (.return_, 1) := by decide +kernel
theorem d_Row_addWord_0 : decode b_Row_addWord 0 = .ok (.iconst 0, 1) := by decide +kernel
theorem d_Row_addWord_1 : decode b_Row_addWord 1 = .ok (.istore_n 2, 1) := by decide +kernel
theorem d_Row_addWord_2 : decode b_Row_addWord 2 = .ok (.iload_n 2, 1) := by decide +kernel
theorem d_Row_addWord_3 : decode b_Row_addWord 3 = .ok (.aload_n 1, 1) := by decide +kernel
theorem d_Row_addWord_4 : decode b_Row_addWord 4 = .ok (.invokevirtual 21, 3) := by decide +kernel
theorem d_Row_addWord_7 : decode b_Row_addWord 7 = .ok (.if_icmp .ge 18, 3) := by decide +kernel
theorem d_Row_addWord_10 : decode b_Row_addWord 10 = .ok (.aload_n 0, 1) := by decide +kernel
theorem d_Row_addWord_11 : decode b_Row_addWord 11 = .ok (.aload_n 1, 1) := by decide +kernel
theorem d_Row_addWord_12 : decode b_Row_addWord 12 = .ok (.iload_n 2, 1) := by decide +kernel
theorem d_Row_addWord_13 : decode b_Row_addWord 13 = .ok (.invokevirtual 27, 3) := by decide +kernel
theorem d_Row_addWord_16 : decode b_Row_addWord 16 = .ok (.invokevirtual 17, 3) := by decide +kernel
theorem d_Row_addWord_19 : decode b_Row_addWord 19 = .ok (.iinc 2 1, 3) := by decide +kernel
theorem d_Row_addWord_22 : decode b_Row_addWord 22 = .ok (.goto (-20), 3) := by decide +kernel
theorem d_Row_addWord_25 : decode b_Row_addWord 25 = .ok (.return_, 1) := by decide +kernel
theorem d_Row_addFrom_0 : decode b_Row_addFrom 0 = .ok (.iconst 0, 1) := by decide +kernel
theorem d_Row_addFrom_1 : decode b_Row_addFrom 1 = .ok (.istore 4, 2) := by decide +kernel
theorem d_Row_addFrom_3 : decode b_Row_addFrom 3 = .ok (.iload 4, 2) := by decide +kernel
theorem d_Row_addFrom_5 : decode b_Row_addFrom 5 = .ok (.iload_n 3, 1) := by decide +kernel
theorem d_Row_addFrom_6 : decode b_Row_addFrom 6 = .ok (.if_icmp .ge 21, 3) := by decide +kernel
theorem d_Row_addFrom_9 : decode b_Row_addFrom 9 = .ok (.aload_n 0, 1) := by decide +kernel
theorem d_Row_addFrom_10 : decode b_Row_addFrom 10 = .ok (.aload_n 1, 1) := by decide +kernel
theorem d_Row_addFrom_11 : decode b_Row_addFrom 11 = .ok (.iload_n 2, 1) := by decide +kernel
theorem d_Row_addFrom_12 : decode b_Row_addFrom 12 = .ok (.iload 4, 2) := by decide +kernel
theorem d_Row_addFrom_14 : decode b_Row_addFrom 14 = .ok (.iadd, 1) := by decide +kernel
theorem d_Row_addFrom_15 : decode b_Row_addFrom 15 = .ok (.invokevirtual 31, 3) := by decide +kernel
theorem d_Row_addFrom_18 : decode b_Row_addFrom 18 = .ok (.invokevirtual 17, 3) := by decide +kernel
theorem d_Row_addFrom_21 : decode b_Row_addFrom 21 = .ok (.iinc 4 1, 3) := by decide +kernel
theorem d_Row_addFrom_24 : decode b_Row_addFrom 24 = .ok (.goto (-21), 3) := by decide +kernel
theorem d_Row_addFrom_27 : decode b_Row_addFrom 27 = .ok (.return_, 1) := by decide +kernel
theorem d_Row_hasAt_0 : decode b_Row_hasAt 0 = .ok (.iconst 0, 1) := by decide +kernel
theorem d_Row_hasAt_1 : decode b_Row_hasAt 1 = .ok (.istore 5, 2) := by decide +kernel
theorem d_Row_hasAt_3 : decode b_Row_hasAt 3 = .ok (.iload 5, 2) := by decide +kernel
theorem d_Row_hasAt_5 : decode b_Row_hasAt 5 = .ok (.iload 4, 2) := by decide +kernel
theorem d_Row_hasAt_7 : decode b_Row_hasAt 7 = .ok (.if_icmp .ge 30, 3) := by decide +kernel
theorem d_Row_hasAt_10 : decode b_Row_hasAt 10 = .ok (.aload_n 0, 1) := by decide +kernel
theorem d_Row_hasAt_11 : decode b_Row_hasAt 11 = .ok (.iload_n 1, 1) := by decide +kernel
theorem d_Row_hasAt_12 : decode b_Row_hasAt 12 = .ok (.iload 5, 2) := by decide +kernel
theorem d_Row_hasAt_14 : decode b_Row_hasAt 14 = .ok (.iadd, 1) := by decide +kernel
theorem d_Row_hasAt_15 : decode b_Row_hasAt 15 = .ok (.invokevirtual 31, 3) := by decide +kernel
theorem d_Row_hasAt_18 : decode b_Row_hasAt 18 = .ok (.aload_n 2, 1) := by decide +kernel
theorem d_Row_hasAt_19 : decode b_Row_hasAt 19 = .ok (.iload_n 3, 1) := by decide +kernel
theorem d_Row_hasAt_20 : decode b_Row_hasAt 20 = .ok (.iload 5, 2) := by decide +kernel
theorem d_Row_hasAt_22 : decode b_Row_hasAt 22 = .ok (.iadd, 1) := by decide +kernel
theorem d_Row_hasAt_23 : decode b_Row_hasAt 23 = .ok (.invokevirtual 31, 3) := by decide +kernel
theorem d_Row_hasAt_26 : decode b_Row_hasAt 26 = .ok (.if_icmp .eq 5, 3) := by decide +kernel
theorem d_Row_hasAt_29 : decode b_Row_hasAt 29 = .ok (.iconst 0, 1) := by decide +kernel
theorem d_Row_hasAt_30 : decode b_Row_hasAt 30 = .ok (.ireturn, 1) := by decide +kernel
theorem d_Row_hasAt_31 : decode b_Row_hasAt 31 = .ok (.iinc 5 1, 3) := by decide +kernel
theorem d_Row_hasAt_34 : decode b_Row_hasAt 34 = .ok (.goto (-31), 3) := by decide +kernel
theorem d_Row_hasAt_37 : decode b_Row_hasAt 37 = .ok (.iconst 1, 1) := by decide +kernel
theorem d_Row_hasAt_38 : decode b_Row_hasAt 38 = .ok (.ireturn, 1) := by decide +kernel
theorem d_Tree_init_0 : decode b_Tree_init 0 = .ok (.aload_n 0, 1) := by decide +kernel
theorem d_Tree_init_1 : decode b_Tree_init 1 = .ok (.invokespecial 3, 3) := by decide +kernel
theorem d_Tree_init_4 : decode b_Tree_init 4 = .ok (.aload_n 0, 1) := by decide +kernel
theorem d_Tree_init_5 : decode b_Tree_init 5 = .ok (.sipush 1000, 3) := by decide +kernel
theorem d_Tree_init_8 : decode b_Tree_init 8 = .ok (.newarray .byte, 2) := by decide +kernel
theorem d_Tree_init_10 : decode b_Tree_init 10 = .ok (.putfield 9, 3) := by decide +kernel
theorem d_Tree_init_13 : decode b_Tree_init 13 = .ok (.aload_n 0, 1) := by decide +kernel
theorem d_Tree_init_14 : decode b_Tree_init 14 = .ok (.sipush 1000, 3) := by decide +kernel
theorem d_Tree_init_17 : decode b_Tree_init 17 = .ok (.newarray .int, 2) := by decide +kernel
theorem d_Tree_init_19 : decode b_Tree_init 19 = .ok (.putfield 15, 3) := by decide +kernel
theorem d_Tree_init_22 : decode b_Tree_init 22 = .ok (.aload_n 0, 1) := by decide +kernel
theorem d_Tree_init_23 : decode b_Tree_init 23 = .ok (.sipush 1000, 3) := by decide +kernel
theorem d_Tree_init_26 : decode b_Tree_init 26 = .ok (.newarray .int, 2) := by decide +kernel
theorem d_Tree_init_28 : decode b_Tree_init 28 = .ok (.putfield 19, 3) := by decide +kernel
theorem d_Tree_init_31 : decode b_Tree_init 31 = .ok (.aload_n 0, 1) := by decide +kernel
theorem d_Tree_init_32 : decode b_Tree_init 32 = .ok (.sipush 1000, 3) := by decide +kernel
theorem d_Tree_init_35 : decode b_Tree_init 35 = .ok (.newarray .int, 2) := by decide +kernel
theorem d_Tree_init_37 : decode b_Tree_init 37 = .ok (.putfield 22, 3) := by decide +kernel
theorem d_Tree_init_40 : decode b_Tree_init 40 = .ok (.aload_n 0, 1) := by decide +kernel
theorem d_Tree_init_41 : decode b_Tree_init 41 = .ok (.new 25, 3) := by decide +kernel
theorem d_Tree_init_44 : decode b_Tree_init 44 = .ok (.dup, 1) := by decide +kernel
theorem d_Tree_init_45 : decode b_Tree_init 45 = .ok (.sipush 1000, 3) := by decide +kernel
theorem d_Tree_init_48 : decode b_Tree_init 48 = .ok (.invokespecial 27, 3) := by decide +kernel
theorem d_Tree_init_51 : decode b_Tree_init 51 = .ok (.putfield 30, 3) := by decide +kernel
theorem d_Tree_init_54 : decode b_Tree_init 54 = .ok (.aload_n 0, 1) := by decide +kernel
theorem d_Tree_init_55 : decode b_Tree_init 55 = .ok (.iconst 0, 1) := by decide +kernel
theorem d_Tree_init_56 : decode b_Tree_init 56 = .ok (.putfield 34, 3) := by decide +kernel
theorem d_Tree_init_59 : decode b_Tree_init 59 = .ok (.return_, 1) := by decide +kernel
theorem d_Tree_clear_0 : decode b_Tree_clear 0 = .ok (.aload_n 0, 1) := by decide +kernel
theorem d_Tree_clear_1 : decode b_Tree_clear 1 = .ok (.iconst 0, 1) := by decide +kernel
theorem d_Tree_clear_2 : decode b_Tree_clear 2 = .ok (.putfield 34, 3) := by decide +kernel
theorem d_Tree_clear_5 : decode b_Tree_clear 5 = .ok (.aload_n 0, 1) := by decide +kernel
theorem d_Tree_clear_6 : decode b_Tree_clear 6 = .ok (.getfield 30, 3) := by decide +kernel
theorem d_Tree_clear_9 : decode b_Tree_clear 9 = .ok (.iconst 0, 1) := by decide +kernel
theorem d_Tree_clear_10 : decode b_Tree_clear 10 = .ok (.invokevirtual 38, 3) := by decide +kernel
theorem d_Tree_clear_13 : decode b_Tree_clear 13 = .ok (.return_, 1) := by decide +kernel
theorem d_Tree_add_0 : decode b_Tree_add 0 = .ok (.aload_n 0, 1) := by decide +kernel
theorem d_Tree_add_1 : decode b_Tree_add 1 = .ok (.getfield 34, 3) := by decide +kernel
theorem d_Tree_add_4 : decode b_Tree_add 4 = .ok (.istore 4, 2) := by decide +kernel
theorem d_Tree_add_6 : decode b_Tree_add 6 = .ok (.iload 4, 2) := by decide +kernel
theorem d_Tree_add_8 : decode b_Tree_add 8 = .ok (.sipush 1000, 3) := by decide +kernel
theorem d_Tree_add_11 : decode b_Tree_add 11 = .ok (.if_icmp .ge 46, 3) := by decide +kernel
theorem d_Tree_add_14 : decode b_Tree_add 14 = .ok (.aload_n 0, 1) := by decide +kernel
theorem d_Tree_add_15 : decode b_Tree_add 15 = .ok (.getfield 9, 3) := by decide +kernel
theorem d_Tree_add_18 : decode b_Tree_add 18 = .ok (.iload 4, 2) := by decide +kernel
theorem d_Tree_add_20 : decode b_Tree_add 20 = .ok (.iload_n 1, 1) := by decide +kernel
theorem d_Tree_add_21 : decode b_Tree_add 21 = .ok (.i2b, 1) := by decide +kernel
theorem d_Tree_add_22 : decode b_Tree_add 22 = .ok (.bastore, 1) := by decide +kernel
theorem d_Tree_add_23 : decode b_Tree_add 23 = .ok (.aload_n 0, 1) := by decide +kernel
theorem d_Tree_add_24 : decode b_Tree_add 24 = .ok (.getfield 15, 3) := by decide +kernel
theorem d_Tree_add_27 : decode b_Tree_add 27 = .ok (.iload 4, 2) := by decide +kernel
theorem d_Tree_add_29 : decode b_Tree_add 29 = .ok (.iload_n 2, 1) := by decide +kernel
theorem d_Tree_add_30 : decode b_Tree_add 30 = .ok (.iastore, 1) := by decide +kernel
theorem d_Tree_add_31 : decode b_Tree_add 31 = .ok (.aload_n 0, 1) := by decide +kernel
theorem d_Tree_add_32 : decode b_Tree_add 32 = .ok (.getfield 19, 3) := by decide +kernel
theorem d_Tree_add_35 : decode b_Tree_add 35 = .ok (.iload 4, 2) := by decide +kernel
theorem d_Tree_add_37 : decode b_Tree_add 37 = .ok (.iload_n 3, 1) := by decide +kernel
theorem d_Tree_add_38 : decode b_Tree_add 38 = .ok (.iastore, 1) := by decide +kernel
theorem d_Tree_add_39 : decode b_Tree_add 39 = .ok (.aload_n 0, 1) := by decide +kernel
theorem d_Tree_add_40 : decode b_Tree_add 40 = .ok (.getfield 22, 3) := by decide +kernel
theorem d_Tree_add_43 : decode b_Tree_add 43 = .ok (.iload 4, 2) := by decide +kernel
theorem d_Tree_add_45 : decode b_Tree_add 45 = .ok (.iconst 1, 1) := by decide +kernel
theorem d_Tree_add_46 : decode b_Tree_add 46 = .ok (.iastore, 1) := by decide +kernel
theorem d_Tree_add_47 : decode b_Tree_add 47 = .ok (.aload_n 0, 1) := by decide +kernel
theorem d_Tree_add_48 : decode b_Tree_add 48 = .ok (.dup, 1) := by decide +kernel
theorem d_Tree_add_49 : decode b_Tree_add 49 = .ok (.getfield 34, 3) := by decide +kernel
theorem d_Tree_add_52 : decode b_Tree_add 52 = .ok (.iconst 1, 1) := by decide +kernel
theorem d_Tree_add_53 : decode b_Tree_add 53 = .ok (.iadd, 1) := by decide +kernel
theorem d_Tree_add_54 : decode b_Tree_add 54 = .ok (.putfield 34, 3) := by decide +kernel
theorem d_Tree_add_57 : decode b_Tree_add 57 = .ok (.iload 4, 2) := by decide +kernel
theorem d_Tree_add_59 : decode b_Tree_add 59 = .ok (.ireturn, 1) := by decide +kernel
theorem d_Tree_countPart_0 : decode b_Tree_countPart 0 = .ok (.aload_n 0, 1) := by decide +kernel
theorem d_Tree_countPart_1 : decode b_Tree_countPart 1 = .ok (.iload_n 1, 1) := by decide +kernel
theorem d_Tree_countPart_2 : decode b_Tree_countPart 2 = .ok (.invokevirtual 41, 3) := by decide +kernel
theorem d_Tree_countPart_5 : decode b_Tree_countPart 5 = .ok (.ifCond .eq 25, 3) := by decide +kernel
theorem d_Tree_countPart_8 : decode b_Tree_countPart 8 = .ok (.aload_n 0, 1) := by decide +kernel
theorem d_Tree_countPart_9 : decode b_Tree_countPart 9 = .ok (.getfield 15, 3) := by decide +kernel
theorem d_Tree_countPart_12 : decode b_Tree_countPart 12 = .ok (.iload_n 1, 1) := by decide +kernel
theorem d_Tree_countPart_13 : decode b_Tree_countPart 13 = .ok (.dup2, 1) := by decide +kernel
theorem d_Tree_countPart_14 : decode b_Tree_countPart 14 = .ok (.iaload, 1) := by decide +kernel
theorem d_Tree_countPart_15 : decode b_Tree_countPart 15 = .ok (.iconst 1, 1) := by decide +kernel
theorem d_Tree_countPart_16 : decode b_Tree_countPart 16 = .ok (.iadd, 1) := by decide +kernel
theorem d_Tree_countPart_17 : decode b_Tree_countPart 17 = .ok (.iastore, 1) := by decide +kernel
theorem d_Tree_countPart_18 : decode b_Tree_countPart 18 = .ok (.aload_n 0, 1) := by decide +kernel
theorem d_Tree_countPart_19 : decode b_Tree_countPart 19 = .ok (.getfield 22, 3) := by decide +kernel
theorem d_Tree_countPart_22 : decode b_Tree_countPart 22 = .ok (.iload_n 1, 1) := by decide +kernel
theorem d_Tree_countPart_23 : decode b_Tree_countPart 23 = .ok (.aload_n 0, 1) := by decide +kernel
theorem d_Tree_countPart_24 : decode b_Tree_countPart 24 = .ok (.getfield 34, 3) := by decide +kernel
theorem d_Tree_countPart_27 : decode b_Tree_countPart 27 = .ok (.iload_n 1, 1) := by decide +kernel
theorem d_Tree_countPart_28 : decode b_Tree_countPart 28 = .ok (.isub, 1) := by decide +kernel
theorem d_Tree_countPart_29 : decode b_Tree_countPart 29 = .ok (.iastore, 1) := by decide +kernel
theorem d_Tree_countPart_30 : decode b_Tree_countPart 30 = .ok (.return_, 1) := by decide +kernel
theorem d_Tree_text_0 : decode b_Tree_text 0 = .ok (.aload_n 0, 1) := by decide +kernel
theorem d_Tree_text_1 : decode b_Tree_text 1 = .ok (.getfield 30, 3) := by decide +kernel
theorem d_Tree_text_4 : decode b_Tree_text 4 = .ok (.areturn, 1) := by decide +kernel
theorem d_Tree_kind_0 : decode b_Tree_kind 0 = .ok (.aload_n 0, 1) := by decide +kernel
theorem d_Tree_kind_1 : decode b_Tree_kind 1 = .ok (.iload_n 1, 1) := by decide +kernel
theorem d_Tree_kind_2 : decode b_Tree_kind 2 = .ok (.invokevirtual 41, 3) := by decide +kernel
theorem d_Tree_kind_5 : decode b_Tree_kind 5 = .ok (.ifCond .eq 12, 3) := by decide +kernel
theorem d_Tree_kind_8 : decode b_Tree_kind 8 = .ok (.aload_n 0, 1) := by decide +kernel
theorem d_Tree_kind_9 : decode b_Tree_kind 9 = .ok (.getfield 9, 3) := by decide +kernel
theorem d_Tree_kind_12 : decode b_Tree_kind 12 = .ok (.iload_n 1, 1) := by decide +kernel
theorem d_Tree_kind_13 : decode b_Tree_kind 13 = .ok (.baload, 1) := by decide +kernel
theorem d_Tree_kind_14 : decode b_Tree_kind 14 = .ok (.goto 5, 3) := by decide +kernel
theorem d_Tree_kind_17 : decode b_Tree_kind 17 = .ok (.bipush (-2), 2) := by decide +kernel
theorem d_Tree_kind_19 : decode b_Tree_kind 19 = .ok (.ireturn, 1) := by decide +kernel
theorem d_Tree_number_0 : decode b_Tree_number 0 = .ok (.aload_n 0, 1) := by decide +kernel
theorem d_Tree_number_1 : decode b_Tree_number 1 = .ok (.iload_n 1, 1) := by decide +kernel
theorem d_Tree_number_2 : decode b_Tree_number 2 = .ok (.invokevirtual 41, 3) := by decide +kernel
theorem d_Tree_number_5 : decode b_Tree_number 5 = .ok (.ifCond .eq 12, 3) := by decide +kernel
theorem d_Tree_number_8 : decode b_Tree_number 8 = .ok (.aload_n 0, 1) := by decide +kernel
theorem d_Tree_number_9 : decode b_Tree_number 9 = .ok (.getfield 15, 3) := by decide +kernel
theorem d_Tree_number_12 : decode b_Tree_number 12 = .ok (.iload_n 1, 1) := by decide +kernel
theorem d_Tree_number_13 : decode b_Tree_number 13 = .ok (.iaload, 1) := by decide +kernel
theorem d_Tree_number_14 : decode b_Tree_number 14 = .ok (.goto 4, 3) := by decide +kernel
theorem d_Tree_number_17 : decode b_Tree_number 17 = .ok (.iconst 0, 1) := by decide +kernel
theorem d_Tree_number_18 : decode b_Tree_number 18 = .ok (.ireturn, 1) := by decide +kernel
theorem d_Tree_other_0 : decode b_Tree_other 0 = .ok (.aload_n 0, 1) := by decide +kernel
theorem d_Tree_other_1 : decode b_Tree_other 1 = .ok (.iload_n 1, 1) := by decide +kernel
theorem d_Tree_other_2 : decode b_Tree_other 2 = .ok (.invokevirtual 41, 3) := by decide +kernel
theorem d_Tree_other_5 : decode b_Tree_other 5 = .ok (.ifCond .eq 12, 3) := by decide +kernel
theorem d_Tree_other_8 : decode b_Tree_other 8 = .ok (.aload_n 0, 1) := by decide +kernel
theorem d_Tree_other_9 : decode b_Tree_other 9 = .ok (.getfield 19, 3) := by decide +kernel
theorem d_Tree_other_12 : decode b_Tree_other 12 = .ok (.iload_n 1, 1) := by decide +kernel
theorem d_Tree_other_13 : decode b_Tree_other 13 = .ok (.iaload, 1) := by decide +kernel
theorem d_Tree_other_14 : decode b_Tree_other 14 = .ok (.goto 4, 3) := by decide +kernel
theorem d_Tree_other_17 : decode b_Tree_other 17 = .ok (.iconst 0, 1) := by decide +kernel
theorem d_Tree_other_18 : decode b_Tree_other 18 = .ok (.ireturn, 1) := by decide +kernel
theorem d_Tree_holds_0 : decode b_Tree_holds 0 = .ok (.iload_n 1, 1) := by decide +kernel
theorem d_Tree_holds_1 : decode b_Tree_holds 1 = .ok (.ifCond .lt 15, 3) := by decide +kernel
theorem d_Tree_holds_4 : decode b_Tree_holds 4 = .ok (.iload_n 1, 1) := by decide +kernel
theorem d_Tree_holds_5 : decode b_Tree_holds 5 = .ok (.aload_n 0, 1) := by decide +kernel
theorem d_Tree_holds_6 : decode b_Tree_holds 6 = .ok (.getfield 34, 3) := by decide +kernel
theorem d_Tree_holds_9 : decode b_Tree_holds 9 = .ok (.if_icmp .ge 7, 3) := by decide +kernel
theorem d_Tree_holds_12 : decode b_Tree_holds 12 = .ok (.iconst 1, 1) := by decide +kernel
theorem d_Tree_holds_13 : decode b_Tree_holds 13 = .ok (.goto 4, 3) := by decide +kernel
theorem d_Tree_holds_16 : decode b_Tree_holds 16 = .ok (.iconst 0, 1) := by decide +kernel
theorem d_Tree_holds_17 : decode b_Tree_holds 17 = .ok (.ireturn, 1) := by decide +kernel
theorem d_Tree_after_0 : decode b_Tree_after 0 = .ok (.aload_n 0, 1) := by decide +kernel
theorem d_Tree_after_1 : decode b_Tree_after 1 = .ok (.iload_n 1, 1) := by decide +kernel
theorem d_Tree_after_2 : decode b_Tree_after 2 = .ok (.invokevirtual 41, 3) := by decide +kernel
theorem d_Tree_after_5 : decode b_Tree_after 5 = .ok (.ifCond .eq 14, 3) := by decide +kernel
theorem d_Tree_after_8 : decode b_Tree_after 8 = .ok (.iload_n 1, 1) := by decide +kernel
theorem d_Tree_after_9 : decode b_Tree_after 9 = .ok (.aload_n 0, 1) := by decide +kernel
theorem d_Tree_after_10 : decode b_Tree_after 10 = .ok (.getfield 22, 3) := by decide +kernel
theorem d_Tree_after_13 : decode b_Tree_after 13 = .ok (.iload_n 1, 1) := by decide +kernel
theorem d_Tree_after_14 : decode b_Tree_after 14 = .ok (.iaload, 1) := by decide +kernel
theorem d_Tree_after_15 : decode b_Tree_after 15 = .ok (.iadd, 1) := by decide +kernel
theorem d_Tree_after_16 : decode b_Tree_after 16 = .ok (.goto 7, 3) := by decide +kernel
theorem d_Tree_after_19 : decode b_Tree_after 19 = .ok (.aload_n 0, 1) := by decide +kernel
theorem d_Tree_after_20 : decode b_Tree_after 20 = .ok (.getfield 34, 3) := by decide +kernel
theorem d_Tree_after_23 : decode b_Tree_after 23 = .ok (.ireturn, 1) := by decide +kernel
theorem d_Tree_part_0 : decode b_Tree_part 0 = .ok (.iload_n 2, 1) := by decide +kernel
theorem d_Tree_part_1 : decode b_Tree_part 1 = .ok (.ifCond .lt 12, 3) := by decide +kernel
theorem d_Tree_part_4 : decode b_Tree_part 4 = .ok (.iload_n 2, 1) := by decide +kernel
theorem d_Tree_part_5 : decode b_Tree_part 5 = .ok (.aload_n 0, 1) := by decide +kernel
theorem d_Tree_part_6 : decode b_Tree_part 6 = .ok (.iload_n 1, 1) := by decide +kernel
theorem d_Tree_part_7 : decode b_Tree_part 7 = .ok (.invokevirtual 45, 3) := by decide +kernel
theorem d_Tree_part_10 : decode b_Tree_part 10 = .ok (.if_icmp .lt 6, 3) := by decide +kernel
theorem d_Tree_part_13 : decode b_Tree_part 13 = .ok (.bipush (-2), 2) := by decide +kernel
theorem d_Tree_part_15 : decode b_Tree_part 15 = .ok (.ireturn, 1) := by decide +kernel
theorem d_Tree_part_16 : decode b_Tree_part 16 = .ok (.aload_n 0, 1) := by decide +kernel
theorem d_Tree_part_17 : decode b_Tree_part 17 = .ok (.iload_n 1, 1) := by decide +kernel
theorem d_Tree_part_18 : decode b_Tree_part 18 = .ok (.invokevirtual 49, 3) := by decide +kernel
theorem d_Tree_part_21 : decode b_Tree_part 21 = .ok (.bipush 7, 2) := by decide +kernel
theorem d_Tree_part_23 : decode b_Tree_part 23 = .ok (.if_icmp .ne 12, 3) := by decide +kernel
theorem d_Tree_part_26 : decode b_Tree_part 26 = .ok (.aload_n 0, 1) := by decide +kernel
theorem d_Tree_part_27 : decode b_Tree_part 27 = .ok (.iload_n 1, 1) := by decide +kernel
theorem d_Tree_part_28 : decode b_Tree_part 28 = .ok (.iload_n 2, 1) := by decide +kernel
theorem d_Tree_part_29 : decode b_Tree_part 29 = .ok (.invokevirtual 52, 3) := by decide +kernel
theorem d_Tree_part_32 : decode b_Tree_part 32 = .ok (.iconst 1, 1) := by decide +kernel
theorem d_Tree_part_33 : decode b_Tree_part 33 = .ok (.iadd, 1) := by decide +kernel
theorem d_Tree_part_34 : decode b_Tree_part 34 = .ok (.ireturn, 1) := by decide +kernel
theorem d_Tree_part_35 : decode b_Tree_part 35 = .ok (.aload_n 0, 1) := by decide +kernel
theorem d_Tree_part_36 : decode b_Tree_part 36 = .ok (.iload_n 1, 1) := by decide +kernel
theorem d_Tree_part_37 : decode b_Tree_part 37 = .ok (.invokevirtual 49, 3) := by decide +kernel
theorem d_Tree_part_40 : decode b_Tree_part 40 = .ok (.bipush 6, 2) := by decide +kernel
theorem d_Tree_part_42 : decode b_Tree_part 42 = .ok (.if_icmp .ne 12, 3) := by decide +kernel
theorem d_Tree_part_45 : decode b_Tree_part 45 = .ok (.aload_n 0, 1) := by decide +kernel
theorem d_Tree_part_46 : decode b_Tree_part 46 = .ok (.iload_n 1, 1) := by decide +kernel
theorem d_Tree_part_47 : decode b_Tree_part 47 = .ok (.iload_n 2, 1) := by decide +kernel
theorem d_Tree_part_48 : decode b_Tree_part 48 = .ok (.invokevirtual 56, 3) := by decide +kernel
theorem d_Tree_part_51 : decode b_Tree_part 51 = .ok (.goto 5, 3) := by decide +kernel
theorem d_Tree_part_54 : decode b_Tree_part 54 = .ok (.bipush (-2), 2) := by decide +kernel
theorem d_Tree_part_56 : decode b_Tree_part 56 = .ok (.ireturn, 1) := by decide +kernel
theorem d_Tree_itemNode_0 : decode b_Tree_itemNode 0 = .ok (.iload_n 1, 1) := by decide +kernel
theorem d_Tree_itemNode_1 : decode b_Tree_itemNode 1 = .ok (.iconst 1, 1) := by decide +kernel
theorem d_Tree_itemNode_2 : decode b_Tree_itemNode 2 = .ok (.iadd, 1) := by decide +kernel
theorem d_Tree_itemNode_3 : decode b_Tree_itemNode 3 = .ok (.istore_n 3, 1) := by decide +kernel
theorem d_Tree_itemNode_4 : decode b_Tree_itemNode 4 = .ok (.iconst 0, 1) := by decide +kernel
theorem d_Tree_itemNode_5 : decode b_Tree_itemNode 5 = .ok (.istore 4, 2) := by decide +kernel
theorem d_Tree_itemNode_7 : decode b_Tree_itemNode 7 = .ok (.iload 4, 2) := by decide +kernel
theorem d_Tree_itemNode_9 : decode b_Tree_itemNode 9 = .ok (.iload_n 2, 1) := by decide +kernel
theorem d_Tree_itemNode_10 : decode b_Tree_itemNode 10 = .ok (.if_icmp .ge 15, 3) := by decide +kernel
theorem d_Tree_itemNode_13 : decode b_Tree_itemNode 13 = .ok (.aload_n 0, 1) := by decide +kernel
theorem d_Tree_itemNode_14 : decode b_Tree_itemNode 14 = .ok (.iload_n 3, 1) := by decide +kernel
theorem d_Tree_itemNode_15 : decode b_Tree_itemNode 15 = .ok (.invokevirtual 59, 3) := by decide +kernel
theorem d_Tree_itemNode_18 : decode b_Tree_itemNode 18 = .ok (.istore_n 3, 1) := by decide +kernel
theorem d_Tree_itemNode_19 : decode b_Tree_itemNode 19 = .ok (.iinc 4 1, 3) := by decide +kernel
theorem d_Tree_itemNode_22 : decode b_Tree_itemNode 22 = .ok (.goto (-15), 3) := by decide +kernel
theorem d_Tree_itemNode_25 : decode b_Tree_itemNode 25 = .ok (.iload_n 3, 1) := by decide +kernel
theorem d_Tree_itemNode_26 : decode b_Tree_itemNode 26 = .ok (.ireturn, 1) := by decide +kernel
theorem d_Tree_nameNode_0 : decode b_Tree_nameNode 0 = .ok (.iload_n 1, 1) := by decide +kernel
theorem d_Tree_nameNode_1 : decode b_Tree_nameNode 1 = .ok (.iconst 1, 1) := by decide +kernel
theorem d_Tree_nameNode_2 : decode b_Tree_nameNode 2 = .ok (.iadd, 1) := by decide +kernel
theorem d_Tree_nameNode_3 : decode b_Tree_nameNode 3 = .ok (.istore_n 3, 1) := by decide +kernel
theorem d_Tree_nameNode_4 : decode b_Tree_nameNode 4 = .ok (.iconst 0, 1) := by decide +kernel
theorem d_Tree_nameNode_5 : decode b_Tree_nameNode 5 = .ok (.istore 4, 2) := by decide +kernel
theorem d_Tree_nameNode_7 : decode b_Tree_nameNode 7 = .ok (.iload 4, 2) := by decide +kernel
theorem d_Tree_nameNode_9 : decode b_Tree_nameNode 9 = .ok (.iload_n 2, 1) := by decide +kernel
theorem d_Tree_nameNode_10 : decode b_Tree_nameNode 10 = .ok (.if_icmp .ge 17, 3) := by decide +kernel
theorem d_Tree_nameNode_13 : decode b_Tree_nameNode 13 = .ok (.aload_n 0, 1) := by decide +kernel
theorem d_Tree_nameNode_14 : decode b_Tree_nameNode 14 = .ok (.iload_n 3, 1) := by decide +kernel
theorem d_Tree_nameNode_15 : decode b_Tree_nameNode 15 = .ok (.iconst 1, 1) := by decide +kernel
theorem d_Tree_nameNode_16 : decode b_Tree_nameNode 16 = .ok (.iadd, 1) := by decide +kernel
theorem d_Tree_nameNode_17 : decode b_Tree_nameNode 17 = .ok (.invokevirtual 59, 3) := by decide +kernel
theorem d_Tree_nameNode_20 : decode b_Tree_nameNode 20 = .ok (.istore_n 3, 1) := by decide +kernel
theorem d_Tree_nameNode_21 : decode b_Tree_nameNode 21 = .ok (.iinc 4 1, 3) := by decide +kernel
theorem d_Tree_nameNode_24 : decode b_Tree_nameNode 24 = .ok (.goto (-17), 3) := by decide +kernel
theorem d_Tree_nameNode_27 : decode b_Tree_nameNode 27 = .ok (.iload_n 3, 1) := by decide +kernel
theorem d_Tree_nameNode_28 : decode b_Tree_nameNode 28 = .ok (.ireturn, 1) := by decide +kernel
theorem d_Tree_valueNamed_0 : decode b_Tree_valueNamed 0 = .ok (.aload_n 0, 1) := by decide +kernel
theorem d_Tree_valueNamed_1 : decode b_Tree_valueNamed 1 = .ok (.iload_n 1, 1) := by decide +kernel
theorem d_Tree_valueNamed_2 : decode b_Tree_valueNamed 2 = .ok (.invokevirtual 49, 3) := by decide +kernel
theorem d_Tree_valueNamed_5 : decode b_Tree_valueNamed 5 = .ok (.bipush 7, 2) := by decide +kernel
theorem d_Tree_valueNamed_7 : decode b_Tree_valueNamed 7 = .ok (.if_icmp .ne 11, 3) := by decide +kernel
theorem d_Tree_valueNamed_10 : decode b_Tree_valueNamed 10 = .ok (.aload_n 0, 1) := by decide +kernel
theorem d_Tree_valueNamed_11 : decode b_Tree_valueNamed 11 = .ok (.iload_n 1, 1) := by decide +kernel
theorem d_Tree_valueNamed_12 : decode b_Tree_valueNamed 12 = .ok (.invokevirtual 45, 3) := by decide +kernel
theorem d_Tree_valueNamed_15 : decode b_Tree_valueNamed 15 = .ok (.goto 4, 3) := by decide +kernel
theorem d_Tree_valueNamed_18 : decode b_Tree_valueNamed 18 = .ok (.iconst 0, 1) := by decide +kernel
theorem d_Tree_valueNamed_19 : decode b_Tree_valueNamed 19 = .ok (.istore 5, 2) := by decide +kernel
theorem d_Tree_valueNamed_21 : decode b_Tree_valueNamed 21 = .ok (.iload_n 1, 1) := by decide +kernel
theorem d_Tree_valueNamed_22 : decode b_Tree_valueNamed 22 = .ok (.iconst 1, 1) := by decide +kernel
theorem d_Tree_valueNamed_23 : decode b_Tree_valueNamed 23 = .ok (.iadd, 1) := by decide +kernel
theorem d_Tree_valueNamed_24 : decode b_Tree_valueNamed 24 = .ok (.istore 6, 2) := by decide +kernel
theorem d_Tree_valueNamed_26 : decode b_Tree_valueNamed 26 = .ok (.iconst 0, 1) := by decide +kernel
theorem d_Tree_valueNamed_27 : decode b_Tree_valueNamed 27 = .ok (.istore 7, 2) := by decide +kernel
theorem d_Tree_valueNamed_29 : decode b_Tree_valueNamed 29 = .ok (.iload 7, 2) := by decide +kernel
theorem d_Tree_valueNamed_31 : decode b_Tree_valueNamed 31 = .ok (.iload 5, 2) := by decide +kernel
theorem d_Tree_valueNamed_33 : decode b_Tree_valueNamed 33 = .ok (.if_icmp .ge 55, 3) := by decide +kernel
theorem d_Tree_valueNamed_36 : decode b_Tree_valueNamed 36 = .ok (.aload_n 0, 1) := by decide +kernel
theorem d_Tree_valueNamed_37 : decode b_Tree_valueNamed 37 = .ok (.iload 6, 2) := by decide +kernel
theorem d_Tree_valueNamed_39 : decode b_Tree_valueNamed 39 = .ok (.invokevirtual 45, 3) := by decide +kernel
theorem d_Tree_valueNamed_42 : decode b_Tree_valueNamed 42 = .ok (.iload 4, 2) := by decide +kernel
theorem d_Tree_valueNamed_44 : decode b_Tree_valueNamed 44 = .ok (.if_icmp .ne 28, 3) := by decide +kernel
theorem d_Tree_valueNamed_47 : decode b_Tree_valueNamed 47 = .ok (.aload_n 0, 1) := by decide +kernel
theorem d_Tree_valueNamed_48 : decode b_Tree_valueNamed 48 = .ok (.getfield 30, 3) := by decide +kernel
theorem d_Tree_valueNamed_51 : decode b_Tree_valueNamed 51 = .ok (.aload_n 0, 1) := by decide +kernel
theorem d_Tree_valueNamed_52 : decode b_Tree_valueNamed 52 = .ok (.iload 6, 2) := by decide +kernel
theorem d_Tree_valueNamed_54 : decode b_Tree_valueNamed 54 = .ok (.invokevirtual 62, 3) := by decide +kernel
theorem d_Tree_valueNamed_57 : decode b_Tree_valueNamed 57 = .ok (.aload_n 2, 1) := by decide +kernel
theorem d_Tree_valueNamed_58 : decode b_Tree_valueNamed 58 = .ok (.iload_n 3, 1) := by decide +kernel
theorem d_Tree_valueNamed_59 : decode b_Tree_valueNamed 59 = .ok (.iload 4, 2) := by decide +kernel
theorem d_Tree_valueNamed_61 : decode b_Tree_valueNamed 61 = .ok (.invokevirtual 65, 3) := by decide +kernel
theorem d_Tree_valueNamed_64 : decode b_Tree_valueNamed 64 = .ok (.ifCond .eq 8, 3) := by decide +kernel
theorem d_Tree_valueNamed_67 : decode b_Tree_valueNamed 67 = .ok (.iload 6, 2) := by decide +kernel
theorem d_Tree_valueNamed_69 : decode b_Tree_valueNamed 69 = .ok (.iconst 1, 1) := by decide +kernel
theorem d_Tree_valueNamed_70 : decode b_Tree_valueNamed 70 = .ok (.iadd, 1) := by decide +kernel
theorem d_Tree_valueNamed_71 : decode b_Tree_valueNamed 71 = .ok (.ireturn, 1) := by decide +kernel
theorem d_Tree_valueNamed_72 : decode b_Tree_valueNamed 72 = .ok (.aload_n 0, 1) := by decide +kernel
theorem d_Tree_valueNamed_73 : decode b_Tree_valueNamed 73 = .ok (.iload 6, 2) := by decide +kernel
theorem d_Tree_valueNamed_75 : decode b_Tree_valueNamed 75 = .ok (.iconst 1, 1) := by decide +kernel
theorem d_Tree_valueNamed_76 : decode b_Tree_valueNamed 76 = .ok (.iadd, 1) := by decide +kernel
theorem d_Tree_valueNamed_77 : decode b_Tree_valueNamed 77 = .ok (.invokevirtual 59, 3) := by decide +kernel
theorem d_Tree_valueNamed_80 : decode b_Tree_valueNamed 80 = .ok (.istore 6, 2) := by decide +kernel
theorem d_Tree_valueNamed_82 : decode b_Tree_valueNamed 82 = .ok (.iinc 7 1, 3) := by decide +kernel
theorem d_Tree_valueNamed_85 : decode b_Tree_valueNamed 85 = .ok (.goto (-56), 3) := by decide +kernel
theorem d_Tree_valueNamed_88 : decode b_Tree_valueNamed 88 = .ok (.bipush (-2), 2) := by decide +kernel
theorem d_Tree_valueNamed_90 : decode b_Tree_valueNamed 90 = .ok (.ireturn, 1) := by decide +kernel
theorem d_Tree_nodeWithText_0 : decode b_Tree_nodeWithText 0 = .ok (.aload_n 0, 1) := by decide +kernel
theorem d_Tree_nodeWithText_1 : decode b_Tree_nodeWithText 1 = .ok (.iload_n 1, 1) := by decide +kernel
theorem d_Tree_nodeWithText_2 : decode b_Tree_nodeWithText 2 = .ok (.invokevirtual 49, 3) := by decide +kernel
theorem d_Tree_nodeWithText_5 : decode b_Tree_nodeWithText 5 = .ok (.istore_n 3, 1) := by decide +kernel
theorem d_Tree_nodeWithText_6 : decode b_Tree_nodeWithText 6 = .ok (.iload_n 3, 1) := by decide +kernel
theorem d_Tree_nodeWithText_7 : decode b_Tree_nodeWithText 7 = .ok (.iconst 4, 1) := by decide +kernel
theorem d_Tree_nodeWithText_8 : decode b_Tree_nodeWithText 8 = .ok (.if_icmp .eq 8, 3) := by decide +kernel
theorem d_Tree_nodeWithText_11 : decode b_Tree_nodeWithText 11 = .ok (.iload_n 3, 1) := by decide +kernel
theorem d_Tree_nodeWithText_12 : decode b_Tree_nodeWithText 12 = .ok (.iconst 5, 1) := by decide +kernel
theorem d_Tree_nodeWithText_13 : decode b_Tree_nodeWithText 13 = .ok (.if_icmp .ne 5, 3) := by decide +kernel
theorem d_Tree_nodeWithText_16 : decode b_Tree_nodeWithText 16 = .ok (.iload_n 1, 1) := by decide +kernel
theorem d_Tree_nodeWithText_17 : decode b_Tree_nodeWithText 17 = .ok (.ireturn, 1) := by decide +kernel
theorem d_Tree_nodeWithText_18 : decode b_Tree_nodeWithText 18 = .ok (.iload_n 3, 1) := by decide +kernel
theorem d_Tree_nodeWithText_19 : decode b_Tree_nodeWithText 19 = .ok (.bipush 7, 2) := by decide +kernel
theorem d_Tree_nodeWithText_21 : decode b_Tree_nodeWithText 21 = .ok (.if_icmp .ne 25, 3) := by decide +kernel
theorem d_Tree_nodeWithText_24 : decode b_Tree_nodeWithText 24 = .ok (.iload_n 2, 1) := by decide +kernel
theorem d_Tree_nodeWithText_25 : decode b_Tree_nodeWithText 25 = .ok (.ifCond .lt 21, 3) := by decide +kernel
theorem d_Tree_nodeWithText_28 : decode b_Tree_nodeWithText 28 = .ok (.iload_n 2, 1) := by decide +kernel
theorem d_Tree_nodeWithText_29 : decode b_Tree_nodeWithText 29 = .ok (.aload_n 0, 1) := by decide +kernel
theorem d_Tree_nodeWithText_30 : decode b_Tree_nodeWithText 30 = .ok (.iload_n 1, 1) := by decide +kernel
theorem d_Tree_nodeWithText_31 : decode b_Tree_nodeWithText 31 = .ok (.invokevirtual 45, 3) := by decide +kernel
theorem d_Tree_nodeWithText_34 : decode b_Tree_nodeWithText 34 = .ok (.if_icmp .ge 12, 3) := by decide +kernel
theorem d_Tree_nodeWithText_37 : decode b_Tree_nodeWithText 37 = .ok (.aload_n 0, 1) := by decide +kernel
theorem d_Tree_nodeWithText_38 : decode b_Tree_nodeWithText 38 = .ok (.iload_n 1, 1) := by decide +kernel
theorem d_Tree_nodeWithText_39 : decode b_Tree_nodeWithText 39 = .ok (.iload_n 2, 1) := by decide +kernel
theorem d_Tree_nodeWithText_40 : decode b_Tree_nodeWithText 40 = .ok (.invokevirtual 52, 3) := by decide +kernel
theorem d_Tree_nodeWithText_43 : decode b_Tree_nodeWithText 43 = .ok (.goto 5, 3) := by decide +kernel
theorem d_Tree_nodeWithText_46 : decode b_Tree_nodeWithText 46 = .ok (.bipush (-2), 2) := by decide +kernel
theorem d_Tree_nodeWithText_48 : decode b_Tree_nodeWithText 48 = .ok (.ireturn, 1) := by decide +kernel
theorem d_Tree_countValues_0 : decode b_Tree_countValues 0 = .ok (.iconst 0, 1) := by decide +kernel
theorem d_Tree_countValues_1 : decode b_Tree_countValues 1 = .ok (.istore_n 2, 1) := by decide +kernel
theorem d_Tree_countValues_2 : decode b_Tree_countValues 2 = .ok (.aload_n 0, 1) := by decide +kernel
theorem d_Tree_countValues_3 : decode b_Tree_countValues 3 = .ok (.iload_n 1, 1) := by decide +kernel
theorem d_Tree_countValues_4 : decode b_Tree_countValues 4 = .ok (.invokevirtual 59, 3) := by decide +kernel
theorem d_Tree_countValues_7 : decode b_Tree_countValues 7 = .ok (.istore_n 3, 1) := by decide +kernel
theorem d_Tree_countValues_8 : decode b_Tree_countValues 8 = .ok (.iload_n 1, 1) := by decide +kernel
theorem d_Tree_countValues_9 : decode b_Tree_countValues 9 = .ok (.istore 4, 2) := by decide +kernel
theorem d_Tree_countValues_11 : decode b_Tree_countValues 11 = .ok (.iload 4, 2) := by decide +kernel
theorem d_Tree_countValues_13 : decode b_Tree_countValues 13 = .ok (.iload_n 3, 1) := by decide +kernel
theorem d_Tree_countValues_14 : decode b_Tree_countValues 14 = .ok (.if_icmp .ge 35, 3) := by decide +kernel
theorem d_Tree_countValues_17 : decode b_Tree_countValues 17 = .ok (.iload_n 2, 1) := by decide +kernel
theorem d_Tree_countValues_18 : decode b_Tree_countValues 18 = .ok (.aload_n 0, 1) := by decide +kernel
theorem d_Tree_countValues_19 : decode b_Tree_countValues 19 = .ok (.iload 4, 2) := by decide +kernel
theorem d_Tree_countValues_21 : decode b_Tree_countValues 21 = .ok (.invokevirtual 49, 3) := by decide +kernel
theorem d_Tree_countValues_24 : decode b_Tree_countValues 24 = .ok (.bipush 7, 2) := by decide +kernel
theorem d_Tree_countValues_26 : decode b_Tree_countValues 26 = .ok (.if_icmp .ne 14, 3) := by decide +kernel
theorem d_Tree_countValues_29 : decode b_Tree_countValues 29 = .ok (.iconst 1, 1) := by decide +kernel
theorem d_Tree_countValues_30 : decode b_Tree_countValues 30 = .ok (.aload_n 0, 1) := by decide +kernel
theorem d_Tree_countValues_31 : decode b_Tree_countValues 31 = .ok (.iload 4, 2) := by decide +kernel
theorem d_Tree_countValues_33 : decode b_Tree_countValues 33 = .ok (.invokevirtual 45, 3) := by decide +kernel
theorem d_Tree_countValues_36 : decode b_Tree_countValues 36 = .ok (.isub, 1) := by decide +kernel
theorem d_Tree_countValues_37 : decode b_Tree_countValues 37 = .ok (.goto 4, 3) := by decide +kernel
theorem d_Tree_countValues_40 : decode b_Tree_countValues 40 = .ok (.iconst 1, 1) := by decide +kernel
theorem d_Tree_countValues_41 : decode b_Tree_countValues 41 = .ok (.iadd, 1) := by decide +kernel
theorem d_Tree_countValues_42 : decode b_Tree_countValues 42 = .ok (.istore_n 2, 1) := by decide +kernel
theorem d_Tree_countValues_43 : decode b_Tree_countValues 43 = .ok (.iinc 4 1, 3) := by decide +kernel
theorem d_Tree_countValues_46 : decode b_Tree_countValues 46 = .ok (.goto (-35), 3) := by decide +kernel
theorem d_Tree_countValues_49 : decode b_Tree_countValues 49 = .ok (.iload_n 2, 1) := by decide +kernel
theorem d_Tree_countValues_50 : decode b_Tree_countValues 50 = .ok (.ireturn, 1) := by decide +kernel
end
section
theorem d_Reader_init_0 : decode b_Reader_init 0 = .ok (.aload_n 0, 1) := by decide +kernel
theorem d_Reader_init_1 : decode b_Reader_init 1 = .ok (.invokespecial 3, 3) := by decide +kernel
theorem d_Reader_init_4 : decode b_Reader_init 4 = .ok (.aload_n 0, 1) := by decide +kernel
theorem d_Reader_init_5 : decode b_Reader_init 5 = .ok (.aload_n 1, 1) := by decide +kernel
theorem d_Reader_init_6 : decode b_Reader_init 6 = .ok (.putfield 9, 3) := by decide +kernel
theorem d_Reader_init_9 : decode b_Reader_init 9 = .ok (.aload_n 0, 1) := by decide +kernel
theorem d_Reader_init_10 : decode b_Reader_init 10 = .ok (.aload_n 2, 1) := by decide +kernel
theorem d_Reader_init_11 : decode b_Reader_init 11 = .ok (.putfield 15, 3) := by decide +kernel
theorem d_Reader_init_14 : decode b_Reader_init 14 = .ok (.aload_n 0, 1) := by decide +kernel
theorem d_Reader_init_15 : decode b_Reader_init 15 = .ok (.iconst 0, 1) := by decide +kernel
theorem d_Reader_init_16 : decode b_Reader_init 16 = .ok (.putfield 19, 3) := by decide +kernel
theorem d_Reader_init_19 : decode b_Reader_init 19 = .ok (.return_, 1) := by decide +kernel
theorem d_Reader_readsAll_0 : decode b_Reader_readsAll 0 = .ok (.aload_n 0, 1) := by decide +kernel
theorem d_Reader_readsAll_1 : decode b_Reader_readsAll 1 = .ok (.getfield 15, 3) := by decide +kernel
theorem d_Reader_readsAll_4 : decode b_Reader_readsAll 4 = .ok (.invokevirtual 23, 3) := by decide +kernel
theorem d_Reader_readsAll_7 : decode b_Reader_readsAll 7 = .ok (.aload_n 0, 1) := by decide +kernel
theorem d_Reader_readsAll_8 : decode b_Reader_readsAll 8 = .ok (.iconst 0, 1) := by decide +kernel
theorem d_Reader_readsAll_9 : decode b_Reader_readsAll 9 = .ok (.invokevirtual 28, 3) := by decide +kernel
theorem d_Reader_readsAll_12 : decode b_Reader_readsAll 12 = .ok (.ifCond .ne 5, 3) := by decide +kernel
theorem d_Reader_readsAll_15 : decode b_Reader_readsAll 15 = .ok (.iconst 0, 1) := by decide +kernel
theorem d_Reader_readsAll_16 : decode b_Reader_readsAll 16 = .ok (.ireturn, 1) := by decide +kernel
theorem d_Reader_readsAll_17 : decode b_Reader_readsAll 17 = .ok (.aload_n 0, 1) := by decide +kernel
theorem d_Reader_readsAll_18 : decode b_Reader_readsAll 18 = .ok (.aload_n 0, 1) := by decide +kernel
theorem d_Reader_readsAll_19 : decode b_Reader_readsAll 19 = .ok (.aload_n 0, 1) := by decide +kernel
theorem d_Reader_readsAll_20 : decode b_Reader_readsAll 20 = .ok (.getfield 19, 3) := by decide +kernel
theorem d_Reader_readsAll_23 : decode b_Reader_readsAll 23 = .ok (.invokevirtual 32, 3) := by decide +kernel
theorem d_Reader_readsAll_26 : decode b_Reader_readsAll 26 = .ok (.putfield 19, 3) := by decide +kernel
theorem d_Reader_readsAll_29 : decode b_Reader_readsAll 29 = .ok (.aload_n 0, 1) := by decide +kernel
theorem d_Reader_readsAll_30 : decode b_Reader_readsAll 30 = .ok (.getfield 19, 3) := by decide +kernel
theorem d_Reader_readsAll_33 : decode b_Reader_readsAll 33 = .ok (.aload_n 0, 1) := by decide +kernel
theorem d_Reader_readsAll_34 : decode b_Reader_readsAll 34 = .ok (.getfield 9, 3) := by decide +kernel
theorem d_Reader_readsAll_37 : decode b_Reader_readsAll 37 = .ok (.invokevirtual 36, 3) := by decide +kernel
theorem d_Reader_readsAll_40 : decode b_Reader_readsAll 40 = .ok (.if_icmp .ne 7, 3) := by decide +kernel
theorem d_Reader_readsAll_43 : decode b_Reader_readsAll 43 = .ok (.iconst 1, 1) := by decide +kernel
theorem d_Reader_readsAll_44 : decode b_Reader_readsAll 44 = .ok (.goto 4, 3) := by decide +kernel
theorem d_Reader_readsAll_47 : decode b_Reader_readsAll 47 = .ok (.iconst 0, 1) := by decide +kernel
theorem d_Reader_readsAll_48 : decode b_Reader_readsAll 48 = .ok (.ireturn, 1) := by decide +kernel
theorem d_Reader_object_0 : decode b_Reader_object 0 = .ok (.aload_n 0, 1) := by decide +kernel
theorem d_Reader_object_1 : decode b_Reader_object 1 = .ok (.aload_n 0, 1) := by decide +kernel
theorem d_Reader_object_2 : decode b_Reader_object 2 = .ok (.aload_n 0, 1) := by decide +kernel
theorem d_Reader_object_3 : decode b_Reader_object 3 = .ok (.getfield 19, 3) := by decide +kernel
theorem d_Reader_object_6 : decode b_Reader_object 6 = .ok (.invokevirtual 32, 3) := by decide +kernel
theorem d_Reader_object_9 : decode b_Reader_object 9 = .ok (.putfield 19, 3) := by decide +kernel
theorem d_Reader_object_12 : decode b_Reader_object 12 = .ok (.aload_n 0, 1) := by decide +kernel
theorem d_Reader_object_13 : decode b_Reader_object 13 = .ok (.getfield 9, 3) := by decide +kernel
theorem d_Reader_object_16 : decode b_Reader_object 16 = .ok (.aload_n 0, 1) := by decide +kernel
theorem d_Reader_object_17 : decode b_Reader_object 17 = .ok (.getfield 19, 3) := by decide +kernel
theorem d_Reader_object_20 : decode b_Reader_object 20 = .ok (.invokevirtual 42, 3) := by decide +kernel
theorem d_Reader_object_23 : decode b_Reader_object 23 = .ok (.lookupswitch 88 #[(40, 46), (47, 41), (60, 51), (91, 82)], 41) := by decide +kernel
theorem d_Reader_object_64 : decode b_Reader_object 64 = .ok (.aload_n 0, 1) := by decide +kernel
theorem d_Reader_object_65 : decode b_Reader_object 65 = .ok (.invokevirtual 45, 3) := by decide +kernel
theorem d_Reader_object_68 : decode b_Reader_object 68 = .ok (.ireturn, 1) := by decide +kernel
theorem d_Reader_object_69 : decode b_Reader_object 69 = .ok (.aload_n 0, 1) := by decide +kernel
theorem d_Reader_object_70 : decode b_Reader_object 70 = .ok (.invokevirtual 49, 3) := by decide +kernel
theorem d_Reader_object_73 : decode b_Reader_object 73 = .ok (.ireturn, 1) := by decide +kernel
theorem d_Reader_object_74 : decode b_Reader_object 74 = .ok (.aload_n 0, 1) := by decide +kernel
theorem d_Reader_object_75 : decode b_Reader_object 75 = .ok (.getfield 9, 3) := by decide +kernel
theorem d_Reader_object_78 : decode b_Reader_object 78 = .ok (.aload_n 0, 1) := by decide +kernel
theorem d_Reader_object_79 : decode b_Reader_object 79 = .ok (.getfield 19, 3) := by decide +kernel
theorem d_Reader_object_82 : decode b_Reader_object 82 = .ok (.iconst 1, 1) := by decide +kernel
theorem d_Reader_object_83 : decode b_Reader_object 83 = .ok (.iadd, 1) := by decide +kernel
theorem d_Reader_object_84 : decode b_Reader_object 84 = .ok (.invokevirtual 42, 3) := by decide +kernel
theorem d_Reader_object_87 : decode b_Reader_object 87 = .ok (.bipush 60, 2) := by decide +kernel
theorem d_Reader_object_89 : decode b_Reader_object 89 = .ok (.if_icmp .ne 11, 3) := by decide +kernel
theorem d_Reader_object_92 : decode b_Reader_object 92 = .ok (.aload_n 0, 1) := by decide +kernel
theorem d_Reader_object_93 : decode b_Reader_object 93 = .ok (.iload_n 1, 1) := by decide +kernel
theorem d_Reader_object_94 : decode b_Reader_object 94 = .ok (.invokevirtual 52, 3) := by decide +kernel
theorem d_Reader_object_97 : decode b_Reader_object 97 = .ok (.goto 7, 3) := by decide +kernel
theorem d_Reader_object_100 : decode b_Reader_object 100 = .ok (.aload_n 0, 1) := by decide +kernel
theorem d_Reader_object_101 : decode b_Reader_object 101 = .ok (.invokevirtual 55, 3) := by decide +kernel
theorem d_Reader_object_104 : decode b_Reader_object 104 = .ok (.ireturn, 1) := by decide +kernel
theorem d_Reader_object_105 : decode b_Reader_object 105 = .ok (.aload_n 0, 1) := by decide +kernel
theorem d_Reader_object_106 : decode b_Reader_object 106 = .ok (.iload_n 1, 1) := by decide +kernel
theorem d_Reader_object_107 : decode b_Reader_object 107 = .ok (.invokevirtual 58, 3) := by decide +kernel
theorem d_Reader_object_110 : decode b_Reader_object 110 = .ok (.ireturn, 1) := by decide +kernel
theorem d_Reader_object_111 : decode b_Reader_object 111 = .ok (.aload_n 0, 1) := by decide +kernel
theorem d_Reader_object_112 : decode b_Reader_object 112 = .ok (.invokevirtual 61, 3) := by decide +kernel
theorem d_Reader_object_115 : decode b_Reader_object 115 = .ok (.ifCond .ne 10, 3) := by decide +kernel
theorem d_Reader_object_118 : decode b_Reader_object 118 = .ok (.aload_n 0, 1) := by decide +kernel
theorem d_Reader_object_119 : decode b_Reader_object 119 = .ok (.invokevirtual 64, 3) := by decide +kernel
theorem d_Reader_object_122 : decode b_Reader_object 122 = .ok (.ifCond .eq 7, 3) := by decide +kernel
theorem d_Reader_object_125 : decode b_Reader_object 125 = .ok (.iconst 1, 1) := by decide +kernel
theorem d_Reader_object_126 : decode b_Reader_object 126 = .ok (.goto 4, 3) := by decide +kernel
theorem d_Reader_object_129 : decode b_Reader_object 129 = .ok (.iconst 0, 1) := by decide +kernel
theorem d_Reader_object_130 : decode b_Reader_object 130 = .ok (.ireturn, 1) := by decide +kernel
theorem d_Reader_array_0 : decode b_Reader_array 0 = .ok (.iload_n 1, 1) := by decide +kernel
theorem d_Reader_array_1 : decode b_Reader_array 1 = .ok (.bipush 8, 2) := by decide +kernel
theorem d_Reader_array_3 : decode b_Reader_array 3 = .ok (.if_icmp .lt 5, 3) := by decide +kernel
theorem d_Reader_array_6 : decode b_Reader_array 6 = .ok (.iconst 0, 1) := by decide +kernel
theorem d_Reader_array_7 : decode b_Reader_array 7 = .ok (.ireturn, 1) := by decide +kernel
theorem d_Reader_array_8 : decode b_Reader_array 8 = .ok (.aload_n 0, 1) := by decide +kernel
theorem d_Reader_array_9 : decode b_Reader_array 9 = .ok (.dup, 1) := by decide +kernel
theorem d_Reader_array_10 : decode b_Reader_array 10 = .ok (.getfield 19, 3) := by decide +kernel
theorem d_Reader_array_13 : decode b_Reader_array 13 = .ok (.iconst 1, 1) := by decide +kernel
theorem d_Reader_array_14 : decode b_Reader_array 14 = .ok (.iadd, 1) := by decide +kernel
theorem d_Reader_array_15 : decode b_Reader_array 15 = .ok (.putfield 19, 3) := by decide +kernel
theorem d_Reader_array_18 : decode b_Reader_array 18 = .ok (.aload_n 0, 1) := by decide +kernel
theorem d_Reader_array_19 : decode b_Reader_array 19 = .ok (.getfield 15, 3) := by decide +kernel
theorem d_Reader_array_22 : decode b_Reader_array 22 = .ok (.bipush 6, 2) := by decide +kernel
theorem d_Reader_array_24 : decode b_Reader_array 24 = .ok (.iconst 0, 1) := by decide +kernel
theorem d_Reader_array_25 : decode b_Reader_array 25 = .ok (.iconst 0, 1) := by decide +kernel
theorem d_Reader_array_26 : decode b_Reader_array 26 = .ok (.invokevirtual 67, 3) := by decide +kernel
theorem d_Reader_array_29 : decode b_Reader_array 29 = .ok (.istore_n 2, 1) := by decide +kernel
theorem d_Reader_array_30 : decode b_Reader_array 30 = .ok (.iconst 0, 1) := by decide +kernel
theorem d_Reader_array_31 : decode b_Reader_array 31 = .ok (.istore_n 3, 1) := by decide +kernel
theorem d_Reader_array_32 : decode b_Reader_array 32 = .ok (.iload_n 3, 1) := by decide +kernel
theorem d_Reader_array_33 : decode b_Reader_array 33 = .ok (.bipush 60, 2) := by decide +kernel
theorem d_Reader_array_35 : decode b_Reader_array 35 = .ok (.if_icmp .gt 69, 3) := by decide +kernel
theorem d_Reader_array_38 : decode b_Reader_array 38 = .ok (.aload_n 0, 1) := by decide +kernel
theorem d_Reader_array_39 : decode b_Reader_array 39 = .ok (.aload_n 0, 1) := by decide +kernel
theorem d_Reader_array_40 : decode b_Reader_array 40 = .ok (.aload_n 0, 1) := by decide +kernel
theorem d_Reader_array_41 : decode b_Reader_array 41 = .ok (.getfield 19, 3) := by decide +kernel
theorem d_Reader_array_44 : decode b_Reader_array 44 = .ok (.invokevirtual 32, 3) := by decide +kernel
theorem d_Reader_array_47 : decode b_Reader_array 47 = .ok (.putfield 19, 3) := by decide +kernel
theorem d_Reader_array_50 : decode b_Reader_array 50 = .ok (.aload_n 0, 1) := by decide +kernel
theorem d_Reader_array_51 : decode b_Reader_array 51 = .ok (.getfield 9, 3) := by decide +kernel
theorem d_Reader_array_54 : decode b_Reader_array 54 = .ok (.aload_n 0, 1) := by decide +kernel
theorem d_Reader_array_55 : decode b_Reader_array 55 = .ok (.getfield 19, 3) := by decide +kernel
theorem d_Reader_array_58 : decode b_Reader_array 58 = .ok (.invokevirtual 42, 3) := by decide +kernel
theorem d_Reader_array_61 : decode b_Reader_array 61 = .ok (.bipush 93, 2) := by decide +kernel
theorem d_Reader_array_63 : decode b_Reader_array 63 = .ok (.if_icmp .ne 15, 3) := by decide +kernel
theorem d_Reader_array_66 : decode b_Reader_array 66 = .ok (.aload_n 0, 1) := by decide +kernel
theorem d_Reader_array_67 : decode b_Reader_array 67 = .ok (.dup, 1) := by decide +kernel
theorem d_Reader_array_68 : decode b_Reader_array 68 = .ok (.getfield 19, 3) := by decide +kernel
theorem d_Reader_array_71 : decode b_Reader_array 71 = .ok (.iconst 1, 1) := by decide +kernel
theorem d_Reader_array_72 : decode b_Reader_array 72 = .ok (.iadd, 1) := by decide +kernel
theorem d_Reader_array_73 : decode b_Reader_array 73 = .ok (.putfield 19, 3) := by decide +kernel
theorem d_Reader_array_76 : decode b_Reader_array 76 = .ok (.iconst 1, 1) := by decide +kernel
theorem d_Reader_array_77 : decode b_Reader_array 77 = .ok (.ireturn, 1) := by decide +kernel
theorem d_Reader_array_78 : decode b_Reader_array 78 = .ok (.aload_n 0, 1) := by decide +kernel
theorem d_Reader_array_79 : decode b_Reader_array 79 = .ok (.iload_n 1, 1) := by decide +kernel
theorem d_Reader_array_80 : decode b_Reader_array 80 = .ok (.iconst 1, 1) := by decide +kernel
theorem d_Reader_array_81 : decode b_Reader_array 81 = .ok (.iadd, 1) := by decide +kernel
theorem d_Reader_array_82 : decode b_Reader_array 82 = .ok (.invokevirtual 28, 3) := by decide +kernel
theorem d_Reader_array_85 : decode b_Reader_array 85 = .ok (.ifCond .ne 5, 3) := by decide +kernel
theorem d_Reader_array_88 : decode b_Reader_array 88 = .ok (.iconst 0, 1) := by decide +kernel
theorem d_Reader_array_89 : decode b_Reader_array 89 = .ok (.ireturn, 1) := by decide +kernel
theorem d_Reader_array_90 : decode b_Reader_array 90 = .ok (.aload_n 0, 1) := by decide +kernel
theorem d_Reader_array_91 : decode b_Reader_array 91 = .ok (.getfield 15, 3) := by decide +kernel
theorem d_Reader_array_94 : decode b_Reader_array 94 = .ok (.iload_n 2, 1) := by decide +kernel
theorem d_Reader_array_95 : decode b_Reader_array 95 = .ok (.invokevirtual 71, 3) := by decide +kernel
theorem d_Reader_array_98 : decode b_Reader_array 98 = .ok (.iinc 3 1, 3) := by decide +kernel
theorem d_Reader_array_101 : decode b_Reader_array 101 = .ok (.goto (-69), 3) := by decide +kernel
theorem d_Reader_array_104 : decode b_Reader_array 104 = .ok (.iconst 0, 1) := by decide +kernel
theorem d_Reader_array_105 : decode b_Reader_array 105 = .ok (.ireturn, 1) := by decide +kernel
theorem d_Reader_dict_0 : decode b_Reader_dict 0 = .ok (.iload_n 1, 1) := by decide +kernel
theorem d_Reader_dict_1 : decode b_Reader_dict 1 = .ok (.bipush 8, 2) := by decide +kernel
theorem d_Reader_dict_3 : decode b_Reader_dict 3 = .ok (.if_icmp .lt 5, 3) := by decide +kernel
theorem d_Reader_dict_6 : decode b_Reader_dict 6 = .ok (.iconst 0, 1) := by decide +kernel
theorem d_Reader_dict_7 : decode b_Reader_dict 7 = .ok (.ireturn, 1) := by decide +kernel
theorem d_Reader_dict_8 : decode b_Reader_dict 8 = .ok (.aload_n 0, 1) := by decide +kernel
theorem d_Reader_dict_9 : decode b_Reader_dict 9 = .ok (.dup, 1) := by decide +kernel
theorem d_Reader_dict_10 : decode b_Reader_dict 10 = .ok (.getfield 19, 3) := by decide +kernel
theorem d_Reader_dict_13 : decode b_Reader_dict 13 = .ok (.iconst 2, 1) := by decide +kernel
theorem d_Reader_dict_14 : decode b_Reader_dict 14 = .ok (.iadd, 1) := by decide +kernel
theorem d_Reader_dict_15 : decode b_Reader_dict 15 = .ok (.putfield 19, 3) := by decide +kernel
theorem d_Reader_dict_18 : decode b_Reader_dict 18 = .ok (.aload_n 0, 1) := by decide +kernel
theorem d_Reader_dict_19 : decode b_Reader_dict 19 = .ok (.getfield 15, 3) := by decide +kernel
theorem d_Reader_dict_22 : decode b_Reader_dict 22 = .ok (.bipush 7, 2) := by decide +kernel
theorem d_Reader_dict_24 : decode b_Reader_dict 24 = .ok (.iconst 0, 1) := by decide +kernel
theorem d_Reader_dict_25 : decode b_Reader_dict 25 = .ok (.iconst 0, 1) := by decide +kernel
theorem d_Reader_dict_26 : decode b_Reader_dict 26 = .ok (.invokevirtual 67, 3) := by decide +kernel
theorem d_Reader_dict_29 : decode b_Reader_dict 29 = .ok (.istore_n 2, 1) := by decide +kernel
theorem d_Reader_dict_30 : decode b_Reader_dict 30 = .ok (.iconst 0, 1) := by decide +kernel
theorem d_Reader_dict_31 : decode b_Reader_dict 31 = .ok (.istore_n 3, 1) := by decide +kernel
theorem d_Reader_dict_32 : decode b_Reader_dict 32 = .ok (.iload_n 3, 1) := by decide +kernel
theorem d_Reader_dict_33 : decode b_Reader_dict 33 = .ok (.bipush 30, 2) := by decide +kernel
theorem d_Reader_dict_35 : decode b_Reader_dict 35 = .ok (.if_icmp .gt 155, 3) := by decide +kernel
theorem d_Reader_dict_38 : decode b_Reader_dict 38 = .ok (.aload_n 0, 1) := by decide +kernel
theorem d_Reader_dict_39 : decode b_Reader_dict 39 = .ok (.aload_n 0, 1) := by decide +kernel
theorem d_Reader_dict_40 : decode b_Reader_dict 40 = .ok (.aload_n 0, 1) := by decide +kernel
theorem d_Reader_dict_41 : decode b_Reader_dict 41 = .ok (.getfield 19, 3) := by decide +kernel
theorem d_Reader_dict_44 : decode b_Reader_dict 44 = .ok (.invokevirtual 32, 3) := by decide +kernel
theorem d_Reader_dict_47 : decode b_Reader_dict 47 = .ok (.putfield 19, 3) := by decide +kernel
theorem d_Reader_dict_50 : decode b_Reader_dict 50 = .ok (.aload_n 0, 1) := by decide +kernel
theorem d_Reader_dict_51 : decode b_Reader_dict 51 = .ok (.getfield 9, 3) := by decide +kernel
theorem d_Reader_dict_54 : decode b_Reader_dict 54 = .ok (.aload_n 0, 1) := by decide +kernel
theorem d_Reader_dict_55 : decode b_Reader_dict 55 = .ok (.getfield 19, 3) := by decide +kernel
theorem d_Reader_dict_58 : decode b_Reader_dict 58 = .ok (.invokevirtual 42, 3) := by decide +kernel
theorem d_Reader_dict_61 : decode b_Reader_dict 61 = .ok (.bipush 62, 2) := by decide +kernel
theorem d_Reader_dict_63 : decode b_Reader_dict 63 = .ok (.if_icmp .ne 33, 3) := by decide +kernel
theorem d_Reader_dict_66 : decode b_Reader_dict 66 = .ok (.aload_n 0, 1) := by decide +kernel
theorem d_Reader_dict_67 : decode b_Reader_dict 67 = .ok (.getfield 9, 3) := by decide +kernel
theorem d_Reader_dict_70 : decode b_Reader_dict 70 = .ok (.aload_n 0, 1) := by decide +kernel
theorem d_Reader_dict_71 : decode b_Reader_dict 71 = .ok (.getfield 19, 3) := by decide +kernel
theorem d_Reader_dict_74 : decode b_Reader_dict 74 = .ok (.iconst 1, 1) := by decide +kernel
theorem d_Reader_dict_75 : decode b_Reader_dict 75 = .ok (.iadd, 1) := by decide +kernel
theorem d_Reader_dict_76 : decode b_Reader_dict 76 = .ok (.invokevirtual 42, 3) := by decide +kernel
theorem d_Reader_dict_79 : decode b_Reader_dict 79 = .ok (.bipush 62, 2) := by decide +kernel
theorem d_Reader_dict_81 : decode b_Reader_dict 81 = .ok (.if_icmp .ne 15, 3) := by decide +kernel
theorem d_Reader_dict_84 : decode b_Reader_dict 84 = .ok (.aload_n 0, 1) := by decide +kernel
theorem d_Reader_dict_85 : decode b_Reader_dict 85 = .ok (.dup, 1) := by decide +kernel
theorem d_Reader_dict_86 : decode b_Reader_dict 86 = .ok (.getfield 19, 3) := by decide +kernel
theorem d_Reader_dict_89 : decode b_Reader_dict 89 = .ok (.iconst 2, 1) := by decide +kernel
theorem d_Reader_dict_90 : decode b_Reader_dict 90 = .ok (.iadd, 1) := by decide +kernel
theorem d_Reader_dict_91 : decode b_Reader_dict 91 = .ok (.putfield 19, 3) := by decide +kernel
theorem d_Reader_dict_94 : decode b_Reader_dict 94 = .ok (.iconst 1, 1) := by decide +kernel
theorem d_Reader_dict_95 : decode b_Reader_dict 95 = .ok (.ireturn, 1) := by decide +kernel
theorem d_Reader_dict_96 : decode b_Reader_dict 96 = .ok (.aload_n 0, 1) := by decide +kernel
theorem d_Reader_dict_97 : decode b_Reader_dict 97 = .ok (.getfield 15, 3) := by decide +kernel
theorem d_Reader_dict_100 : decode b_Reader_dict 100 = .ok (.iload_n 2, 1) := by decide +kernel
theorem d_Reader_dict_101 : decode b_Reader_dict 101 = .ok (.aload_n 0, 1) := by decide +kernel
theorem d_Reader_dict_102 : decode b_Reader_dict 102 = .ok (.getfield 9, 3) := by decide +kernel
theorem d_Reader_dict_105 : decode b_Reader_dict 105 = .ok (.aload_n 0, 1) := by decide +kernel
theorem d_Reader_dict_106 : decode b_Reader_dict 106 = .ok (.getfield 19, 3) := by decide +kernel
theorem d_Reader_dict_109 : decode b_Reader_dict 109 = .ok (.iconst 1, 1) := by decide +kernel
theorem d_Reader_dict_110 : decode b_Reader_dict 110 = .ok (.iadd, 1) := by decide +kernel
theorem d_Reader_dict_111 : decode b_Reader_dict 111 = .ok (.aload_n 0, 1) := by decide +kernel
theorem d_Reader_dict_112 : decode b_Reader_dict 112 = .ok (.aload_n 0, 1) := by decide +kernel
theorem d_Reader_dict_113 : decode b_Reader_dict 113 = .ok (.getfield 19, 3) := by decide +kernel
theorem d_Reader_dict_116 : decode b_Reader_dict 116 = .ok (.iconst 1, 1) := by decide +kernel
theorem d_Reader_dict_117 : decode b_Reader_dict 117 = .ok (.iadd, 1) := by decide +kernel
theorem d_Reader_dict_118 : decode b_Reader_dict 118 = .ok (.invokevirtual 75, 3) := by decide +kernel
theorem d_Reader_dict_121 : decode b_Reader_dict 121 = .ok (.invokevirtual 78, 3) := by decide +kernel
theorem d_Reader_dict_124 : decode b_Reader_dict 124 = .ok (.bipush (-2), 2) := by decide +kernel
theorem d_Reader_dict_126 : decode b_Reader_dict 126 = .ok (.if_icmp .eq 7, 3) := by decide +kernel
theorem d_Reader_dict_129 : decode b_Reader_dict 129 = .ok (.iconst 1, 1) := by decide +kernel
theorem d_Reader_dict_130 : decode b_Reader_dict 130 = .ok (.goto 4, 3) := by decide +kernel
theorem d_Reader_dict_133 : decode b_Reader_dict 133 = .ok (.iconst 0, 1) := by decide +kernel
theorem d_Reader_dict_134 : decode b_Reader_dict 134 = .ok (.istore 4, 2) := by decide +kernel
theorem d_Reader_dict_136 : decode b_Reader_dict 136 = .ok (.aload_n 0, 1) := by decide +kernel
theorem d_Reader_dict_137 : decode b_Reader_dict 137 = .ok (.getfield 9, 3) := by decide +kernel
theorem d_Reader_dict_140 : decode b_Reader_dict 140 = .ok (.aload_n 0, 1) := by decide +kernel
theorem d_Reader_dict_141 : decode b_Reader_dict 141 = .ok (.getfield 19, 3) := by decide +kernel
theorem d_Reader_dict_144 : decode b_Reader_dict 144 = .ok (.invokevirtual 42, 3) := by decide +kernel
theorem d_Reader_dict_147 : decode b_Reader_dict 147 = .ok (.bipush 47, 2) := by decide +kernel
theorem d_Reader_dict_149 : decode b_Reader_dict 149 = .ok (.if_icmp .ne 25, 3) := by decide +kernel
theorem d_Reader_dict_152 : decode b_Reader_dict 152 = .ok (.iload 4, 2) := by decide +kernel
theorem d_Reader_dict_154 : decode b_Reader_dict 154 = .ok (.ifCond .ne 20, 3) := by decide +kernel
theorem d_Reader_dict_157 : decode b_Reader_dict 157 = .ok (.aload_n 0, 1) := by decide +kernel
theorem d_Reader_dict_158 : decode b_Reader_dict 158 = .ok (.invokevirtual 45, 3) := by decide +kernel
theorem d_Reader_dict_161 : decode b_Reader_dict 161 = .ok (.ifCond .eq 13, 3) := by decide +kernel
theorem d_Reader_dict_164 : decode b_Reader_dict 164 = .ok (.aload_n 0, 1) := by decide +kernel
theorem d_Reader_dict_165 : decode b_Reader_dict 165 = .ok (.iload_n 1, 1) := by decide +kernel
theorem d_Reader_dict_166 : decode b_Reader_dict 166 = .ok (.iconst 1, 1) := by decide +kernel
theorem d_Reader_dict_167 : decode b_Reader_dict 167 = .ok (.iadd, 1) := by decide +kernel
theorem d_Reader_dict_168 : decode b_Reader_dict 168 = .ok (.invokevirtual 28, 3) := by decide +kernel
theorem d_Reader_dict_171 : decode b_Reader_dict 171 = .ok (.ifCond .ne 5, 3) := by decide +kernel
theorem d_Reader_dict_174 : decode b_Reader_dict 174 = .ok (.iconst 0, 1) := by decide +kernel
theorem d_Reader_dict_175 : decode b_Reader_dict 175 = .ok (.ireturn, 1) := by decide +kernel
theorem d_Reader_dict_176 : decode b_Reader_dict 176 = .ok (.aload_n 0, 1) := by decide +kernel
theorem d_Reader_dict_177 : decode b_Reader_dict 177 = .ok (.getfield 15, 3) := by decide +kernel
theorem d_Reader_dict_180 : decode b_Reader_dict 180 = .ok (.iload_n 2, 1) := by decide +kernel
theorem d_Reader_dict_181 : decode b_Reader_dict 181 = .ok (.invokevirtual 71, 3) := by decide +kernel
theorem d_Reader_dict_184 : decode b_Reader_dict 184 = .ok (.iinc 3 1, 3) := by decide +kernel
theorem d_Reader_dict_187 : decode b_Reader_dict 187 = .ok (.goto (-155), 3) := by decide +kernel
theorem d_Reader_dict_190 : decode b_Reader_dict 190 = .ok (.iconst 0, 1) := by decide +kernel
theorem d_Reader_dict_191 : decode b_Reader_dict 191 = .ok (.ireturn, 1) := by decide +kernel
theorem d_Reader_name_0 : decode b_Reader_name 0 = .ok (.aload_n 0, 1) := by decide +kernel
theorem d_Reader_name_1 : decode b_Reader_name 1 = .ok (.dup, 1) := by decide +kernel
theorem d_Reader_name_2 : decode b_Reader_name 2 = .ok (.getfield 19, 3) := by decide +kernel
theorem d_Reader_name_5 : decode b_Reader_name 5 = .ok (.iconst 1, 1) := by decide +kernel
theorem d_Reader_name_6 : decode b_Reader_name 6 = .ok (.iadd, 1) := by decide +kernel
theorem d_Reader_name_7 : decode b_Reader_name 7 = .ok (.putfield 19, 3) := by decide +kernel
theorem d_Reader_name_10 : decode b_Reader_name 10 = .ok (.aload_n 0, 1) := by decide +kernel
theorem d_Reader_name_11 : decode b_Reader_name 11 = .ok (.aload_n 0, 1) := by decide +kernel
theorem d_Reader_name_12 : decode b_Reader_name 12 = .ok (.getfield 19, 3) := by decide +kernel
theorem d_Reader_name_15 : decode b_Reader_name 15 = .ok (.invokevirtual 75, 3) := by decide +kernel
theorem d_Reader_name_18 : decode b_Reader_name 18 = .ok (.istore_n 1, 1) := by decide +kernel
theorem d_Reader_name_19 : decode b_Reader_name 19 = .ok (.iload_n 1, 1) := by decide +kernel
theorem d_Reader_name_20 : decode b_Reader_name 20 = .ok (.bipush 20, 2) := by decide +kernel
theorem d_Reader_name_22 : decode b_Reader_name 22 = .ok (.if_icmp .le 5, 3) := by decide +kernel
theorem d_Reader_name_25 : decode b_Reader_name 25 = .ok (.iconst 0, 1) := by decide +kernel
theorem d_Reader_name_26 : decode b_Reader_name 26 = .ok (.ireturn, 1) := by decide +kernel
theorem d_Reader_name_27 : decode b_Reader_name 27 = .ok (.aload_n 0, 1) := by decide +kernel
theorem d_Reader_name_28 : decode b_Reader_name 28 = .ok (.getfield 15, 3) := by decide +kernel
theorem d_Reader_name_31 : decode b_Reader_name 31 = .ok (.iconst 4, 1) := by decide +kernel
theorem d_Reader_name_32 : decode b_Reader_name 32 = .ok (.iload_n 1, 1) := by decide +kernel
theorem d_Reader_name_33 : decode b_Reader_name 33 = .ok (.aload_n 0, 1) := by decide +kernel
theorem d_Reader_name_34 : decode b_Reader_name 34 = .ok (.getfield 15, 3) := by decide +kernel
theorem d_Reader_name_37 : decode b_Reader_name 37 = .ok (.invokevirtual 82, 3) := by decide +kernel
theorem d_Reader_name_40 : decode b_Reader_name 40 = .ok (.invokevirtual 36, 3) := by decide +kernel
theorem d_Reader_name_43 : decode b_Reader_name 43 = .ok (.invokevirtual 67, 3) := by decide +kernel
theorem d_Reader_name_46 : decode b_Reader_name 46 = .ok (.pop, 1) := by decide +kernel
theorem d_Reader_name_47 : decode b_Reader_name 47 = .ok (.aload_n 0, 1) := by decide +kernel
theorem d_Reader_name_48 : decode b_Reader_name 48 = .ok (.getfield 15, 3) := by decide +kernel
theorem d_Reader_name_51 : decode b_Reader_name 51 = .ok (.invokevirtual 82, 3) := by decide +kernel
theorem d_Reader_name_54 : decode b_Reader_name 54 = .ok (.aload_n 0, 1) := by decide +kernel
theorem d_Reader_name_55 : decode b_Reader_name 55 = .ok (.getfield 9, 3) := by decide +kernel
theorem d_Reader_name_58 : decode b_Reader_name 58 = .ok (.aload_n 0, 1) := by decide +kernel
theorem d_Reader_name_59 : decode b_Reader_name 59 = .ok (.getfield 19, 3) := by decide +kernel
theorem d_Reader_name_62 : decode b_Reader_name 62 = .ok (.iload_n 1, 1) := by decide +kernel
theorem d_Reader_name_63 : decode b_Reader_name 63 = .ok (.invokevirtual 86, 3) := by decide +kernel
theorem d_Reader_name_66 : decode b_Reader_name 66 = .ok (.aload_n 0, 1) := by decide +kernel
theorem d_Reader_name_67 : decode b_Reader_name 67 = .ok (.dup, 1) := by decide +kernel
theorem d_Reader_name_68 : decode b_Reader_name 68 = .ok (.getfield 19, 3) := by decide +kernel
theorem d_Reader_name_71 : decode b_Reader_name 71 = .ok (.iload_n 1, 1) := by decide +kernel
theorem d_Reader_name_72 : decode b_Reader_name 72 = .ok (.iadd, 1) := by decide +kernel
theorem d_Reader_name_73 : decode b_Reader_name 73 = .ok (.putfield 19, 3) := by decide +kernel
theorem d_Reader_name_76 : decode b_Reader_name 76 = .ok (.iconst 1, 1) := by decide +kernel
theorem d_Reader_name_77 : decode b_Reader_name 77 = .ok (.ireturn, 1) := by decide +kernel
theorem d_Reader_plainString_0 : decode b_Reader_plainString 0 = .ok (.aload_n 0, 1) := by decide +kernel
theorem d_Reader_plainString_1 : decode b_Reader_plainString 1 = .ok (.dup, 1) := by decide +kernel
theorem d_Reader_plainString_2 : decode b_Reader_plainString 2 = .ok (.getfield 19, 3) := by decide +kernel
theorem d_Reader_plainString_5 : decode b_Reader_plainString 5 = .ok (.iconst 1, 1) := by decide +kernel
theorem d_Reader_plainString_6 : decode b_Reader_plainString 6 = .ok (.iadd, 1) := by decide +kernel
theorem d_Reader_plainString_7 : decode b_Reader_plainString 7 = .ok (.putfield 19, 3) := by decide +kernel
theorem d_Reader_plainString_10 : decode b_Reader_plainString 10 = .ok (.aload_n 0, 1) := by decide +kernel
theorem d_Reader_plainString_11 : decode b_Reader_plainString 11 = .ok (.getfield 15, 3) := by decide +kernel
theorem d_Reader_plainString_14 : decode b_Reader_plainString 14 = .ok (.invokevirtual 82, 3) := by decide +kernel
theorem d_Reader_plainString_17 : decode b_Reader_plainString 17 = .ok (.invokevirtual 36, 3) := by decide +kernel
theorem d_Reader_plainString_20 : decode b_Reader_plainString 20 = .ok (.istore_n 1, 1) := by decide +kernel
theorem d_Reader_plainString_21 : decode b_Reader_plainString 21 = .ok (.iconst 0, 1) := by decide +kernel
theorem d_Reader_plainString_22 : decode b_Reader_plainString 22 = .ok (.istore_n 2, 1) := by decide +kernel
theorem d_Reader_plainString_23 : decode b_Reader_plainString 23 = .ok (.iload_n 2, 1) := by decide +kernel
theorem d_Reader_plainString_24 : decode b_Reader_plainString 24 = .ok (.bipush 100, 2) := by decide +kernel
theorem d_Reader_plainString_26 : decode b_Reader_plainString 26 = .ok (.if_icmp .gt 89, 3) := by decide +kernel
theorem d_Reader_plainString_29 : decode b_Reader_plainString 29 = .ok (.aload_n 0, 1) := by decide +kernel
theorem d_Reader_plainString_30 : decode b_Reader_plainString 30 = .ok (.getfield 9, 3) := by decide +kernel
theorem d_Reader_plainString_33 : decode b_Reader_plainString 33 = .ok (.aload_n 0, 1) := by decide +kernel
theorem d_Reader_plainString_34 : decode b_Reader_plainString 34 = .ok (.getfield 19, 3) := by decide +kernel
theorem d_Reader_plainString_37 : decode b_Reader_plainString 37 = .ok (.invokevirtual 42, 3) := by decide +kernel
theorem d_Reader_plainString_40 : decode b_Reader_plainString 40 = .ok (.istore_n 3, 1) := by decide +kernel
theorem d_Reader_plainString_41 : decode b_Reader_plainString 41 = .ok (.aload_n 0, 1) := by decide +kernel
theorem d_Reader_plainString_42 : decode b_Reader_plainString 42 = .ok (.dup, 1) := by decide +kernel
theorem d_Reader_plainString_43 : decode b_Reader_plainString 43 = .ok (.getfield 19, 3) := by decide +kernel
theorem d_Reader_plainString_46 : decode b_Reader_plainString 46 = .ok (.iconst 1, 1) := by decide +kernel
theorem d_Reader_plainString_47 : decode b_Reader_plainString 47 = .ok (.iadd, 1) := by decide +kernel
theorem d_Reader_plainString_48 : decode b_Reader_plainString 48 = .ok (.putfield 19, 3) := by decide +kernel
theorem d_Reader_plainString_51 : decode b_Reader_plainString 51 = .ok (.iload_n 3, 1) := by decide +kernel
theorem d_Reader_plainString_52 : decode b_Reader_plainString 52 = .ok (.bipush 41, 2) := by decide +kernel
theorem d_Reader_plainString_54 : decode b_Reader_plainString 54 = .ok (.if_icmp .ne 16, 3) := by decide +kernel
theorem d_Reader_plainString_57 : decode b_Reader_plainString 57 = .ok (.aload_n 0, 1) := by decide +kernel
theorem d_Reader_plainString_58 : decode b_Reader_plainString 58 = .ok (.getfield 15, 3) := by decide +kernel
theorem d_Reader_plainString_61 : decode b_Reader_plainString 61 = .ok (.iconst 5, 1) := by decide +kernel
theorem d_Reader_plainString_62 : decode b_Reader_plainString 62 = .ok (.iload_n 2, 1) := by decide +kernel
theorem d_Reader_plainString_63 : decode b_Reader_plainString 63 = .ok (.iload_n 1, 1) := by decide +kernel
theorem d_Reader_plainString_64 : decode b_Reader_plainString 64 = .ok (.invokevirtual 67, 3) := by decide +kernel
theorem d_Reader_plainString_67 : decode b_Reader_plainString 67 = .ok (.pop, 1) := by decide +kernel
theorem d_Reader_plainString_68 : decode b_Reader_plainString 68 = .ok (.iconst 1, 1) := by decide +kernel
theorem d_Reader_plainString_69 : decode b_Reader_plainString 69 = .ok (.ireturn, 1) := by decide +kernel
theorem d_Reader_plainString_70 : decode b_Reader_plainString 70 = .ok (.iload_n 3, 1) := by decide +kernel
theorem d_Reader_plainString_71 : decode b_Reader_plainString 71 = .ok (.bipush 92, 2) := by decide +kernel
theorem d_Reader_plainString_73 : decode b_Reader_plainString 73 = .ok (.if_icmp .ne 11, 3) := by decide +kernel
theorem d_Reader_plainString_76 : decode b_Reader_plainString 76 = .ok (.aload_n 0, 1) := by decide +kernel
theorem d_Reader_plainString_77 : decode b_Reader_plainString 77 = .ok (.invokevirtual 90, 3) := by decide +kernel
theorem d_Reader_plainString_80 : decode b_Reader_plainString 80 = .ok (.istore_n 3, 1) := by decide +kernel
theorem d_Reader_plainString_81 : decode b_Reader_plainString 81 = .ok (.goto 11, 3) := by decide +kernel
theorem d_Reader_plainString_84 : decode b_Reader_plainString 84 = .ok (.iload_n 3, 1) := by decide +kernel
theorem d_Reader_plainString_85 : decode b_Reader_plainString 85 = .ok (.bipush 40, 2) := by decide +kernel
theorem d_Reader_plainString_87 : decode b_Reader_plainString 87 = .ok (.if_icmp .ne 5, 3) := by decide +kernel
theorem d_Reader_plainString_90 : decode b_Reader_plainString 90 = .ok (.iconst 0, 1) := by decide +kernel
theorem d_Reader_plainString_91 : decode b_Reader_plainString 91 = .ok (.ireturn, 1) := by decide +kernel
theorem d_Reader_plainString_92 : decode b_Reader_plainString 92 = .ok (.iload_n 3, 1) := by decide +kernel
theorem d_Reader_plainString_93 : decode b_Reader_plainString 93 = .ok (.ifCond .ge 5, 3) := by decide +kernel
theorem d_Reader_plainString_96 : decode b_Reader_plainString 96 = .ok (.iconst 0, 1) := by decide +kernel
theorem d_Reader_plainString_97 : decode b_Reader_plainString 97 = .ok (.ireturn, 1) := by decide +kernel
theorem d_Reader_plainString_98 : decode b_Reader_plainString 98 = .ok (.aload_n 0, 1) := by decide +kernel
theorem d_Reader_plainString_99 : decode b_Reader_plainString 99 = .ok (.getfield 15, 3) := by decide +kernel
theorem d_Reader_plainString_102 : decode b_Reader_plainString 102 = .ok (.invokevirtual 82, 3) := by decide +kernel
theorem d_Reader_plainString_105 : decode b_Reader_plainString 105 = .ok (.iload_n 3, 1) := by decide +kernel
theorem d_Reader_plainString_106 : decode b_Reader_plainString 106 = .ok (.invokevirtual 93, 3) := by decide +kernel
theorem d_Reader_plainString_109 : decode b_Reader_plainString 109 = .ok (.iinc 2 1, 3) := by decide +kernel
theorem d_Reader_plainString_112 : decode b_Reader_plainString 112 = .ok (.goto (-89), 3) := by decide +kernel
theorem d_Reader_plainString_115 : decode b_Reader_plainString 115 = .ok (.iconst 0, 1) := by decide +kernel
theorem d_Reader_plainString_116 : decode b_Reader_plainString 116 = .ok (.ireturn, 1) := by decide +kernel
theorem d_Reader_escaped_0 : decode b_Reader_escaped 0 = .ok (.aload_n 0, 1) := by decide +kernel
theorem d_Reader_escaped_1 : decode b_Reader_escaped 1 = .ok (.getfield 9, 3) := by decide +kernel
theorem d_Reader_escaped_4 : decode b_Reader_escaped 4 = .ok (.aload_n 0, 1) := by decide +kernel
theorem d_Reader_escaped_5 : decode b_Reader_escaped 5 = .ok (.getfield 19, 3) := by decide +kernel
theorem d_Reader_escaped_8 : decode b_Reader_escaped 8 = .ok (.invokevirtual 42, 3) := by decide +kernel
theorem d_Reader_escaped_11 : decode b_Reader_escaped 11 = .ok (.istore_n 1, 1) := by decide +kernel
theorem d_Reader_escaped_12 : decode b_Reader_escaped 12 = .ok (.iload_n 1, 1) := by decide +kernel
theorem d_Reader_escaped_13 : decode b_Reader_escaped 13 = .ok (.bipush 40, 2) := by decide +kernel
theorem d_Reader_escaped_15 : decode b_Reader_escaped 15 = .ok (.if_icmp .eq 15, 3) := by decide +kernel
theorem d_Reader_escaped_18 : decode b_Reader_escaped 18 = .ok (.iload_n 1, 1) := by decide +kernel
theorem d_Reader_escaped_19 : decode b_Reader_escaped 19 = .ok (.bipush 41, 2) := by decide +kernel
theorem d_Reader_escaped_21 : decode b_Reader_escaped 21 = .ok (.if_icmp .eq 9, 3) := by decide +kernel
theorem d_Reader_escaped_24 : decode b_Reader_escaped 24 = .ok (.iload_n 1, 1) := by decide +kernel
theorem d_Reader_escaped_25 : decode b_Reader_escaped 25 = .ok (.bipush 92, 2) := by decide +kernel
theorem d_Reader_escaped_27 : decode b_Reader_escaped 27 = .ok (.if_icmp .ne 15, 3) := by decide +kernel
theorem d_Reader_escaped_30 : decode b_Reader_escaped 30 = .ok (.aload_n 0, 1) := by decide +kernel
theorem d_Reader_escaped_31 : decode b_Reader_escaped 31 = .ok (.dup, 1) := by decide +kernel
theorem d_Reader_escaped_32 : decode b_Reader_escaped 32 = .ok (.getfield 19, 3) := by decide +kernel
theorem d_Reader_escaped_35 : decode b_Reader_escaped 35 = .ok (.iconst 1, 1) := by decide +kernel
theorem d_Reader_escaped_36 : decode b_Reader_escaped 36 = .ok (.iadd, 1) := by decide +kernel
theorem d_Reader_escaped_37 : decode b_Reader_escaped 37 = .ok (.putfield 19, 3) := by decide +kernel
theorem d_Reader_escaped_40 : decode b_Reader_escaped 40 = .ok (.iload_n 1, 1) := by decide +kernel
theorem d_Reader_escaped_41 : decode b_Reader_escaped 41 = .ok (.ireturn, 1) := by decide +kernel
theorem d_Reader_escaped_42 : decode b_Reader_escaped 42 = .ok (.aload_n 0, 1) := by decide +kernel
theorem d_Reader_escaped_43 : decode b_Reader_escaped 43 = .ok (.aload_n 0, 1) := by decide +kernel
theorem d_Reader_escaped_44 : decode b_Reader_escaped 44 = .ok (.getfield 19, 3) := by decide +kernel
theorem d_Reader_escaped_47 : decode b_Reader_escaped 47 = .ok (.invokevirtual 95, 3) := by decide +kernel
theorem d_Reader_escaped_50 : decode b_Reader_escaped 50 = .ok (.istore_n 2, 1) := by decide +kernel
theorem d_Reader_escaped_51 : decode b_Reader_escaped 51 = .ok (.aload_n 0, 1) := by decide +kernel
theorem d_Reader_escaped_52 : decode b_Reader_escaped 52 = .ok (.aload_n 0, 1) := by decide +kernel
theorem d_Reader_escaped_53 : decode b_Reader_escaped 53 = .ok (.getfield 19, 3) := by decide +kernel
theorem d_Reader_escaped_56 : decode b_Reader_escaped 56 = .ok (.iconst 1, 1) := by decide +kernel
theorem d_Reader_escaped_57 : decode b_Reader_escaped 57 = .ok (.iadd, 1) := by decide +kernel
theorem d_Reader_escaped_58 : decode b_Reader_escaped 58 = .ok (.invokevirtual 95, 3) := by decide +kernel
theorem d_Reader_escaped_61 : decode b_Reader_escaped 61 = .ok (.istore_n 3, 1) := by decide +kernel
theorem d_Reader_escaped_62 : decode b_Reader_escaped 62 = .ok (.aload_n 0, 1) := by decide +kernel
theorem d_Reader_escaped_63 : decode b_Reader_escaped 63 = .ok (.aload_n 0, 1) := by decide +kernel
theorem d_Reader_escaped_64 : decode b_Reader_escaped 64 = .ok (.getfield 19, 3) := by decide +kernel
theorem d_Reader_escaped_67 : decode b_Reader_escaped 67 = .ok (.iconst 2, 1) := by decide +kernel
theorem d_Reader_escaped_68 : decode b_Reader_escaped 68 = .ok (.iadd, 1) := by decide +kernel
theorem d_Reader_escaped_69 : decode b_Reader_escaped 69 = .ok (.invokevirtual 95, 3) := by decide +kernel
theorem d_Reader_escaped_72 : decode b_Reader_escaped 72 = .ok (.istore 4, 2) := by decide +kernel
theorem d_Reader_escaped_74 : decode b_Reader_escaped 74 = .ok (.iload_n 2, 1) := by decide +kernel
theorem d_Reader_escaped_75 : decode b_Reader_escaped 75 = .ok (.ifCond .lt 17, 3) := by decide +kernel
theorem d_Reader_escaped_78 : decode b_Reader_escaped 78 = .ok (.iload_n 2, 1) := by decide +kernel
theorem d_Reader_escaped_79 : decode b_Reader_escaped 79 = .ok (.iconst 3, 1) := by decide +kernel
theorem d_Reader_escaped_80 : decode b_Reader_escaped 80 = .ok (.if_icmp .gt 12, 3) := by decide +kernel
theorem d_Reader_escaped_83 : decode b_Reader_escaped 83 = .ok (.iload_n 3, 1) := by decide +kernel
theorem d_Reader_escaped_84 : decode b_Reader_escaped 84 = .ok (.ifCond .lt 8, 3) := by decide +kernel
theorem d_Reader_escaped_87 : decode b_Reader_escaped 87 = .ok (.iload 4, 2) := by decide +kernel
theorem d_Reader_escaped_89 : decode b_Reader_escaped 89 = .ok (.ifCond .ge 5, 3) := by decide +kernel
theorem d_Reader_escaped_92 : decode b_Reader_escaped 92 = .ok (.iconst (-1), 1) := by decide +kernel
theorem d_Reader_escaped_93 : decode b_Reader_escaped 93 = .ok (.ireturn, 1) := by decide +kernel
theorem d_Reader_escaped_94 : decode b_Reader_escaped 94 = .ok (.aload_n 0, 1) := by decide +kernel
theorem d_Reader_escaped_95 : decode b_Reader_escaped 95 = .ok (.dup, 1) := by decide +kernel
theorem d_Reader_escaped_96 : decode b_Reader_escaped 96 = .ok (.getfield 19, 3) := by decide +kernel
theorem d_Reader_escaped_99 : decode b_Reader_escaped 99 = .ok (.iconst 3, 1) := by decide +kernel
theorem d_Reader_escaped_100 : decode b_Reader_escaped 100 = .ok (.iadd, 1) := by decide +kernel
theorem d_Reader_escaped_101 : decode b_Reader_escaped 101 = .ok (.putfield 19, 3) := by decide +kernel
theorem d_Reader_escaped_104 : decode b_Reader_escaped 104 = .ok (.iload_n 2, 1) := by decide +kernel
theorem d_Reader_escaped_105 : decode b_Reader_escaped 105 = .ok (.bipush 64, 2) := by decide +kernel
theorem d_Reader_escaped_107 : decode b_Reader_escaped 107 = .ok (.imul, 1) := by decide +kernel
theorem d_Reader_escaped_108 : decode b_Reader_escaped 108 = .ok (.iload_n 3, 1) := by decide +kernel
theorem d_Reader_escaped_109 : decode b_Reader_escaped 109 = .ok (.bipush 8, 2) := by decide +kernel
theorem d_Reader_escaped_111 : decode b_Reader_escaped 111 = .ok (.imul, 1) := by decide +kernel
theorem d_Reader_escaped_112 : decode b_Reader_escaped 112 = .ok (.iadd, 1) := by decide +kernel
theorem d_Reader_escaped_113 : decode b_Reader_escaped 113 = .ok (.iload 4, 2) := by decide +kernel
theorem d_Reader_escaped_115 : decode b_Reader_escaped 115 = .ok (.iadd, 1) := by decide +kernel
theorem d_Reader_escaped_116 : decode b_Reader_escaped 116 = .ok (.ireturn, 1) := by decide +kernel
theorem d_Reader_octalDigit_0 : decode b_Reader_octalDigit 0 = .ok (.aload_n 0, 1) := by decide +kernel
theorem d_Reader_octalDigit_1 : decode b_Reader_octalDigit 1 = .ok (.getfield 9, 3) := by decide +kernel
theorem d_Reader_octalDigit_4 : decode b_Reader_octalDigit 4 = .ok (.iload_n 1, 1) := by decide +kernel
theorem d_Reader_octalDigit_5 : decode b_Reader_octalDigit 5 = .ok (.invokevirtual 42, 3) := by decide +kernel
theorem d_Reader_octalDigit_8 : decode b_Reader_octalDigit 8 = .ok (.istore_n 2, 1) := by decide +kernel
theorem d_Reader_octalDigit_9 : decode b_Reader_octalDigit 9 = .ok (.iload_n 2, 1) := by decide +kernel
theorem d_Reader_octalDigit_10 : decode b_Reader_octalDigit 10 = .ok (.bipush 48, 2) := by decide +kernel
theorem d_Reader_octalDigit_12 : decode b_Reader_octalDigit 12 = .ok (.if_icmp .lt 16, 3) := by decide +kernel
theorem d_Reader_octalDigit_15 : decode b_Reader_octalDigit 15 = .ok (.iload_n 2, 1) := by decide +kernel
theorem d_Reader_octalDigit_16 : decode b_Reader_octalDigit 16 = .ok (.bipush 55, 2) := by decide +kernel
theorem d_Reader_octalDigit_18 : decode b_Reader_octalDigit 18 = .ok (.if_icmp .gt 10, 3) := by decide +kernel
theorem d_Reader_octalDigit_21 : decode b_Reader_octalDigit 21 = .ok (.iload_n 2, 1) := by decide +kernel
theorem d_Reader_octalDigit_22 : decode b_Reader_octalDigit 22 = .ok (.bipush 48, 2) := by decide +kernel
theorem d_Reader_octalDigit_24 : decode b_Reader_octalDigit 24 = .ok (.isub, 1) := by decide +kernel
theorem d_Reader_octalDigit_25 : decode b_Reader_octalDigit 25 = .ok (.goto 4, 3) := by decide +kernel
theorem d_Reader_octalDigit_28 : decode b_Reader_octalDigit 28 = .ok (.iconst (-1), 1) := by decide +kernel
theorem d_Reader_octalDigit_29 : decode b_Reader_octalDigit 29 = .ok (.ireturn, 1) := by decide +kernel
theorem d_Reader_hexString_0 : decode b_Reader_hexString 0 = .ok (.aload_n 0, 1) := by decide +kernel
theorem d_Reader_hexString_1 : decode b_Reader_hexString 1 = .ok (.dup, 1) := by decide +kernel
theorem d_Reader_hexString_2 : decode b_Reader_hexString 2 = .ok (.getfield 19, 3) := by decide +kernel
theorem d_Reader_hexString_5 : decode b_Reader_hexString 5 = .ok (.iconst 1, 1) := by decide +kernel
theorem d_Reader_hexString_6 : decode b_Reader_hexString 6 = .ok (.iadd, 1) := by decide +kernel
theorem d_Reader_hexString_7 : decode b_Reader_hexString 7 = .ok (.putfield 19, 3) := by decide +kernel
theorem d_Reader_hexString_10 : decode b_Reader_hexString 10 = .ok (.aload_n 0, 1) := by decide +kernel
theorem d_Reader_hexString_11 : decode b_Reader_hexString 11 = .ok (.getfield 15, 3) := by decide +kernel
theorem d_Reader_hexString_14 : decode b_Reader_hexString 14 = .ok (.invokevirtual 82, 3) := by decide +kernel
theorem d_Reader_hexString_17 : decode b_Reader_hexString 17 = .ok (.invokevirtual 36, 3) := by decide +kernel
theorem d_Reader_hexString_20 : decode b_Reader_hexString 20 = .ok (.istore_n 1, 1) := by decide +kernel
theorem d_Reader_hexString_21 : decode b_Reader_hexString 21 = .ok (.iconst 0, 1) := by decide +kernel
theorem d_Reader_hexString_22 : decode b_Reader_hexString 22 = .ok (.istore_n 2, 1) := by decide +kernel
theorem d_Reader_hexString_23 : decode b_Reader_hexString 23 = .ok (.iload_n 2, 1) := by decide +kernel
theorem d_Reader_hexString_24 : decode b_Reader_hexString 24 = .ok (.bipush 100, 2) := by decide +kernel
theorem d_Reader_hexString_26 : decode b_Reader_hexString 26 = .ok (.if_icmp .gt 107, 3) := by decide +kernel
theorem d_Reader_hexString_29 : decode b_Reader_hexString 29 = .ok (.aload_n 0, 1) := by decide +kernel
theorem d_Reader_hexString_30 : decode b_Reader_hexString 30 = .ok (.getfield 9, 3) := by decide +kernel
theorem d_Reader_hexString_33 : decode b_Reader_hexString 33 = .ok (.aload_n 0, 1) := by decide +kernel
theorem d_Reader_hexString_34 : decode b_Reader_hexString 34 = .ok (.getfield 19, 3) := by decide +kernel
theorem d_Reader_hexString_37 : decode b_Reader_hexString 37 = .ok (.invokevirtual 42, 3) := by decide +kernel
theorem d_Reader_hexString_40 : decode b_Reader_hexString 40 = .ok (.bipush 62, 2) := by decide +kernel
theorem d_Reader_hexString_42 : decode b_Reader_hexString 42 = .ok (.if_icmp .ne 26, 3) := by decide +kernel
theorem d_Reader_hexString_45 : decode b_Reader_hexString 45 = .ok (.aload_n 0, 1) := by decide +kernel
theorem d_Reader_hexString_46 : decode b_Reader_hexString 46 = .ok (.dup, 1) := by decide +kernel
theorem d_Reader_hexString_47 : decode b_Reader_hexString 47 = .ok (.getfield 19, 3) := by decide +kernel
theorem d_Reader_hexString_50 : decode b_Reader_hexString 50 = .ok (.iconst 1, 1) := by decide +kernel
theorem d_Reader_hexString_51 : decode b_Reader_hexString 51 = .ok (.iadd, 1) := by decide +kernel
theorem d_Reader_hexString_52 : decode b_Reader_hexString 52 = .ok (.putfield 19, 3) := by decide +kernel
theorem d_Reader_hexString_55 : decode b_Reader_hexString 55 = .ok (.aload_n 0, 1) := by decide +kernel
theorem d_Reader_hexString_56 : decode b_Reader_hexString 56 = .ok (.getfield 15, 3) := by decide +kernel
theorem d_Reader_hexString_59 : decode b_Reader_hexString 59 = .ok (.iconst 5, 1) := by decide +kernel
theorem d_Reader_hexString_60 : decode b_Reader_hexString 60 = .ok (.iload_n 2, 1) := by decide +kernel
theorem d_Reader_hexString_61 : decode b_Reader_hexString 61 = .ok (.iload_n 1, 1) := by decide +kernel
theorem d_Reader_hexString_62 : decode b_Reader_hexString 62 = .ok (.invokevirtual 67, 3) := by decide +kernel
theorem d_Reader_hexString_65 : decode b_Reader_hexString 65 = .ok (.pop, 1) := by decide +kernel
theorem d_Reader_hexString_66 : decode b_Reader_hexString 66 = .ok (.iconst 1, 1) := by decide +kernel
theorem d_Reader_hexString_67 : decode b_Reader_hexString 67 = .ok (.ireturn, 1) := by decide +kernel
theorem d_Reader_hexString_68 : decode b_Reader_hexString 68 = .ok (.aload_n 0, 1) := by decide +kernel
theorem d_Reader_hexString_69 : decode b_Reader_hexString 69 = .ok (.aload_n 0, 1) := by decide +kernel
theorem d_Reader_hexString_70 : decode b_Reader_hexString 70 = .ok (.getfield 19, 3) := by decide +kernel
theorem d_Reader_hexString_73 : decode b_Reader_hexString 73 = .ok (.invokevirtual 98, 3) := by decide +kernel
theorem d_Reader_hexString_76 : decode b_Reader_hexString 76 = .ok (.istore_n 3, 1) := by decide +kernel
theorem d_Reader_hexString_77 : decode b_Reader_hexString 77 = .ok (.aload_n 0, 1) := by decide +kernel
theorem d_Reader_hexString_78 : decode b_Reader_hexString 78 = .ok (.aload_n 0, 1) := by decide +kernel
theorem d_Reader_hexString_79 : decode b_Reader_hexString 79 = .ok (.getfield 19, 3) := by decide +kernel
theorem d_Reader_hexString_82 : decode b_Reader_hexString 82 = .ok (.iconst 1, 1) := by decide +kernel
theorem d_Reader_hexString_83 : decode b_Reader_hexString 83 = .ok (.iadd, 1) := by decide +kernel
theorem d_Reader_hexString_84 : decode b_Reader_hexString 84 = .ok (.invokevirtual 98, 3) := by decide +kernel
theorem d_Reader_hexString_87 : decode b_Reader_hexString 87 = .ok (.istore 4, 2) := by decide +kernel
theorem d_Reader_hexString_89 : decode b_Reader_hexString 89 = .ok (.iload_n 3, 1) := by decide +kernel
theorem d_Reader_hexString_90 : decode b_Reader_hexString 90 = .ok (.ifCond .lt 8, 3) := by decide +kernel
theorem d_Reader_hexString_93 : decode b_Reader_hexString 93 = .ok (.iload 4, 2) := by decide +kernel
theorem d_Reader_hexString_95 : decode b_Reader_hexString 95 = .ok (.ifCond .ge 5, 3) := by decide +kernel
theorem d_Reader_hexString_98 : decode b_Reader_hexString 98 = .ok (.iconst 0, 1) := by decide +kernel
theorem d_Reader_hexString_99 : decode b_Reader_hexString 99 = .ok (.ireturn, 1) := by decide +kernel
theorem d_Reader_hexString_100 : decode b_Reader_hexString 100 = .ok (.aload_n 0, 1) := by decide +kernel
theorem d_Reader_hexString_101 : decode b_Reader_hexString 101 = .ok (.dup, 1) := by decide +kernel
theorem d_Reader_hexString_102 : decode b_Reader_hexString 102 = .ok (.getfield 19, 3) := by decide +kernel
theorem d_Reader_hexString_105 : decode b_Reader_hexString 105 = .ok (.iconst 2, 1) := by decide +kernel
theorem d_Reader_hexString_106 : decode b_Reader_hexString 106 = .ok (.iadd, 1) := by decide +kernel
theorem d_Reader_hexString_107 : decode b_Reader_hexString 107 = .ok (.putfield 19, 3) := by decide +kernel
theorem d_Reader_hexString_110 : decode b_Reader_hexString 110 = .ok (.aload_n 0, 1) := by decide +kernel
theorem d_Reader_hexString_111 : decode b_Reader_hexString 111 = .ok (.getfield 15, 3) := by decide +kernel
theorem d_Reader_hexString_114 : decode b_Reader_hexString 114 = .ok (.invokevirtual 82, 3) := by decide +kernel
theorem d_Reader_hexString_117 : decode b_Reader_hexString 117 = .ok (.iload_n 3, 1) := by decide +kernel
theorem d_Reader_hexString_118 : decode b_Reader_hexString 118 = .ok (.bipush 16, 2) := by decide +kernel
theorem d_Reader_hexString_120 : decode b_Reader_hexString 120 = .ok (.imul, 1) := by decide +kernel
theorem d_Reader_hexString_121 : decode b_Reader_hexString 121 = .ok (.iload 4, 2) := by decide +kernel
theorem d_Reader_hexString_123 : decode b_Reader_hexString 123 = .ok (.iadd, 1) := by decide +kernel
theorem d_Reader_hexString_124 : decode b_Reader_hexString 124 = .ok (.invokevirtual 93, 3) := by decide +kernel
theorem d_Reader_hexString_127 : decode b_Reader_hexString 127 = .ok (.iinc 2 1, 3) := by decide +kernel
theorem d_Reader_hexString_130 : decode b_Reader_hexString 130 = .ok (.goto (-107), 3) := by decide +kernel
theorem d_Reader_hexString_133 : decode b_Reader_hexString 133 = .ok (.iconst 0, 1) := by decide +kernel
theorem d_Reader_hexString_134 : decode b_Reader_hexString 134 = .ok (.ireturn, 1) := by decide +kernel
theorem d_Reader_hexDigit_0 : decode b_Reader_hexDigit 0 = .ok (.aload_n 0, 1) := by decide +kernel
theorem d_Reader_hexDigit_1 : decode b_Reader_hexDigit 1 = .ok (.getfield 9, 3) := by decide +kernel
theorem d_Reader_hexDigit_4 : decode b_Reader_hexDigit 4 = .ok (.iload_n 1, 1) := by decide +kernel
theorem d_Reader_hexDigit_5 : decode b_Reader_hexDigit 5 = .ok (.invokevirtual 42, 3) := by decide +kernel
theorem d_Reader_hexDigit_8 : decode b_Reader_hexDigit 8 = .ok (.istore_n 2, 1) := by decide +kernel
theorem d_Reader_hexDigit_9 : decode b_Reader_hexDigit 9 = .ok (.iload_n 2, 1) := by decide +kernel
theorem d_Reader_hexDigit_10 : decode b_Reader_hexDigit 10 = .ok (.bipush 48, 2) := by decide +kernel
theorem d_Reader_hexDigit_12 : decode b_Reader_hexDigit 12 = .ok (.if_icmp .lt 14, 3) := by decide +kernel
theorem d_Reader_hexDigit_15 : decode b_Reader_hexDigit 15 = .ok (.iload_n 2, 1) := by decide +kernel
theorem d_Reader_hexDigit_16 : decode b_Reader_hexDigit 16 = .ok (.bipush 57, 2) := by decide +kernel
theorem d_Reader_hexDigit_18 : decode b_Reader_hexDigit 18 = .ok (.if_icmp .gt 8, 3) := by decide +kernel
theorem d_Reader_hexDigit_21 : decode b_Reader_hexDigit 21 = .ok (.iload_n 2, 1) := by decide +kernel
theorem d_Reader_hexDigit_22 : decode b_Reader_hexDigit 22 = .ok (.bipush 48, 2) := by decide +kernel
theorem d_Reader_hexDigit_24 : decode b_Reader_hexDigit 24 = .ok (.isub, 1) := by decide +kernel
theorem d_Reader_hexDigit_25 : decode b_Reader_hexDigit 25 = .ok (.ireturn, 1) := by decide +kernel
theorem d_Reader_hexDigit_26 : decode b_Reader_hexDigit 26 = .ok (.iload_n 2, 1) := by decide +kernel
theorem d_Reader_hexDigit_27 : decode b_Reader_hexDigit 27 = .ok (.bipush 97, 2) := by decide +kernel
theorem d_Reader_hexDigit_29 : decode b_Reader_hexDigit 29 = .ok (.if_icmp .lt 17, 3) := by decide +kernel
theorem d_Reader_hexDigit_32 : decode b_Reader_hexDigit 32 = .ok (.iload_n 2, 1) := by decide +kernel
theorem d_Reader_hexDigit_33 : decode b_Reader_hexDigit 33 = .ok (.bipush 102, 2) := by decide +kernel
theorem d_Reader_hexDigit_35 : decode b_Reader_hexDigit 35 = .ok (.if_icmp .gt 11, 3) := by decide +kernel
theorem d_Reader_hexDigit_38 : decode b_Reader_hexDigit 38 = .ok (.iload_n 2, 1) := by decide +kernel
theorem d_Reader_hexDigit_39 : decode b_Reader_hexDigit 39 = .ok (.bipush 97, 2) := by decide +kernel
theorem d_Reader_hexDigit_41 : decode b_Reader_hexDigit 41 = .ok (.isub, 1) := by decide +kernel
theorem d_Reader_hexDigit_42 : decode b_Reader_hexDigit 42 = .ok (.bipush 10, 2) := by decide +kernel
theorem d_Reader_hexDigit_44 : decode b_Reader_hexDigit 44 = .ok (.iadd, 1) := by decide +kernel
theorem d_Reader_hexDigit_45 : decode b_Reader_hexDigit 45 = .ok (.ireturn, 1) := by decide +kernel
theorem d_Reader_hexDigit_46 : decode b_Reader_hexDigit 46 = .ok (.iload_n 2, 1) := by decide +kernel
theorem d_Reader_hexDigit_47 : decode b_Reader_hexDigit 47 = .ok (.bipush 65, 2) := by decide +kernel
theorem d_Reader_hexDigit_49 : decode b_Reader_hexDigit 49 = .ok (.if_icmp .lt 19, 3) := by decide +kernel
theorem d_Reader_hexDigit_52 : decode b_Reader_hexDigit 52 = .ok (.iload_n 2, 1) := by decide +kernel
theorem d_Reader_hexDigit_53 : decode b_Reader_hexDigit 53 = .ok (.bipush 70, 2) := by decide +kernel
theorem d_Reader_hexDigit_55 : decode b_Reader_hexDigit 55 = .ok (.if_icmp .gt 13, 3) := by decide +kernel
theorem d_Reader_hexDigit_58 : decode b_Reader_hexDigit 58 = .ok (.iload_n 2, 1) := by decide +kernel
theorem d_Reader_hexDigit_59 : decode b_Reader_hexDigit 59 = .ok (.bipush 65, 2) := by decide +kernel
theorem d_Reader_hexDigit_61 : decode b_Reader_hexDigit 61 = .ok (.isub, 1) := by decide +kernel
theorem d_Reader_hexDigit_62 : decode b_Reader_hexDigit 62 = .ok (.bipush 10, 2) := by decide +kernel
theorem d_Reader_hexDigit_64 : decode b_Reader_hexDigit 64 = .ok (.iadd, 1) := by decide +kernel
theorem d_Reader_hexDigit_65 : decode b_Reader_hexDigit 65 = .ok (.goto 4, 3) := by decide +kernel
theorem d_Reader_hexDigit_68 : decode b_Reader_hexDigit 68 = .ok (.iconst (-1), 1) := by decide +kernel
theorem d_Reader_hexDigit_69 : decode b_Reader_hexDigit 69 = .ok (.ireturn, 1) := by decide +kernel
theorem d_Reader_word_0 : decode b_Reader_word 0 = .ok (.aload_n 0, 1) := by decide +kernel
theorem d_Reader_word_1 : decode b_Reader_word 1 = .ok (.aload_n 0, 1) := by decide +kernel
theorem d_Reader_word_2 : decode b_Reader_word 2 = .ok (.getfield 19, 3) := by decide +kernel
theorem d_Reader_word_5 : decode b_Reader_word 5 = .ok (.invokevirtual 75, 3) := by decide +kernel
theorem d_Reader_word_8 : decode b_Reader_word 8 = .ok (.istore_n 1, 1) := by decide +kernel
theorem d_Reader_word_9 : decode b_Reader_word 9 = .ok (.aload_n 0, 1) := by decide +kernel
theorem d_Reader_word_10 : decode b_Reader_word 10 = .ok (.iload_n 1, 1) := by decide +kernel
theorem d_Reader_word_11 : decode b_Reader_word 11 = .ok (.invokevirtual 101, 3) := by decide +kernel
theorem d_Reader_word_14 : decode b_Reader_word 14 = .ok (.istore_n 2, 1) := by decide +kernel
theorem d_Reader_word_15 : decode b_Reader_word 15 = .ok (.iload_n 2, 1) := by decide +kernel
theorem d_Reader_word_16 : decode b_Reader_word 16 = .ok (.bipush (-2), 2) := by decide +kernel
theorem d_Reader_word_18 : decode b_Reader_word 18 = .ok (.if_icmp .ne 5, 3) := by decide +kernel
theorem d_Reader_word_21 : decode b_Reader_word 21 = .ok (.iconst 0, 1) := by decide +kernel
theorem d_Reader_word_22 : decode b_Reader_word 22 = .ok (.ireturn, 1) := by decide +kernel
theorem d_Reader_word_23 : decode b_Reader_word 23 = .ok (.aload_n 0, 1) := by decide +kernel
theorem d_Reader_word_24 : decode b_Reader_word 24 = .ok (.getfield 15, 3) := by decide +kernel
theorem d_Reader_word_27 : decode b_Reader_word 27 = .ok (.iload_n 2, 1) := by decide +kernel
theorem d_Reader_word_28 : decode b_Reader_word 28 = .ok (.iconst 0, 1) := by decide +kernel
theorem d_Reader_word_29 : decode b_Reader_word 29 = .ok (.iconst 0, 1) := by decide +kernel
theorem d_Reader_word_30 : decode b_Reader_word 30 = .ok (.invokevirtual 67, 3) := by decide +kernel
theorem d_Reader_word_33 : decode b_Reader_word 33 = .ok (.pop, 1) := by decide +kernel
theorem d_Reader_word_34 : decode b_Reader_word 34 = .ok (.aload_n 0, 1) := by decide +kernel
theorem d_Reader_word_35 : decode b_Reader_word 35 = .ok (.dup, 1) := by decide +kernel
theorem d_Reader_word_36 : decode b_Reader_word 36 = .ok (.getfield 19, 3) := by decide +kernel
theorem d_Reader_word_39 : decode b_Reader_word 39 = .ok (.iload_n 1, 1) := by decide +kernel
theorem d_Reader_word_40 : decode b_Reader_word 40 = .ok (.iadd, 1) := by decide +kernel
theorem d_Reader_word_41 : decode b_Reader_word 41 = .ok (.putfield 19, 3) := by decide +kernel
theorem d_Reader_word_44 : decode b_Reader_word 44 = .ok (.iconst 1, 1) := by decide +kernel
theorem d_Reader_word_45 : decode b_Reader_word 45 = .ok (.ireturn, 1) := by decide +kernel
theorem d_Reader_kindOfWord_0 : decode b_Reader_kindOfWord 0 = .ok (.aload_n 0, 1) := by decide +kernel
theorem d_Reader_kindOfWord_1 : decode b_Reader_kindOfWord 1 = .ok (.ldc 104, 2) := by decide +kernel
theorem d_Reader_kindOfWord_3 : decode b_Reader_kindOfWord 3 = .ok (.iload_n 1, 1) := by decide +kernel
theorem d_Reader_kindOfWord_4 : decode b_Reader_kindOfWord 4 = .ok (.invokevirtual 106, 3) := by decide +kernel
theorem d_Reader_kindOfWord_7 : decode b_Reader_kindOfWord 7 = .ok (.ifCond .eq 5, 3) := by decide +kernel
theorem d_Reader_kindOfWord_10 : decode b_Reader_kindOfWord 10 = .ok (.iconst 0, 1) := by decide +kernel
theorem d_Reader_kindOfWord_11 : decode b_Reader_kindOfWord 11 = .ok (.ireturn, 1) := by decide +kernel
theorem d_Reader_kindOfWord_12 : decode b_Reader_kindOfWord 12 = .ok (.aload_n 0, 1) := by decide +kernel
theorem d_Reader_kindOfWord_13 : decode b_Reader_kindOfWord 13 = .ok (.ldc 110, 2) := by decide +kernel
theorem d_Reader_kindOfWord_15 : decode b_Reader_kindOfWord 15 = .ok (.iload_n 1, 1) := by decide +kernel
theorem d_Reader_kindOfWord_16 : decode b_Reader_kindOfWord 16 = .ok (.invokevirtual 106, 3) := by decide +kernel
theorem d_Reader_kindOfWord_19 : decode b_Reader_kindOfWord 19 = .ok (.ifCond .eq 5, 3) := by decide +kernel
theorem d_Reader_kindOfWord_22 : decode b_Reader_kindOfWord 22 = .ok (.iconst 1, 1) := by decide +kernel
theorem d_Reader_kindOfWord_23 : decode b_Reader_kindOfWord 23 = .ok (.ireturn, 1) := by decide +kernel
theorem d_Reader_kindOfWord_24 : decode b_Reader_kindOfWord 24 = .ok (.aload_n 0, 1) := by decide +kernel
theorem d_Reader_kindOfWord_25 : decode b_Reader_kindOfWord 25 = .ok (.ldc 112, 2) := by decide +kernel
theorem d_Reader_kindOfWord_27 : decode b_Reader_kindOfWord 27 = .ok (.iload_n 1, 1) := by decide +kernel
theorem d_Reader_kindOfWord_28 : decode b_Reader_kindOfWord 28 = .ok (.invokevirtual 106, 3) := by decide +kernel
theorem d_Reader_kindOfWord_31 : decode b_Reader_kindOfWord 31 = .ok (.ifCond .eq 7, 3) := by decide +kernel
theorem d_Reader_kindOfWord_34 : decode b_Reader_kindOfWord 34 = .ok (.iconst 2, 1) := by decide +kernel
theorem d_Reader_kindOfWord_35 : decode b_Reader_kindOfWord 35 = .ok (.goto 5, 3) := by decide +kernel
theorem d_Reader_kindOfWord_38 : decode b_Reader_kindOfWord 38 = .ok (.bipush (-2), 2) := by decide +kernel
theorem d_Reader_kindOfWord_40 : decode b_Reader_kindOfWord 40 = .ok (.ireturn, 1) := by decide +kernel
theorem d_Reader_isWord_0 : decode b_Reader_isWord 0 = .ok (.iload_n 2, 1) := by decide +kernel
theorem d_Reader_isWord_1 : decode b_Reader_isWord 1 = .ok (.aload_n 1, 1) := by decide +kernel
theorem d_Reader_isWord_2 : decode b_Reader_isWord 2 = .ok (.invokevirtual 114, 3) := by decide +kernel
theorem d_Reader_isWord_5 : decode b_Reader_isWord 5 = .ok (.if_icmp .eq 5, 3) := by decide +kernel
theorem d_Reader_isWord_8 : decode b_Reader_isWord 8 = .ok (.iconst 0, 1) := by decide +kernel
theorem d_Reader_isWord_9 : decode b_Reader_isWord 9 = .ok (.ireturn, 1) := by decide +kernel
theorem d_Reader_isWord_10 : decode b_Reader_isWord 10 = .ok (.iconst 0, 1) := by decide +kernel
theorem d_Reader_isWord_11 : decode b_Reader_isWord 11 = .ok (.istore_n 3, 1) := by decide +kernel
theorem d_Reader_isWord_12 : decode b_Reader_isWord 12 = .ok (.iload_n 3, 1) := by decide +kernel
theorem d_Reader_isWord_13 : decode b_Reader_isWord 13 = .ok (.iload_n 2, 1) := by decide +kernel
theorem d_Reader_isWord_14 : decode b_Reader_isWord 14 = .ok (.if_icmp .ge 32, 3) := by decide +kernel
theorem d_Reader_isWord_17 : decode b_Reader_isWord 17 = .ok (.aload_n 0, 1) := by decide +kernel
theorem d_Reader_isWord_18 : decode b_Reader_isWord 18 = .ok (.getfield 9, 3) := by decide +kernel
theorem d_Reader_isWord_21 : decode b_Reader_isWord 21 = .ok (.aload_n 0, 1) := by decide +kernel
theorem d_Reader_isWord_22 : decode b_Reader_isWord 22 = .ok (.getfield 19, 3) := by decide +kernel
theorem d_Reader_isWord_25 : decode b_Reader_isWord 25 = .ok (.iload_n 3, 1) := by decide +kernel
theorem d_Reader_isWord_26 : decode b_Reader_isWord 26 = .ok (.iadd, 1) := by decide +kernel
theorem d_Reader_isWord_27 : decode b_Reader_isWord 27 = .ok (.invokevirtual 42, 3) := by decide +kernel
theorem d_Reader_isWord_30 : decode b_Reader_isWord 30 = .ok (.aload_n 1, 1) := by decide +kernel
theorem d_Reader_isWord_31 : decode b_Reader_isWord 31 = .ok (.iload_n 3, 1) := by decide +kernel
theorem d_Reader_isWord_32 : decode b_Reader_isWord 32 = .ok (.invokevirtual 119, 3) := by decide +kernel
theorem d_Reader_isWord_35 : decode b_Reader_isWord 35 = .ok (.if_icmp .eq 5, 3) := by decide +kernel
theorem d_Reader_isWord_38 : decode b_Reader_isWord 38 = .ok (.iconst 0, 1) := by decide +kernel
theorem d_Reader_isWord_39 : decode b_Reader_isWord 39 = .ok (.ireturn, 1) := by decide +kernel
theorem d_Reader_isWord_40 : decode b_Reader_isWord 40 = .ok (.iinc 3 1, 3) := by decide +kernel
theorem d_Reader_isWord_43 : decode b_Reader_isWord 43 = .ok (.goto (-31), 3) := by decide +kernel
theorem d_Reader_isWord_46 : decode b_Reader_isWord 46 = .ok (.iconst 1, 1) := by decide +kernel
theorem d_Reader_isWord_47 : decode b_Reader_isWord 47 = .ok (.ireturn, 1) := by decide +kernel
theorem d_Reader_number_0 : decode b_Reader_number 0 = .ok (.aload_n 0, 1) := by decide +kernel
theorem d_Reader_number_1 : decode b_Reader_number 1 = .ok (.aload_n 0, 1) := by decide +kernel
theorem d_Reader_number_2 : decode b_Reader_number 2 = .ok (.getfield 19, 3) := by decide +kernel
theorem d_Reader_number_5 : decode b_Reader_number 5 = .ok (.invokevirtual 75, 3) := by decide +kernel
theorem d_Reader_number_8 : decode b_Reader_number 8 = .ok (.istore_n 1, 1) := by decide +kernel
theorem d_Reader_number_9 : decode b_Reader_number 9 = .ok (.aload_n 0, 1) := by decide +kernel
theorem d_Reader_number_10 : decode b_Reader_number 10 = .ok (.aload_n 0, 1) := by decide +kernel
theorem d_Reader_number_11 : decode b_Reader_number 11 = .ok (.getfield 19, 3) := by decide +kernel
theorem d_Reader_number_14 : decode b_Reader_number 14 = .ok (.iload_n 1, 1) := by decide +kernel
theorem d_Reader_number_15 : decode b_Reader_number 15 = .ok (.invokevirtual 123, 3) := by decide +kernel
theorem d_Reader_number_18 : decode b_Reader_number 18 = .ok (.ifCond .ne 5, 3) := by decide +kernel
theorem d_Reader_number_21 : decode b_Reader_number 21 = .ok (.iconst 0, 1) := by decide +kernel
theorem d_Reader_number_22 : decode b_Reader_number 22 = .ok (.ireturn, 1) := by decide +kernel
theorem d_Reader_number_23 : decode b_Reader_number 23 = .ok (.aload_n 0, 1) := by decide +kernel
theorem d_Reader_number_24 : decode b_Reader_number 24 = .ok (.aload_n 0, 1) := by decide +kernel
theorem d_Reader_number_25 : decode b_Reader_number 25 = .ok (.getfield 19, 3) := by decide +kernel
theorem d_Reader_number_28 : decode b_Reader_number 28 = .ok (.iload_n 1, 1) := by decide +kernel
theorem d_Reader_number_29 : decode b_Reader_number 29 = .ok (.iadd, 1) := by decide +kernel
theorem d_Reader_number_30 : decode b_Reader_number 30 = .ok (.invokevirtual 32, 3) := by decide +kernel
theorem d_Reader_number_33 : decode b_Reader_number 33 = .ok (.istore_n 2, 1) := by decide +kernel
theorem d_Reader_number_34 : decode b_Reader_number 34 = .ok (.aload_n 0, 1) := by decide +kernel
theorem d_Reader_number_35 : decode b_Reader_number 35 = .ok (.iload_n 2, 1) := by decide +kernel
theorem d_Reader_number_36 : decode b_Reader_number 36 = .ok (.invokevirtual 75, 3) := by decide +kernel
theorem d_Reader_number_39 : decode b_Reader_number 39 = .ok (.istore_n 3, 1) := by decide +kernel
theorem d_Reader_number_40 : decode b_Reader_number 40 = .ok (.aload_n 0, 1) := by decide +kernel
theorem d_Reader_number_41 : decode b_Reader_number 41 = .ok (.iload_n 2, 1) := by decide +kernel
theorem d_Reader_number_42 : decode b_Reader_number 42 = .ok (.iload_n 3, 1) := by decide +kernel
theorem d_Reader_number_43 : decode b_Reader_number 43 = .ok (.iadd, 1) := by decide +kernel
theorem d_Reader_number_44 : decode b_Reader_number 44 = .ok (.invokevirtual 32, 3) := by decide +kernel
theorem d_Reader_number_47 : decode b_Reader_number 47 = .ok (.istore 4, 2) := by decide +kernel
theorem d_Reader_number_49 : decode b_Reader_number 49 = .ok (.aload_n 0, 1) := by decide +kernel
theorem d_Reader_number_50 : decode b_Reader_number 50 = .ok (.iload 4, 2) := by decide +kernel
theorem d_Reader_number_52 : decode b_Reader_number 52 = .ok (.invokevirtual 75, 3) := by decide +kernel
theorem d_Reader_number_55 : decode b_Reader_number 55 = .ok (.iconst 1, 1) := by decide +kernel
theorem d_Reader_number_56 : decode b_Reader_number 56 = .ok (.if_icmp .ne 21, 3) := by decide +kernel
theorem d_Reader_number_59 : decode b_Reader_number 59 = .ok (.aload_n 0, 1) := by decide +kernel
theorem d_Reader_number_60 : decode b_Reader_number 60 = .ok (.getfield 9, 3) := by decide +kernel
theorem d_Reader_number_63 : decode b_Reader_number 63 = .ok (.iload 4, 2) := by decide +kernel
theorem d_Reader_number_65 : decode b_Reader_number 65 = .ok (.invokevirtual 42, 3) := by decide +kernel
theorem d_Reader_number_68 : decode b_Reader_number 68 = .ok (.bipush 82, 2) := by decide +kernel
theorem d_Reader_number_70 : decode b_Reader_number 70 = .ok (.if_icmp .ne 7, 3) := by decide +kernel
theorem d_Reader_number_73 : decode b_Reader_number 73 = .ok (.iconst 1, 1) := by decide +kernel
theorem d_Reader_number_74 : decode b_Reader_number 74 = .ok (.goto 4, 3) := by decide +kernel
theorem d_Reader_number_77 : decode b_Reader_number 77 = .ok (.iconst 0, 1) := by decide +kernel
theorem d_Reader_number_78 : decode b_Reader_number 78 = .ok (.istore 5, 2) := by decide +kernel
theorem d_Reader_number_80 : decode b_Reader_number 80 = .ok (.iload 5, 2) := by decide +kernel
theorem d_Reader_number_82 : decode b_Reader_number 82 = .ok (.ifCond .eq 65, 3) := by decide +kernel
theorem d_Reader_number_85 : decode b_Reader_number 85 = .ok (.aload_n 0, 1) := by decide +kernel
theorem d_Reader_number_86 : decode b_Reader_number 86 = .ok (.sipush 300, 3) := by decide +kernel
theorem d_Reader_number_89 : decode b_Reader_number 89 = .ok (.aload_n 0, 1) := by decide +kernel
theorem d_Reader_number_90 : decode b_Reader_number 90 = .ok (.getfield 19, 3) := by decide +kernel
theorem d_Reader_number_93 : decode b_Reader_number 93 = .ok (.iload_n 1, 1) := by decide +kernel
theorem d_Reader_number_94 : decode b_Reader_number 94 = .ok (.invokevirtual 127, 3) := by decide +kernel
theorem d_Reader_number_97 : decode b_Reader_number 97 = .ok (.ifCond .eq 50, 3) := by decide +kernel
theorem d_Reader_number_100 : decode b_Reader_number 100 = .ok (.aload_n 0, 1) := by decide +kernel
theorem d_Reader_number_101 : decode b_Reader_number 101 = .ok (.ldc 131, 2) := by decide +kernel
theorem d_Reader_number_103 : decode b_Reader_number 103 = .ok (.iload_n 2, 1) := by decide +kernel
theorem d_Reader_number_104 : decode b_Reader_number 104 = .ok (.iload_n 3, 1) := by decide +kernel
theorem d_Reader_number_105 : decode b_Reader_number 105 = .ok (.invokevirtual 127, 3) := by decide +kernel
theorem d_Reader_number_108 : decode b_Reader_number 108 = .ok (.ifCond .eq 39, 3) := by decide +kernel
theorem d_Reader_number_111 : decode b_Reader_number 111 = .ok (.aload_n 0, 1) := by decide +kernel
theorem d_Reader_number_112 : decode b_Reader_number 112 = .ok (.getfield 15, 3) := by decide +kernel
theorem d_Reader_number_115 : decode b_Reader_number 115 = .ok (.bipush 8, 2) := by decide +kernel
theorem d_Reader_number_117 : decode b_Reader_number 117 = .ok (.aload_n 0, 1) := by decide +kernel
theorem d_Reader_number_118 : decode b_Reader_number 118 = .ok (.aload_n 0, 1) := by decide +kernel
theorem d_Reader_number_119 : decode b_Reader_number 119 = .ok (.getfield 19, 3) := by decide +kernel
theorem d_Reader_number_122 : decode b_Reader_number 122 = .ok (.iload_n 1, 1) := by decide +kernel
theorem d_Reader_number_123 : decode b_Reader_number 123 = .ok (.invokevirtual 132, 3) := by decide +kernel
theorem d_Reader_number_126 : decode b_Reader_number 126 = .ok (.aload_n 0, 1) := by decide +kernel
theorem d_Reader_number_127 : decode b_Reader_number 127 = .ok (.iload_n 2, 1) := by decide +kernel
theorem d_Reader_number_128 : decode b_Reader_number 128 = .ok (.iload_n 3, 1) := by decide +kernel
theorem d_Reader_number_129 : decode b_Reader_number 129 = .ok (.invokevirtual 132, 3) := by decide +kernel
theorem d_Reader_number_132 : decode b_Reader_number 132 = .ok (.invokevirtual 67, 3) := by decide +kernel
theorem d_Reader_number_135 : decode b_Reader_number 135 = .ok (.pop, 1) := by decide +kernel
theorem d_Reader_number_136 : decode b_Reader_number 136 = .ok (.aload_n 0, 1) := by decide +kernel
theorem d_Reader_number_137 : decode b_Reader_number 137 = .ok (.iload 4, 2) := by decide +kernel
theorem d_Reader_number_139 : decode b_Reader_number 139 = .ok (.iconst 1, 1) := by decide +kernel
theorem d_Reader_number_140 : decode b_Reader_number 140 = .ok (.iadd, 1) := by decide +kernel
theorem d_Reader_number_141 : decode b_Reader_number 141 = .ok (.putfield 19, 3) := by decide +kernel
theorem d_Reader_number_144 : decode b_Reader_number 144 = .ok (.goto 32, 3) := by decide +kernel
theorem d_Reader_number_147 : decode b_Reader_number 147 = .ok (.aload_n 0, 1) := by decide +kernel
theorem d_Reader_number_148 : decode b_Reader_number 148 = .ok (.getfield 15, 3) := by decide +kernel
theorem d_Reader_number_151 : decode b_Reader_number 151 = .ok (.iconst 3, 1) := by decide +kernel
theorem d_Reader_number_152 : decode b_Reader_number 152 = .ok (.aload_n 0, 1) := by decide +kernel
theorem d_Reader_number_153 : decode b_Reader_number 153 = .ok (.aload_n 0, 1) := by decide +kernel
theorem d_Reader_number_154 : decode b_Reader_number 154 = .ok (.getfield 19, 3) := by decide +kernel
theorem d_Reader_number_157 : decode b_Reader_number 157 = .ok (.iload_n 1, 1) := by decide +kernel
theorem d_Reader_number_158 : decode b_Reader_number 158 = .ok (.invokevirtual 132, 3) := by decide +kernel
theorem d_Reader_number_161 : decode b_Reader_number 161 = .ok (.iconst 0, 1) := by decide +kernel
theorem d_Reader_number_162 : decode b_Reader_number 162 = .ok (.invokevirtual 67, 3) := by decide +kernel
theorem d_Reader_number_165 : decode b_Reader_number 165 = .ok (.pop, 1) := by decide +kernel
theorem d_Reader_number_166 : decode b_Reader_number 166 = .ok (.aload_n 0, 1) := by decide +kernel
theorem d_Reader_number_167 : decode b_Reader_number 167 = .ok (.dup, 1) := by decide +kernel
theorem d_Reader_number_168 : decode b_Reader_number 168 = .ok (.getfield 19, 3) := by decide +kernel
theorem d_Reader_number_171 : decode b_Reader_number 171 = .ok (.iload_n 1, 1) := by decide +kernel
theorem d_Reader_number_172 : decode b_Reader_number 172 = .ok (.iadd, 1) := by decide +kernel
theorem d_Reader_number_173 : decode b_Reader_number 173 = .ok (.putfield 19, 3) := by decide +kernel
theorem d_Reader_number_176 : decode b_Reader_number 176 = .ok (.iconst 1, 1) := by decide +kernel
theorem d_Reader_number_177 : decode b_Reader_number 177 = .ok (.ireturn, 1) := by decide +kernel
theorem d_Reader_isBelow_0 : decode b_Reader_isBelow 0 = .ok (.aload_n 0, 1) := by decide +kernel
theorem d_Reader_isBelow_1 : decode b_Reader_isBelow 1 = .ok (.iload_n 2, 1) := by decide +kernel
theorem d_Reader_isBelow_2 : decode b_Reader_isBelow 2 = .ok (.iload_n 3, 1) := by decide +kernel
theorem d_Reader_isBelow_3 : decode b_Reader_isBelow 3 = .ok (.invokevirtual 123, 3) := by decide +kernel
theorem d_Reader_isBelow_6 : decode b_Reader_isBelow 6 = .ok (.ifCond .eq 30, 3) := by decide +kernel
theorem d_Reader_isBelow_9 : decode b_Reader_isBelow 9 = .ok (.aload_n 0, 1) := by decide +kernel
theorem d_Reader_isBelow_10 : decode b_Reader_isBelow 10 = .ok (.getfield 9, 3) := by decide +kernel
theorem d_Reader_isBelow_13 : decode b_Reader_isBelow 13 = .ok (.iload_n 2, 1) := by decide +kernel
theorem d_Reader_isBelow_14 : decode b_Reader_isBelow 14 = .ok (.invokevirtual 42, 3) := by decide +kernel
theorem d_Reader_isBelow_17 : decode b_Reader_isBelow 17 = .ok (.bipush 45, 2) := by decide +kernel
theorem d_Reader_isBelow_19 : decode b_Reader_isBelow 19 = .ok (.if_icmp .eq 17, 3) := by decide +kernel
theorem d_Reader_isBelow_22 : decode b_Reader_isBelow 22 = .ok (.aload_n 0, 1) := by decide +kernel
theorem d_Reader_isBelow_23 : decode b_Reader_isBelow 23 = .ok (.iload_n 2, 1) := by decide +kernel
theorem d_Reader_isBelow_24 : decode b_Reader_isBelow 24 = .ok (.iload_n 3, 1) := by decide +kernel
theorem d_Reader_isBelow_25 : decode b_Reader_isBelow 25 = .ok (.invokevirtual 132, 3) := by decide +kernel
theorem d_Reader_isBelow_28 : decode b_Reader_isBelow 28 = .ok (.iload_n 1, 1) := by decide +kernel
theorem d_Reader_isBelow_29 : decode b_Reader_isBelow 29 = .ok (.if_icmp .ge 7, 3) := by decide +kernel
theorem d_Reader_isBelow_32 : decode b_Reader_isBelow 32 = .ok (.iconst 1, 1) := by decide +kernel
theorem d_Reader_isBelow_33 : decode b_Reader_isBelow 33 = .ok (.goto 4, 3) := by decide +kernel
theorem d_Reader_isBelow_36 : decode b_Reader_isBelow 36 = .ok (.iconst 0, 1) := by decide +kernel
theorem d_Reader_isBelow_37 : decode b_Reader_isBelow 37 = .ok (.ireturn, 1) := by decide +kernel
theorem d_Reader_isInt_0 : decode b_Reader_isInt 0 = .ok (.aload_n 0, 1) := by decide +kernel
theorem d_Reader_isInt_1 : decode b_Reader_isInt 1 = .ok (.getfield 9, 3) := by decide +kernel
theorem d_Reader_isInt_4 : decode b_Reader_isInt 4 = .ok (.iload_n 1, 1) := by decide +kernel
theorem d_Reader_isInt_5 : decode b_Reader_isInt 5 = .ok (.invokevirtual 42, 3) := by decide +kernel
theorem d_Reader_isInt_8 : decode b_Reader_isInt 8 = .ok (.bipush 45, 2) := by decide +kernel
theorem d_Reader_isInt_10 : decode b_Reader_isInt 10 = .ok (.if_icmp .ne 7, 3) := by decide +kernel
theorem d_Reader_isInt_13 : decode b_Reader_isInt 13 = .ok (.iconst 1, 1) := by decide +kernel
theorem d_Reader_isInt_14 : decode b_Reader_isInt 14 = .ok (.goto 4, 3) := by decide +kernel
theorem d_Reader_isInt_17 : decode b_Reader_isInt 17 = .ok (.iconst 0, 1) := by decide +kernel
theorem d_Reader_isInt_18 : decode b_Reader_isInt 18 = .ok (.istore_n 3, 1) := by decide +kernel
theorem d_Reader_isInt_19 : decode b_Reader_isInt 19 = .ok (.iload_n 2, 1) := by decide +kernel
theorem d_Reader_isInt_20 : decode b_Reader_isInt 20 = .ok (.iload_n 3, 1) := by decide +kernel
theorem d_Reader_isInt_21 : decode b_Reader_isInt 21 = .ok (.isub, 1) := by decide +kernel
theorem d_Reader_isInt_22 : decode b_Reader_isInt 22 = .ok (.istore 4, 2) := by decide +kernel
theorem d_Reader_isInt_24 : decode b_Reader_isInt 24 = .ok (.iload 4, 2) := by decide +kernel
theorem d_Reader_isInt_26 : decode b_Reader_isInt 26 = .ok (.iconst 1, 1) := by decide +kernel
theorem d_Reader_isInt_27 : decode b_Reader_isInt 27 = .ok (.if_icmp .lt 10, 3) := by decide +kernel
theorem d_Reader_isInt_30 : decode b_Reader_isInt 30 = .ok (.iload 4, 2) := by decide +kernel
theorem d_Reader_isInt_32 : decode b_Reader_isInt 32 = .ok (.bipush 9, 2) := by decide +kernel
theorem d_Reader_isInt_34 : decode b_Reader_isInt 34 = .ok (.if_icmp .le 5, 3) := by decide +kernel
theorem d_Reader_isInt_37 : decode b_Reader_isInt 37 = .ok (.iconst 0, 1) := by decide +kernel
theorem d_Reader_isInt_38 : decode b_Reader_isInt 38 = .ok (.ireturn, 1) := by decide +kernel
theorem d_Reader_isInt_39 : decode b_Reader_isInt 39 = .ok (.iload_n 3, 1) := by decide +kernel
theorem d_Reader_isInt_40 : decode b_Reader_isInt 40 = .ok (.istore 5, 2) := by decide +kernel
theorem d_Reader_isInt_42 : decode b_Reader_isInt 42 = .ok (.iload 5, 2) := by decide +kernel
theorem d_Reader_isInt_44 : decode b_Reader_isInt 44 = .ok (.iload_n 2, 1) := by decide +kernel
theorem d_Reader_isInt_45 : decode b_Reader_isInt 45 = .ok (.if_icmp .ge 38, 3) := by decide +kernel
theorem d_Reader_isInt_48 : decode b_Reader_isInt 48 = .ok (.aload_n 0, 1) := by decide +kernel
theorem d_Reader_isInt_49 : decode b_Reader_isInt 49 = .ok (.getfield 9, 3) := by decide +kernel
theorem d_Reader_isInt_52 : decode b_Reader_isInt 52 = .ok (.iload_n 1, 1) := by decide +kernel
theorem d_Reader_isInt_53 : decode b_Reader_isInt 53 = .ok (.iload 5, 2) := by decide +kernel
theorem d_Reader_isInt_55 : decode b_Reader_isInt 55 = .ok (.iadd, 1) := by decide +kernel
theorem d_Reader_isInt_56 : decode b_Reader_isInt 56 = .ok (.invokevirtual 42, 3) := by decide +kernel
theorem d_Reader_isInt_59 : decode b_Reader_isInt 59 = .ok (.istore 6, 2) := by decide +kernel
theorem d_Reader_isInt_61 : decode b_Reader_isInt 61 = .ok (.iload 6, 2) := by decide +kernel
theorem d_Reader_isInt_63 : decode b_Reader_isInt 63 = .ok (.bipush 48, 2) := by decide +kernel
theorem d_Reader_isInt_65 : decode b_Reader_isInt 65 = .ok (.if_icmp .lt 10, 3) := by decide +kernel
theorem d_Reader_isInt_68 : decode b_Reader_isInt 68 = .ok (.iload 6, 2) := by decide +kernel
theorem d_Reader_isInt_70 : decode b_Reader_isInt 70 = .ok (.bipush 57, 2) := by decide +kernel
theorem d_Reader_isInt_72 : decode b_Reader_isInt 72 = .ok (.if_icmp .le 5, 3) := by decide +kernel
theorem d_Reader_isInt_75 : decode b_Reader_isInt 75 = .ok (.iconst 0, 1) := by decide +kernel
theorem d_Reader_isInt_76 : decode b_Reader_isInt 76 = .ok (.ireturn, 1) := by decide +kernel
theorem d_Reader_isInt_77 : decode b_Reader_isInt 77 = .ok (.iinc 5 1, 3) := by decide +kernel
theorem d_Reader_isInt_80 : decode b_Reader_isInt 80 = .ok (.goto (-38), 3) := by decide +kernel
theorem d_Reader_isInt_83 : decode b_Reader_isInt 83 = .ok (.iconst 1, 1) := by decide +kernel
theorem d_Reader_isInt_84 : decode b_Reader_isInt 84 = .ok (.ireturn, 1) := by decide +kernel
theorem d_Reader_numberAt_0 : decode b_Reader_numberAt 0 = .ok (.aload_n 0, 1) := by decide +kernel
theorem d_Reader_numberAt_1 : decode b_Reader_numberAt 1 = .ok (.getfield 9, 3) := by decide +kernel
theorem d_Reader_numberAt_4 : decode b_Reader_numberAt 4 = .ok (.iload_n 1, 1) := by decide +kernel
theorem d_Reader_numberAt_5 : decode b_Reader_numberAt 5 = .ok (.invokevirtual 42, 3) := by decide +kernel
theorem d_Reader_numberAt_8 : decode b_Reader_numberAt 8 = .ok (.bipush 45, 2) := by decide +kernel
theorem d_Reader_numberAt_10 : decode b_Reader_numberAt 10 = .ok (.if_icmp .ne 7, 3) := by decide +kernel
theorem d_Reader_numberAt_13 : decode b_Reader_numberAt 13 = .ok (.iconst 1, 1) := by decide +kernel
theorem d_Reader_numberAt_14 : decode b_Reader_numberAt 14 = .ok (.goto 4, 3) := by decide +kernel
theorem d_Reader_numberAt_17 : decode b_Reader_numberAt 17 = .ok (.iconst 0, 1) := by decide +kernel
theorem d_Reader_numberAt_18 : decode b_Reader_numberAt 18 = .ok (.istore_n 3, 1) := by decide +kernel
theorem d_Reader_numberAt_19 : decode b_Reader_numberAt 19 = .ok (.iconst 0, 1) := by decide +kernel
theorem d_Reader_numberAt_20 : decode b_Reader_numberAt 20 = .ok (.istore 4, 2) := by decide +kernel
theorem d_Reader_numberAt_22 : decode b_Reader_numberAt 22 = .ok (.iload_n 3, 1) := by decide +kernel
theorem d_Reader_numberAt_23 : decode b_Reader_numberAt 23 = .ok (.istore 5, 2) := by decide +kernel
theorem d_Reader_numberAt_25 : decode b_Reader_numberAt 25 = .ok (.iload 5, 2) := by decide +kernel
theorem d_Reader_numberAt_27 : decode b_Reader_numberAt 27 = .ok (.iload_n 2, 1) := by decide +kernel
theorem d_Reader_numberAt_28 : decode b_Reader_numberAt 28 = .ok (.if_icmp .ge 31, 3) := by decide +kernel
theorem d_Reader_numberAt_31 : decode b_Reader_numberAt 31 = .ok (.iload 4, 2) := by decide +kernel
theorem d_Reader_numberAt_33 : decode b_Reader_numberAt 33 = .ok (.bipush 10, 2) := by decide +kernel
theorem d_Reader_numberAt_35 : decode b_Reader_numberAt 35 = .ok (.imul, 1) := by decide +kernel
theorem d_Reader_numberAt_36 : decode b_Reader_numberAt 36 = .ok (.aload_n 0, 1) := by decide +kernel
theorem d_Reader_numberAt_37 : decode b_Reader_numberAt 37 = .ok (.getfield 9, 3) := by decide +kernel
theorem d_Reader_numberAt_40 : decode b_Reader_numberAt 40 = .ok (.iload_n 1, 1) := by decide +kernel
theorem d_Reader_numberAt_41 : decode b_Reader_numberAt 41 = .ok (.iload 5, 2) := by decide +kernel
theorem d_Reader_numberAt_43 : decode b_Reader_numberAt 43 = .ok (.iadd, 1) := by decide +kernel
theorem d_Reader_numberAt_44 : decode b_Reader_numberAt 44 = .ok (.invokevirtual 42, 3) := by decide +kernel
theorem d_Reader_numberAt_47 : decode b_Reader_numberAt 47 = .ok (.iadd, 1) := by decide +kernel
theorem d_Reader_numberAt_48 : decode b_Reader_numberAt 48 = .ok (.bipush 48, 2) := by decide +kernel
theorem d_Reader_numberAt_50 : decode b_Reader_numberAt 50 = .ok (.isub, 1) := by decide +kernel
theorem d_Reader_numberAt_51 : decode b_Reader_numberAt 51 = .ok (.istore 4, 2) := by decide +kernel
theorem d_Reader_numberAt_53 : decode b_Reader_numberAt 53 = .ok (.iinc 5 1, 3) := by decide +kernel
theorem d_Reader_numberAt_56 : decode b_Reader_numberAt 56 = .ok (.goto (-31), 3) := by decide +kernel
theorem d_Reader_numberAt_59 : decode b_Reader_numberAt 59 = .ok (.iload_n 3, 1) := by decide +kernel
theorem d_Reader_numberAt_60 : decode b_Reader_numberAt 60 = .ok (.iconst 1, 1) := by decide +kernel
theorem d_Reader_numberAt_61 : decode b_Reader_numberAt 61 = .ok (.if_icmp .ne 9, 3) := by decide +kernel
theorem d_Reader_numberAt_64 : decode b_Reader_numberAt 64 = .ok (.iload 4, 2) := by decide +kernel
theorem d_Reader_numberAt_66 : decode b_Reader_numberAt 66 = .ok (.ineg, 1) := by decide +kernel
theorem d_Reader_numberAt_67 : decode b_Reader_numberAt 67 = .ok (.goto 5, 3) := by decide +kernel
theorem d_Reader_numberAt_70 : decode b_Reader_numberAt 70 = .ok (.iload 4, 2) := by decide +kernel
theorem d_Reader_numberAt_72 : decode b_Reader_numberAt 72 = .ok (.ireturn, 1) := by decide +kernel
theorem d_Reader_wordLength_0 : decode b_Reader_wordLength 0 = .ok (.iload_n 1, 1) := by decide +kernel
theorem d_Reader_wordLength_1 : decode b_Reader_wordLength 1 = .ok (.istore_n 2, 1) := by decide +kernel
theorem d_Reader_wordLength_2 : decode b_Reader_wordLength 2 = .ok (.iload_n 2, 1) := by decide +kernel
theorem d_Reader_wordLength_3 : decode b_Reader_wordLength 3 = .ok (.aload_n 0, 1) := by decide +kernel
theorem d_Reader_wordLength_4 : decode b_Reader_wordLength 4 = .ok (.getfield 9, 3) := by decide +kernel
theorem d_Reader_wordLength_7 : decode b_Reader_wordLength 7 = .ok (.invokevirtual 36, 3) := by decide +kernel
theorem d_Reader_wordLength_10 : decode b_Reader_wordLength 10 = .ok (.if_icmp .ge 23, 3) := by decide +kernel
theorem d_Reader_wordLength_13 : decode b_Reader_wordLength 13 = .ok (.aload_n 0, 1) := by decide +kernel
theorem d_Reader_wordLength_14 : decode b_Reader_wordLength 14 = .ok (.getfield 9, 3) := by decide +kernel
theorem d_Reader_wordLength_17 : decode b_Reader_wordLength 17 = .ok (.iload_n 2, 1) := by decide +kernel
theorem d_Reader_wordLength_18 : decode b_Reader_wordLength 18 = .ok (.invokevirtual 42, 3) := by decide +kernel
theorem d_Reader_wordLength_21 : decode b_Reader_wordLength 21 = .ok (.invokestatic 136, 3) := by decide +kernel
theorem d_Reader_wordLength_24 : decode b_Reader_wordLength 24 = .ok (.ifCond .eq 9, 3) := by decide +kernel
theorem d_Reader_wordLength_27 : decode b_Reader_wordLength 27 = .ok (.iinc 2 1, 3) := by decide +kernel
theorem d_Reader_wordLength_30 : decode b_Reader_wordLength 30 = .ok (.goto (-28), 3) := by decide +kernel
theorem d_Reader_wordLength_33 : decode b_Reader_wordLength 33 = .ok (.iload_n 2, 1) := by decide +kernel
theorem d_Reader_wordLength_34 : decode b_Reader_wordLength 34 = .ok (.iload_n 1, 1) := by decide +kernel
theorem d_Reader_wordLength_35 : decode b_Reader_wordLength 35 = .ok (.isub, 1) := by decide +kernel
theorem d_Reader_wordLength_36 : decode b_Reader_wordLength 36 = .ok (.ireturn, 1) := by decide +kernel
theorem d_Reader_isRegular_0 : decode b_Reader_isRegular 0 = .ok (.iload_n 0, 1) := by decide +kernel
theorem d_Reader_isRegular_1 : decode b_Reader_isRegular 1 = .ok (.lookupswitch 69 #[(40, 67), (41, 67), (47, 67), (60, 67), (62, 67), (91, 67), (93, 67)], 67) := by decide +kernel
theorem d_Reader_isRegular_68 : decode b_Reader_isRegular 68 = .ok (.iconst 0, 1) := by decide +kernel
theorem d_Reader_isRegular_69 : decode b_Reader_isRegular 69 = .ok (.ireturn, 1) := by decide +kernel
theorem d_Reader_isRegular_70 : decode b_Reader_isRegular 70 = .ok (.iload_n 0, 1) := by decide +kernel
theorem d_Reader_isRegular_71 : decode b_Reader_isRegular 71 = .ok (.bipush 33, 2) := by decide +kernel
theorem d_Reader_isRegular_73 : decode b_Reader_isRegular 73 = .ok (.if_icmp .lt 13, 3) := by decide +kernel
theorem d_Reader_isRegular_76 : decode b_Reader_isRegular 76 = .ok (.iload_n 0, 1) := by decide +kernel
theorem d_Reader_isRegular_77 : decode b_Reader_isRegular 77 = .ok (.bipush 126, 2) := by decide +kernel
theorem d_Reader_isRegular_79 : decode b_Reader_isRegular 79 = .ok (.if_icmp .gt 7, 3) := by decide +kernel
theorem d_Reader_isRegular_82 : decode b_Reader_isRegular 82 = .ok (.iconst 1, 1) := by decide +kernel
theorem d_Reader_isRegular_83 : decode b_Reader_isRegular 83 = .ok (.goto 4, 3) := by decide +kernel
theorem d_Reader_isRegular_86 : decode b_Reader_isRegular 86 = .ok (.iconst 0, 1) := by decide +kernel
theorem d_Reader_isRegular_87 : decode b_Reader_isRegular 87 = .ok (.ireturn, 1) := by decide +kernel
theorem d_Reader_afterWhite_0 : decode b_Reader_afterWhite 0 = .ok (.iload_n 1, 1) := by decide +kernel
theorem d_Reader_afterWhite_1 : decode b_Reader_afterWhite 1 = .ok (.istore_n 2, 1) := by decide +kernel
theorem d_Reader_afterWhite_2 : decode b_Reader_afterWhite 2 = .ok (.iload_n 2, 1) := by decide +kernel
theorem d_Reader_afterWhite_3 : decode b_Reader_afterWhite 3 = .ok (.aload_n 0, 1) := by decide +kernel
theorem d_Reader_afterWhite_4 : decode b_Reader_afterWhite 4 = .ok (.getfield 9, 3) := by decide +kernel
theorem d_Reader_afterWhite_7 : decode b_Reader_afterWhite 7 = .ok (.invokevirtual 36, 3) := by decide +kernel
theorem d_Reader_afterWhite_10 : decode b_Reader_afterWhite 10 = .ok (.if_icmp .ge 23, 3) := by decide +kernel
theorem d_Reader_afterWhite_13 : decode b_Reader_afterWhite 13 = .ok (.aload_n 0, 1) := by decide +kernel
theorem d_Reader_afterWhite_14 : decode b_Reader_afterWhite 14 = .ok (.getfield 9, 3) := by decide +kernel
theorem d_Reader_afterWhite_17 : decode b_Reader_afterWhite 17 = .ok (.iload_n 2, 1) := by decide +kernel
theorem d_Reader_afterWhite_18 : decode b_Reader_afterWhite 18 = .ok (.invokevirtual 42, 3) := by decide +kernel
theorem d_Reader_afterWhite_21 : decode b_Reader_afterWhite 21 = .ok (.invokestatic 139, 3) := by decide +kernel
theorem d_Reader_afterWhite_24 : decode b_Reader_afterWhite 24 = .ok (.ifCond .eq 9, 3) := by decide +kernel
theorem d_Reader_afterWhite_27 : decode b_Reader_afterWhite 27 = .ok (.iinc 2 1, 3) := by decide +kernel
theorem d_Reader_afterWhite_30 : decode b_Reader_afterWhite 30 = .ok (.goto (-28), 3) := by decide +kernel
theorem d_Reader_afterWhite_33 : decode b_Reader_afterWhite 33 = .ok (.iload_n 2, 1) := by decide +kernel
theorem d_Reader_afterWhite_34 : decode b_Reader_afterWhite 34 = .ok (.ireturn, 1) := by decide +kernel
theorem d_Reader_isWhite_0 : decode b_Reader_isWhite 0 = .ok (.iload_n 0, 1) := by decide +kernel
theorem d_Reader_isWhite_1 : decode b_Reader_isWhite 1 = .ok (.bipush 32, 2) := by decide +kernel
theorem d_Reader_isWhite_3 : decode b_Reader_isWhite 3 = .ok (.if_icmp .eq 15, 3) := by decide +kernel
theorem d_Reader_isWhite_6 : decode b_Reader_isWhite 6 = .ok (.iload_n 0, 1) := by decide +kernel
theorem d_Reader_isWhite_7 : decode b_Reader_isWhite 7 = .ok (.bipush 10, 2) := by decide +kernel
theorem d_Reader_isWhite_9 : decode b_Reader_isWhite 9 = .ok (.if_icmp .eq 9, 3) := by decide +kernel
theorem d_Reader_isWhite_12 : decode b_Reader_isWhite 12 = .ok (.iload_n 0, 1) := by decide +kernel
theorem d_Reader_isWhite_13 : decode b_Reader_isWhite 13 = .ok (.bipush 13, 2) := by decide +kernel
theorem d_Reader_isWhite_15 : decode b_Reader_isWhite 15 = .ok (.if_icmp .ne 7, 3) := by decide +kernel
theorem d_Reader_isWhite_18 : decode b_Reader_isWhite 18 = .ok (.iconst 1, 1) := by decide +kernel
theorem d_Reader_isWhite_19 : decode b_Reader_isWhite 19 = .ok (.goto 4, 3) := by decide +kernel
theorem d_Reader_isWhite_22 : decode b_Reader_isWhite 22 = .ok (.iconst 0, 1) := by decide +kernel
theorem d_Reader_isWhite_23 : decode b_Reader_isWhite 23 = .ok (.ireturn, 1) := by decide +kernel
end
section
theorem d_Str_charAt_0 : decode b_Str_charAt 0 = .ok (.aload_n 0, 1) := by decide +kernel
theorem d_Str_charAt_1 : decode b_Str_charAt 1 = .ok (.invokevirtual 492, 3) := by decide +kernel
theorem d_Str_charAt_4 : decode b_Str_charAt 4 = .ok (.ifCond .eq 12, 3) := by decide +kernel
theorem d_Str_charAt_7 : decode b_Str_charAt 7 = .ok (.aload_n 0, 1) := by decide +kernel
theorem d_Str_charAt_8 : decode b_Str_charAt 8 = .ok (.getfield 9, 3) := by decide +kernel
theorem d_Str_charAt_11 : decode b_Str_charAt 11 = .ok (.iload_n 1, 1) := by decide +kernel
theorem d_Str_charAt_12 : decode b_Str_charAt 12 = .ok (.invokestatic 495, 3) := by decide +kernel
theorem d_Str_charAt_15 : decode b_Str_charAt 15 = .ok (.ireturn, 1) := by decide +kernel
theorem d_Str_charAt_16 : decode b_Str_charAt 16 = .ok (.aload_n 0, 1) := by decide +kernel
theorem d_Str_charAt_17 : decode b_Str_charAt 17 = .ok (.getfield 9, 3) := by decide +kernel
theorem d_Str_charAt_20 : decode b_Str_charAt 20 = .ok (.iload_n 1, 1) := by decide +kernel
theorem d_Str_charAt_21 : decode b_Str_charAt 21 = .ok (.invokestatic 498, 3) := by decide +kernel
theorem d_Str_charAt_24 : decode b_Str_charAt 24 = .ok (.ireturn, 1) := by decide +kernel
theorem d_Str_checkIndex_0 : decode b_Str_checkIndex 0 = .ok (.iload_n 0, 1) := by decide +kernel
theorem d_Str_checkIndex_1 : decode b_Str_checkIndex 1 = .ok (.iload_n 1, 1) := by decide +kernel
theorem d_Str_checkIndex_2 : decode b_Str_checkIndex 2 = .ok (.getstatic 1053, 3) := by decide +kernel
theorem d_Str_checkIndex_5 : decode b_Str_checkIndex 5 = .ok (.invokestatic 1059, 3) := by decide +kernel
theorem d_Str_checkIndex_8 : decode b_Str_checkIndex 8 = .ok (.pop, 1) := by decide +kernel
theorem d_Str_checkIndex_9 : decode b_Str_checkIndex 9 = .ok (.return_, 1) := by decide +kernel
theorem d_Str_coder_0 : decode b_Str_coder 0 = .ok (.getstatic 38, 3) := by decide +kernel
theorem d_Str_coder_3 : decode b_Str_coder 3 = .ok (.ifCond .eq 10, 3) := by decide +kernel
theorem d_Str_coder_6 : decode b_Str_coder 6 = .ok (.aload_n 0, 1) := by decide +kernel
theorem d_Str_coder_7 : decode b_Str_coder 7 = .ok (.getfield 15, 3) := by decide +kernel
theorem d_Str_coder_10 : decode b_Str_coder 10 = .ok (.goto 4, 3) := by decide +kernel
theorem d_Str_coder_13 : decode b_Str_coder 13 = .ok (.iconst 1, 1) := by decide +kernel
theorem d_Str_coder_14 : decode b_Str_coder 14 = .ok (.ireturn, 1) := by decide +kernel
theorem d_Str_isLatin1_0 : decode b_Str_isLatin1 0 = .ok (.getstatic 38, 3) := by decide +kernel
theorem d_Str_isLatin1_3 : decode b_Str_isLatin1 3 = .ok (.ifCond .eq 14, 3) := by decide +kernel
theorem d_Str_isLatin1_6 : decode b_Str_isLatin1 6 = .ok (.aload_n 0, 1) := by decide +kernel
theorem d_Str_isLatin1_7 : decode b_Str_isLatin1 7 = .ok (.getfield 15, 3) := by decide +kernel
theorem d_Str_isLatin1_10 : decode b_Str_isLatin1 10 = .ok (.ifCond .ne 7, 3) := by decide +kernel
theorem d_Str_isLatin1_13 : decode b_Str_isLatin1 13 = .ok (.iconst 1, 1) := by decide +kernel
theorem d_Str_isLatin1_14 : decode b_Str_isLatin1 14 = .ok (.goto 4, 3) := by decide +kernel
theorem d_Str_isLatin1_17 : decode b_Str_isLatin1 17 = .ok (.iconst 0, 1) := by decide +kernel
theorem d_Str_isLatin1_18 : decode b_Str_isLatin1 18 = .ok (.ireturn, 1) := by decide +kernel
theorem d_Str_length_0 : decode b_Str_length 0 = .ok (.aload_n 0, 1) := by decide +kernel
theorem d_Str_length_1 : decode b_Str_length 1 = .ok (.getfield 9, 3) := by decide +kernel
theorem d_Str_length_4 : decode b_Str_length 4 = .ok (.arraylength, 1) := by decide +kernel
theorem d_Str_length_5 : decode b_Str_length 5 = .ok (.aload_n 0, 1) := by decide +kernel
theorem d_Str_length_6 : decode b_Str_length 6 = .ok (.invokevirtual 335, 3) := by decide +kernel
theorem d_Str_length_9 : decode b_Str_length 9 = .ok (.ishr, 1) := by decide +kernel
theorem d_Str_length_10 : decode b_Str_length 10 = .ok (.ireturn, 1) := by decide +kernel
theorem d_SL_charAt_0 : decode b_SL_charAt 0 = .ok (.iload_n 1, 1) := by decide +kernel
theorem d_SL_charAt_1 : decode b_SL_charAt 1 = .ok (.aload_n 0, 1) := by decide +kernel
theorem d_SL_charAt_2 : decode b_SL_charAt 2 = .ok (.arraylength, 1) := by decide +kernel
theorem d_SL_charAt_3 : decode b_SL_charAt 3 = .ok (.invokestatic 9, 3) := by decide +kernel
theorem d_SL_charAt_6 : decode b_SL_charAt 6 = .ok (.aload_n 0, 1) := by decide +kernel
theorem d_SL_charAt_7 : decode b_SL_charAt 7 = .ok (.iload_n 1, 1) := by decide +kernel
theorem d_SL_charAt_8 : decode b_SL_charAt 8 = .ok (.baload, 1) := by decide +kernel
theorem d_SL_charAt_9 : decode b_SL_charAt 9 = .ok (.sipush 255, 3) := by decide +kernel
theorem d_SL_charAt_12 : decode b_SL_charAt 12 = .ok (.iand, 1) := by decide +kernel
theorem d_SL_charAt_13 : decode b_SL_charAt 13 = .ok (.i2c, 1) := by decide +kernel
theorem d_SL_charAt_14 : decode b_SL_charAt 14 = .ok (.ireturn, 1) := by decide +kernel
theorem d_Pre_checkIndex_0 : decode b_Pre_checkIndex 0 = .ok (.iload_n 0, 1) := by decide +kernel
theorem d_Pre_checkIndex_1 : decode b_Pre_checkIndex 1 = .ok (.ifCond .lt 8, 3) := by decide +kernel
theorem d_Pre_checkIndex_4 : decode b_Pre_checkIndex 4 = .ok (.iload_n 0, 1) := by decide +kernel
theorem d_Pre_checkIndex_5 : decode b_Pre_checkIndex 5 = .ok (.iload_n 1, 1) := by decide +kernel
theorem d_Pre_checkIndex_6 : decode b_Pre_checkIndex 6 = .ok (.if_icmp .lt 10, 3) := by decide +kernel
theorem d_Pre_checkIndex_9 : decode b_Pre_checkIndex 9 = .ok (.aload_n 2, 1) := by decide +kernel
theorem d_Pre_checkIndex_10 : decode b_Pre_checkIndex 10 = .ok (.iload_n 0, 1) := by decide +kernel
theorem d_Pre_checkIndex_11 : decode b_Pre_checkIndex 11 = .ok (.iload_n 1, 1) := by decide +kernel
theorem d_Pre_checkIndex_12 : decode b_Pre_checkIndex 12 = .ok (.invokestatic 95, 3) := by decide +kernel
theorem d_Pre_checkIndex_15 : decode b_Pre_checkIndex 15 = .ok (.athrow, 1) := by decide +kernel
theorem d_Pre_checkIndex_16 : decode b_Pre_checkIndex 16 = .ok (.iload_n 0, 1) := by decide +kernel
theorem d_Pre_checkIndex_17 : decode b_Pre_checkIndex 17 = .ok (.ireturn, 1) := by decide +kernel
end
section
def rm_Str_coder : Room := { frames := 0, cells := 0, slots := 0, locals := 0 }
set_option maxHeartbeats 4000000 in
set_option maxRecDepth 100000 in
theorem c_Str_coder (l : Launch) (G : GG) (k : Nat) (hk : k < nS) : MI l y_Str_coder b_Str_coder 1 .byte rm_Str_coder G [.ref (G.2.2.1 k)] [] (fun (v : Int32) (u : Unit) => (0 = v)) (fun (u : Unit) => []) 0 0 := by
  refine MI.of (cc := b_Str_coder) (maxL := 1) (ty := .byte) (C := R_Str) (by decide +kernel) rfl (Nat.le_of_ble_eq_true rfl) ?_
  intro p e s m args below meth c A Q H ls hx hb hml hown hw hE hA hP hD hS ret hl
  have hl : lv_has ls 1 [(0, .ref (G.2.2.1 k))] := hl
  refine va_gets (v := .int 1) hx hb hE.2.2.1 hS hown (hw _ m_273) (fun _ h9 => h9) d_Str_coder_0 ?_
  refine lv_if_eq (tgt := 13) hx hb d_Str_coder_3 (by decide) (fun c_1 => ?_) (fun c_1 => ?_)
  · exact absurd c_1 (by decide)
  · refine lv_aload_n hx hb d_Str_coder_6 rfl (lv_at hl 0 rfl) ?_
    refine vk_getf (v := .int 0) hx hb (((hE.2.1 k hk).1.1 0 (by decide)).2.1) hS hown (hw _ m_745) (fun _ h9 => h9) d_Str_coder_7 ?_
    refine lv_goto (tgt := 14) hx hb d_Str_coder_10 (by decide) ?_
    exact ret 0 () (Nat.le_of_ble_eq_true rfl) (Nat.le_of_ble_eq_true rfl) d_Str_coder_14 rfl rfl (hP.sub [] rfl) (hD.sub [] (by decide) rfl) hS
def rm_Str_isLatin1 : Room := { frames := 0, cells := 0, slots := 0, locals := 0 }
set_option maxHeartbeats 4000000 in
set_option maxRecDepth 100000 in
theorem c_Str_isLatin1 (l : Launch) (G : GG) (k : Nat) (hk : k < nS) : MI l y_Str_isLatin1 b_Str_isLatin1 1 .boolean rm_Str_isLatin1 G [.ref (G.2.2.1 k)] [] (fun (v : Int32) (u : Unit) => (1 = v)) (fun (u : Unit) => []) 0 0 := by
  refine MI.of (cc := b_Str_isLatin1) (maxL := 1) (ty := .boolean) (C := R_Str) (by decide +kernel) rfl (Nat.le_of_ble_eq_true rfl) ?_
  intro p e s m args below meth c A Q H ls hx hb hml hown hw hE hA hP hD hS ret hl
  have hl : lv_has ls 1 [(0, .ref (G.2.2.1 k))] := hl
  refine va_gets (v := .int 1) hx hb hE.2.2.1 hS hown (hw _ m_273) (fun _ h9 => h9) d_Str_isLatin1_0 ?_
  refine lv_if_eq (tgt := 17) hx hb d_Str_isLatin1_3 (by decide) (fun c_1 => ?_) (fun c_1 => ?_)
  · exact absurd c_1 (by decide)
  · refine lv_aload_n hx hb d_Str_isLatin1_6 rfl (lv_at hl 0 rfl) ?_
    refine vk_getf (v := .int 0) hx hb (((hE.2.1 k hk).1.1 0 (by decide)).2.1) hS hown (hw _ m_745) (fun _ h9 => h9) d_Str_isLatin1_7 ?_
    refine lv_if_ne (tgt := 17) hx hb d_Str_isLatin1_10 (by decide) (fun c_2 => ?_) (fun c_2 => ?_)
    · exact absurd c_2 (by decide)
    · refine lv_iconst (v := 1) hx hb d_Str_isLatin1_13 (by decide) ?_
      refine lv_goto (tgt := 18) hx hb d_Str_isLatin1_14 (by decide) ?_
      exact ret 1 () (Nat.le_of_ble_eq_true rfl) (Nat.le_of_ble_eq_true rfl) d_Str_isLatin1_18 rfl rfl (hP.sub [] rfl) (hD.sub [] (by decide) rfl) hS
def rm_Str_length : Room := { frames := 1, cells := 0, slots := 0, locals := 20 }
set_option maxHeartbeats 4000000 in
set_option maxRecDepth 100000 in
theorem c_Str_length (l : Launch) (G : GG) (k : Nat) (hk : k < nS) : MI l y_Str_length b_Str_length 1 .int rm_Str_length G [.ref (G.2.2.1 k)] [] (fun (v : Int32) (u : Unit) => (nI (lenS.getD k 0) = v)) (fun (u : Unit) => []) 0 0 := by
  refine MI.of (cc := b_Str_length) (maxL := 1) (ty := .int) (C := R_Str) (by decide +kernel) rfl (Nat.le_of_ble_eq_true rfl) ?_
  intro p e s m args below meth c A Q H ls hx hb hml hown hw hE hA hP hD hS ret hl
  have hl : lv_has ls 1 [(0, .ref (G.2.2.1 k))] := hl
  refine lv_aload_n hx hb d_Str_length_0 rfl (lv_at hl 0 rfl) ?_
  refine vk_getf (v := .ref (G.2.2.2 k)) hx hb (((hE.2.1 k hk).1.1 0 (by decide)).2.2.1) hS hown (hw _ m_744) (fun _ h9 => h9) d_Str_length_1 ?_
  refine va_tlen (v := nI (lenS.getD k 0)) hx hb (((hE.2.1 k hk).1.1 0 (by decide)).2.2.2) hS rfl d_Str_length_4 ?_
  refine lv_aload_n hx hb d_Str_length_5 rfl (lv_at hl 0 rfl) ?_
  refine gc_i (wr := []) (gc_V (wc := []) (As := []) (rest := [.int (nI (lenS.getD k 0))]) ⟨hx, hb, hml, hown, hw⟩ (c_Str_coder l G k hk H.size) (cwV 0 hw (good_V m_269 m_270 m_271 m_6 m_272) rfl rfl rfl hy_Str_coder ⟨Nat.le_of_ble_eq_true rfl, Nat.le_of_ble_eq_true rfl⟩) hE hP hD hS hA (vk_recv (hE.2.1 k hk).1 (i := 0) (by decide) hS) [] rfl (by decide) rfl hl rfl (Nat.le_of_ble_eq_true rfl) d_Str_length_6 ⟨Nat.le_of_ble_eq_true rfl, Nat.le_of_ble_eq_true rfl⟩) hP hD hS hA [] [] rfl rfl (by decide) (by decide) (fun r_1 u_2 H locs hw_3 hP hD hS => ?_)
  try dsimp only at hw_3
  have h_4 := hw_3
  subst h_4
  have hP : va_P G.1 vwCl [] H := hP
  have hD : va_D A [] := hD
  refine lv_ishr hx hb d_Str_length_9 ?_
  refine lv_topi (fun y_5 ey_5 => ?_)
  exact ret y_5 () (Nat.le_of_ble_eq_true rfl) (Nat.le_of_ble_eq_true rfl) d_Str_length_10 rfl (by rw [ey_5]; exact (sb_shr0 _).symm) (hP.sub [] rfl) (hD.sub [] (by decide) rfl) hS
def rm_Pre_checkIndex_0 : Room := { frames := 0, cells := 0, slots := 0, locals := 0 }
set_option maxHeartbeats 4000000 in
set_option maxRecDepth 100000 in
theorem c_Pre_checkIndex_0 (l : Launch) (G : GG) (i : Int32) (n : Int32) (hi : 0 ≤ i.toInt ∧ i.toInt < n.toInt) : MI l y_Pre_checkIndex b_Pre_checkIndex 3 .int rm_Pre_checkIndex_0 G [.int i, .int n, .null] [] (fun (v : Int32) (u : Unit) => True) (fun (u : Unit) => []) 0 0 := by
  refine MI.of (cc := b_Pre_checkIndex) (maxL := 3) (ty := .int) (C := R_Pre) (by decide +kernel) rfl (Nat.le_of_ble_eq_true rfl) ?_
  intro p e s m args below meth c A Q H ls hx hb hml hown hw hE hA hP hD hS ret hl
  have hl : lv_has ls 3 [(0, .int i), (1, .int n), (2, .null)] := hl
  refine lv_iload_n hx hb d_Pre_checkIndex_0 rfl (lv_at hl 0 rfl) ?_
  refine lv_if_lt (tgt := 9) hx hb d_Pre_checkIndex_1 (by decide) (fun c_1 => ?_) (fun c_1 => ?_)
  · exact absurd hi (by first | (rw [z_lt, z_0] at c_1; omega) | (rw [z_lt] at c_2; omega))
  · refine lv_iload_n hx hb d_Pre_checkIndex_4 rfl (lv_at hl 0 rfl) ?_
    refine lv_iload_n hx hb d_Pre_checkIndex_5 rfl (lv_at hl 1 rfl) ?_
    refine lv_icmp_lt (tgt := 16) hx hb d_Pre_checkIndex_6 (by decide) (fun c_2 => ?_) (fun c_2 => ?_)
    · refine lv_iload_n hx hb d_Pre_checkIndex_16 rfl (lv_at hl 0 rfl) ?_
      exact ret i () (Nat.le_of_ble_eq_true rfl) (Nat.le_of_ble_eq_true rfl) d_Pre_checkIndex_17 rfl trivial (hP.sub [] rfl) (hD.sub [] (by decide) rfl) hS
    · exact absurd hi (by first | (rw [z_lt, z_0] at c_1; omega) | (rw [z_lt] at c_2; omega))
def rm_Pre_checkIndex_1 : Room := { frames := 0, cells := 0, slots := 0, locals := 0 }
set_option maxHeartbeats 4000000 in
set_option maxRecDepth 100000 in
theorem c_Pre_checkIndex_1 (l : Launch) (G : GG) (i : Int32) (n : Int32) (q : Nat) (hi : 0 ≤ i.toInt ∧ i.toInt < n.toInt) : MI l y_Pre_checkIndex b_Pre_checkIndex 3 .int rm_Pre_checkIndex_1 G [.int i, .int n, .ref q] [] (fun (v : Int32) (u : Unit) => True) (fun (u : Unit) => []) 0 0 := by
  refine MI.of (cc := b_Pre_checkIndex) (maxL := 3) (ty := .int) (C := R_Pre) (by decide +kernel) rfl (Nat.le_of_ble_eq_true rfl) ?_
  intro p e s m args below meth c A Q H ls hx hb hml hown hw hE hA hP hD hS ret hl
  have hl : lv_has ls 3 [(0, .int i), (1, .int n), (2, .ref q)] := hl
  refine lv_iload_n hx hb d_Pre_checkIndex_0 rfl (lv_at hl 0 rfl) ?_
  refine lv_if_lt (tgt := 9) hx hb d_Pre_checkIndex_1 (by decide) (fun c_1 => ?_) (fun c_1 => ?_)
  · exact absurd hi (by first | (rw [z_lt, z_0] at c_1; omega) | (rw [z_lt] at c_2; omega))
  · refine lv_iload_n hx hb d_Pre_checkIndex_4 rfl (lv_at hl 0 rfl) ?_
    refine lv_iload_n hx hb d_Pre_checkIndex_5 rfl (lv_at hl 1 rfl) ?_
    refine lv_icmp_lt (tgt := 16) hx hb d_Pre_checkIndex_6 (by decide) (fun c_2 => ?_) (fun c_2 => ?_)
    · refine lv_iload_n hx hb d_Pre_checkIndex_16 rfl (lv_at hl 0 rfl) ?_
      exact ret i () (Nat.le_of_ble_eq_true rfl) (Nat.le_of_ble_eq_true rfl) d_Pre_checkIndex_17 rfl trivial (hP.sub [] rfl) (hD.sub [] (by decide) rfl) hS
    · exact absurd hi (by first | (rw [z_lt, z_0] at c_1; omega) | (rw [z_lt] at c_2; omega))
def rm_Str_checkIndex : Room := { frames := 1, cells := 0, slots := 0, locals := 22 }
set_option maxHeartbeats 4000000 in
set_option maxRecDepth 100000 in
theorem c_Str_checkIndex (l : Launch) (G : GG) (i : Int32) (n : Int32) (hi : 0 ≤ i.toInt ∧ i.toInt < n.toInt) : MV l y_Str_checkIndex b_Str_checkIndex 2 rm_Str_checkIndex G [.int i, .int n] [] (fun (u : Unit) => True) (fun (u : Unit) => []) 0 0 := by
  refine MV.of (cc := b_Str_checkIndex) (maxL := 2) (C := R_Str) (by decide +kernel) rfl (Nat.le_of_ble_eq_true rfl) ?_
  intro p e s m args below meth c A Q H ls hx hb hml hown hw hE hA hP hD hS hin ret hl
  have hl : lv_has ls 2 [(0, .int i), (1, .int n)] := hl
  refine lv_iload_n hx hb d_Str_checkIndex_0 rfl (lv_at hl 0 rfl) ?_
  refine lv_iload_n hx hb d_Str_checkIndex_1 rfl (lv_at hl 1 rfl) ?_
  rcases hE.2.2.2.1 with hZ | ⟨q9, hZ⟩
  · refine va_gets (v := .null) hx hb hZ hS hown (hw _ m_289) (fun _ h9 => h9) d_Str_checkIndex_2 ?_
    refine gc_i (wr := []) (gc_S (wc := []) (As := [.int i, .int n, .null]) (rest := []) ⟨hx, hb, hml, hown, hw⟩ (c_Pre_checkIndex_0 l G i n hi H.size) (va_cwS 3 hw (good_S m_291 m_292 m_8 m_293) rfl rfl rfl hy_Pre_checkIndex.2 ⟨Nat.le_of_ble_eq_true rfl, Nat.le_of_ble_eq_true rfl⟩) hE hP hD hS hA [] rfl (by decide) rfl hl rfl (Nat.le_of_ble_eq_true rfl) d_Str_checkIndex_5 ⟨Nat.le_of_ble_eq_true rfl, Nat.le_of_ble_eq_true rfl⟩) hP hD hS hA [] [] rfl rfl (by decide) (by decide) (fun r_1 u_2 H locs hw_3 hP hD hS => ?_)
    have hP : va_P G.1 vwCl [] H := hP
    have hD : va_D A [] := hD
    refine lv_pop hx hb d_Str_checkIndex_8 rfl ?_
    exact ret () (Nat.le_of_ble_eq_true rfl) (Nat.le_of_ble_eq_true rfl) d_Str_checkIndex_9 trivial (hP.sub [] rfl) (hD.sub [] (by decide) rfl) hS
  · refine va_gets (v := .ref q9) hx hb hZ hS hown (hw _ m_289) (fun _ h9 => h9) d_Str_checkIndex_2 ?_
    refine gc_i (wr := []) (gc_S (wc := []) (As := [.int i, .int n, .ref q9]) (rest := []) ⟨hx, hb, hml, hown, hw⟩ (c_Pre_checkIndex_1 l G i n q9 hi H.size) (va_cwS 3 hw (good_S m_291 m_292 m_8 m_293) rfl rfl rfl hy_Pre_checkIndex.2 ⟨Nat.le_of_ble_eq_true rfl, Nat.le_of_ble_eq_true rfl⟩) hE hP hD hS hA [] rfl (by decide) rfl hl rfl (Nat.le_of_ble_eq_true rfl) d_Str_checkIndex_5 ⟨Nat.le_of_ble_eq_true rfl, Nat.le_of_ble_eq_true rfl⟩) hP hD hS hA [] [] rfl rfl (by decide) (by decide) (fun r_4 u_5 H locs hw_6 hP hD hS => ?_)
    have hP : va_P G.1 vwCl [] H := hP
    have hD : va_D A [] := hD
    refine lv_pop hx hb d_Str_checkIndex_8 rfl ?_
    exact ret () (Nat.le_of_ble_eq_true rfl) (Nat.le_of_ble_eq_true rfl) d_Str_checkIndex_9 trivial (hP.sub [] rfl) (hD.sub [] (by decide) rfl) hS
def rm_SL_charAt : Room := { frames := 2, cells := 0, slots := 0, locals := 43 }
set_option maxHeartbeats 4000000 in
set_option maxRecDepth 100000 in
theorem c_SL_charAt (l : Launch) (G : GG) (k : Nat) (i : Int32) (hk : k < nS) (hi : 0 ≤ i.toInt ∧ i.toInt < (nI (lenS.getD k 0)).toInt) : MI l y_SL_charAt b_SL_charAt 2 .char rm_SL_charAt G [.ref (G.2.2.2 k), .int i] [] (fun (v : Int32) (u : Unit) => (narrow .char (.int v) = .int v)) (fun (u : Unit) => []) 0 0 := by
  refine MI.of (cc := b_SL_charAt) (maxL := 2) (ty := .char) (C := R_SL) (by decide +kernel) rfl (Nat.le_of_ble_eq_true rfl) ?_
  intro p e s m args below meth c A Q H ls hx hb hml hown hw hE hA hP hD hS ret hl
  have hl : lv_has ls 2 [(0, .ref (G.2.2.2 k)), (1, .int i)] := hl
  refine lv_iload_n hx hb d_SL_charAt_0 rfl (lv_at hl 1 rfl) ?_
  refine lv_aload_n hx hb d_SL_charAt_1 rfl (lv_at hl 0 rfl) ?_
  refine va_tlen (v := nI (lenS.getD k 0)) hx hb (((hE.2.1 k hk).1.1 0 (by decide)).2.2.2) hS rfl d_SL_charAt_2 ?_
  refine gc_v (wr := []) (gc_S (wc := []) (As := [.int i, .int (nI (lenS.getD k 0))]) (rest := []) ⟨hx, hb, hml, hown, hw⟩ (c_Str_checkIndex l G i (nI (lenS.getD k 0)) hi H.size) (va_cwS 2 hw (good_S m_286 m_287 m_6 m_288) rfl rfl rfl hy_Str_checkIndex.2 ⟨Nat.le_of_ble_eq_true rfl, Nat.le_of_ble_eq_true rfl⟩) hE hP hD hS hA [] rfl (by decide) rfl hl rfl (Nat.le_of_ble_eq_true rfl) d_SL_charAt_3 ⟨Nat.le_of_ble_eq_true rfl, Nat.le_of_ble_eq_true rfl⟩) hP hD hS hA [] [] rfl rfl (by decide) (by decide) (fun u_2 H locs hw_3 hP hD hS => ?_)
  have hP : va_P G.1 vwCl [] H := hP
  have hD : va_D A [] := hD
  refine lv_aload_n hx hb d_SL_charAt_6 rfl (lv_at hl 0 rfl) ?_
  refine lv_iload_n hx hb d_SL_charAt_7 rfl (lv_at hl 1 rfl) ?_
  refine va_tb hx hb (((hE.2.1 k hk).1.1 0 (by decide)).2.2.2) hS (i := i) (z_in hi.1 (by have h9 := hi.2; rw [z_n (by have := lenS_small k hk; omega)] at h9; exact h9)) rfl d_SL_charAt_8 ?_
  refine lv_topi (fun y_4 ey_4 => ?_)
  refine lv_sipush (v := 255) hx hb d_SL_charAt_9 (by decide) ?_
  refine lv_iand hx hb d_SL_charAt_12 ?_
  refine lv_topi (fun y_5 ey_5 => ?_)
  refine lv_i2c hx hb d_SL_charAt_13 rfl ?_
  refine lv_topi (fun y_6 ey_6 => ?_)
  exact ret y_6 () (Nat.le_of_ble_eq_true rfl) (Nat.le_of_ble_eq_true rfl) d_SL_charAt_14 (by rw [ey_6]; exact pk_nc _) (by rw [ey_6]; exact pk_nc _) (hP.sub [] rfl) (hD.sub [] (by decide) rfl) hS
def rm_Str_charAt : Room := { frames := 3, cells := 0, slots := 0, locals := 64 }
set_option maxHeartbeats 4000000 in
set_option maxRecDepth 100000 in
theorem c_Str_charAt (l : Launch) (G : GG) (k : Nat) (i : Int32) (hk : k < nS) (hi : 0 ≤ i.toInt ∧ i.toInt < (nI (lenS.getD k 0)).toInt) : MI l y_Str_charAt b_Str_charAt 2 .char rm_Str_charAt G [.ref (G.2.2.1 k), .int i] [] (fun (v : Int32) (u : Unit) => True) (fun (u : Unit) => []) 0 0 := by
  refine MI.of (cc := b_Str_charAt) (maxL := 2) (ty := .char) (C := R_Str) (by decide +kernel) rfl (Nat.le_of_ble_eq_true rfl) ?_
  intro p e s m args below meth c A Q H ls hx hb hml hown hw hE hA hP hD hS ret hl
  have hl : lv_has ls 2 [(0, .ref (G.2.2.1 k)), (1, .int i)] := hl
  refine lv_aload_n hx hb d_Str_charAt_0 rfl (lv_at hl 0 rfl) ?_
  refine gc_i (wr := []) (gc_V (wc := []) (As := []) (rest := []) ⟨hx, hb, hml, hown, hw⟩ (c_Str_isLatin1 l G k hk H.size) (cwV 0 hw (good_V m_279 m_280 m_281 m_6 m_282) rfl rfl rfl hy_Str_isLatin1 ⟨Nat.le_of_ble_eq_true rfl, Nat.le_of_ble_eq_true rfl⟩) hE hP hD hS hA (vk_recv (hE.2.1 k hk).1 (i := 0) (by decide) hS) [] rfl (by decide) rfl hl rfl (Nat.le_of_ble_eq_true rfl) d_Str_charAt_1 ⟨Nat.le_of_ble_eq_true rfl, Nat.le_of_ble_eq_true rfl⟩) hP hD hS hA [] [] rfl rfl (by decide) (by decide) (fun r_1 u_2 H locs hw_3 hP hD hS => ?_)
  try dsimp only at hw_3
  have h_4 := hw_3
  subst h_4
  have hP : va_P G.1 vwCl [] H := hP
  have hD : va_D A [] := hD
  refine lv_if_eq (tgt := 16) hx hb d_Str_charAt_4 (by decide) (fun c_5 => ?_) (fun c_5 => ?_)
  · exact absurd c_5 (by decide)
  · refine lv_aload_n hx hb d_Str_charAt_7 rfl (lv_at hl 0 rfl) ?_
    refine vk_getf (v := .ref (G.2.2.2 k)) hx hb (((hE.2.1 k hk).1.1 0 (by decide)).2.2.1) hS hown (hw _ m_744) (fun _ h9 => h9) d_Str_charAt_8 ?_
    refine lv_iload_n hx hb d_Str_charAt_11 rfl (lv_at hl 1 rfl) ?_
    refine gc_i (wr := []) (gc_S (wc := []) (As := [.ref (G.2.2.2 k), .int i]) (rest := []) ⟨hx, hb, hml, hown, hw⟩ (c_SL_charAt l G k i hk hi H.size) (va_cwS 2 hw (good_S m_283 m_284 m_7 m_285) rfl rfl rfl hy_SL_charAt.2 ⟨Nat.le_of_ble_eq_true rfl, Nat.le_of_ble_eq_true rfl⟩) hE hP hD hS hA [] rfl (by decide) rfl hl rfl (Nat.le_of_ble_eq_true rfl) d_Str_charAt_12 ⟨Nat.le_of_ble_eq_true rfl, Nat.le_of_ble_eq_true rfl⟩) hP hD hS hA [] [] rfl rfl (by decide) (by decide) (fun r_6 u_7 H locs hw_8 hP hD hS => ?_)
    try dsimp only at hw_8
    have h_9 := hw_8
    have hP : va_P G.1 vwCl [] H := hP
    have hD : va_D A [] := hD
    exact ret r_6 () (Nat.le_of_ble_eq_true rfl) (Nat.le_of_ble_eq_true rfl) d_Str_charAt_15 (by assumption) trivial (hP.sub [] rfl) (hD.sub [] (by decide) rfl) hS
end
section
def rm_Row_init_1000 : Room := { frames := 1, cells := 1, slots := 1000, locals := 12 }
set_option maxHeartbeats 4000000 in
set_option maxRecDepth 100000 in
/-- Row(1000) -/
theorem c_Row_init_1000 (l : Launch) (G : GG) (r : Nat) : MV l y_Row_init b_Row_init 2 rm_Row_init_1000 G [.ref r, .int 1000] [(r, .inr (1, [.null, .int 0]))] (fun (u : Nat) => True) (fun (u : Nat) => [(r, .inr (1, [.ref u, .int 0])), (u, .inl (G.2.1 0, 1000, .inl (fun _ => 0)))]) 1 1000 := by
  refine MV.of (cc := b_Row_init) (maxL := 2) (C := R_Row) (by decide +kernel) rfl (Nat.le_of_ble_eq_true rfl) ?_
  intro p e s m args below meth c A Q H ls hx hb hml hown hw hE hA hP hD hS hin ret hl
  have hl : lv_has ls 2 [(0, .ref r), (1, .int 1000)] := hl
  refine lv_aload_n hx hb d_Row_init_0 rfl (lv_at hl 0 rfl) ?_
  refine W.objInit hx hb hown (hw _ m_28) (hw _ m_21) (hw _ m_oi) rfl (by rw [hml]; exact hl.1) rfl d_Row_init_1 (Nat.le_of_ble_eq_true rfl) (Nat.le_of_ble_eq_true rfl) ?_
  refine W.eq (g2 := F0 m 4 ls []) rfl ?_
  refine lv_aload_n hx hb d_Row_init_4 rfl (lv_at hl 0 rfl) ?_
  refine lv_iload_n hx hb d_Row_init_5 rfl (lv_at hl 1 rfl) ?_
  refine gc_newa (atype := .byte) (ty := .byte) (N' := 1000) (a0 := (1000, .inl (fun _ => 0))) hx hb (hw _ m_36) rfl hE hP hD hS hA 0 rfl (fun _ h => h) (fun _ => rfl) (by decide) (by decide) (by decide) (Nat.le_of_ble_eq_true rfl) (Nat.le_of_ble_eq_true rfl) d_Row_init_6 (fun q_1 H hP hD hS => ?_)
  have hP : va_P G.1 vwCl [(r, .inr (1, [.null, .int 0])), (q_1, .inl (G.2.1 0, 1000, .inl (fun _ => 0)))] H := hP
  have hD : va_D A [(r, .inr (1, [.null, .int 0])), (q_1, .inl (G.2.1 0, 1000, .inl (fun _ => 0)))] := hD
  refine W.widen (k := 1) (n := 1000) (Nat.le_of_ble_eq_true rfl) (Nat.le_of_ble_eq_true rfl) ?_
  refine va_putF (D := G.1) (ci := 1) (v := .ref q_1) (ty := (.array .byte)) (C := R_Row) (T := F_Row) (N := 2) hx hb hw i_Row t_Row t_Row_ok n_Row hown hE.1 hP hD hS 0 rfl rfl 0 (by decide) (hw _ m_29) (fun _ h9 => h9) rfl hin rfl (by decide +kernel) rfl rfl (Nat.le_of_ble_eq_true rfl) d_Row_init_8 (fun H locs hP hD hS => ?_)
  have hP : va_P G.1 vwCl [(r, .inr (1, [.ref q_1, .int 0])), (q_1, .inl (G.2.1 0, 1000, .inl (fun _ => 0)))] H := hP
  have hD : va_D A [(r, .inr (1, [.ref q_1, .int 0])), (q_1, .inl (G.2.1 0, 1000, .inl (fun _ => 0)))] := hD
  refine lv_aload_n hx hb d_Row_init_11 rfl (lv_at hl 0 rfl) ?_
  refine lv_iconst (v := 0) hx hb d_Row_init_12 (by decide) ?_
  refine va_put (D := G.1) (ci := 1) (v := .int 0) (ty := .int) (C := R_Row) (T := F_Row) (N := 2) hx hb hw i_Row t_Row t_Row_ok n_Row hown hE.1 hP hD hS 0 rfl rfl 1 (by decide) (hw _ m_30) (fun _ h9 => h9) rfl (by decide +kernel) rfl rfl (Nat.le_of_ble_eq_true rfl) d_Row_init_13 (fun H locs hP hD hS => ?_)
  have hP : va_P G.1 vwCl [(r, .inr (1, [.ref q_1, .int 0])), (q_1, .inl (G.2.1 0, 1000, .inl (fun _ => 0)))] H := hP
  have hD : va_D A [(r, .inr (1, [.ref q_1, .int 0])), (q_1, .inl (G.2.1 0, 1000, .inl (fun _ => 0)))] := hD
  exact ret (q_1) (Nat.le_of_ble_eq_true rfl) (Nat.le_of_ble_eq_true rfl) d_Row_init_16 trivial (hP.sub [0, 1] rfl) (hD.sub [0, 1] (by decide) rfl) hS
def rm_Row_init_2000 : Room := { frames := 1, cells := 1, slots := 2000, locals := 12 }
set_option maxHeartbeats 4000000 in
set_option maxRecDepth 100000 in
/-- Row(2000) -/
theorem c_Row_init_2000 (l : Launch) (G : GG) (r : Nat) : MV l y_Row_init b_Row_init 2 rm_Row_init_2000 G [.ref r, .int 2000] [(r, .inr (1, [.null, .int 0]))] (fun (u : Nat) => True) (fun (u : Nat) => [(r, .inr (1, [.ref u, .int 0])), (u, .inl (G.2.1 0, 2000, .inl (fun _ => 0)))]) 1 2000 := by
  refine MV.of (cc := b_Row_init) (maxL := 2) (C := R_Row) (by decide +kernel) rfl (Nat.le_of_ble_eq_true rfl) ?_
  intro p e s m args below meth c A Q H ls hx hb hml hown hw hE hA hP hD hS hin ret hl
  have hl : lv_has ls 2 [(0, .ref r), (1, .int 2000)] := hl
  refine lv_aload_n hx hb d_Row_init_0 rfl (lv_at hl 0 rfl) ?_
  refine W.objInit hx hb hown (hw _ m_28) (hw _ m_21) (hw _ m_oi) rfl (by rw [hml]; exact hl.1) rfl d_Row_init_1 (Nat.le_of_ble_eq_true rfl) (Nat.le_of_ble_eq_true rfl) ?_
  refine W.eq (g2 := F0 m 4 ls []) rfl ?_
  refine lv_aload_n hx hb d_Row_init_4 rfl (lv_at hl 0 rfl) ?_
  refine lv_iload_n hx hb d_Row_init_5 rfl (lv_at hl 1 rfl) ?_
  refine gc_newa (atype := .byte) (ty := .byte) (N' := 2000) (a0 := (2000, .inl (fun _ => 0))) hx hb (hw _ m_36) rfl hE hP hD hS hA 0 rfl (fun _ h => h) (fun _ => rfl) (by decide) (by decide) (by decide) (Nat.le_of_ble_eq_true rfl) (Nat.le_of_ble_eq_true rfl) d_Row_init_6 (fun q_1 H hP hD hS => ?_)
  have hP : va_P G.1 vwCl [(r, .inr (1, [.null, .int 0])), (q_1, .inl (G.2.1 0, 2000, .inl (fun _ => 0)))] H := hP
  have hD : va_D A [(r, .inr (1, [.null, .int 0])), (q_1, .inl (G.2.1 0, 2000, .inl (fun _ => 0)))] := hD
  refine W.widen (k := 1) (n := 2000) (Nat.le_of_ble_eq_true rfl) (Nat.le_of_ble_eq_true rfl) ?_
  refine va_putF (D := G.1) (ci := 1) (v := .ref q_1) (ty := (.array .byte)) (C := R_Row) (T := F_Row) (N := 2) hx hb hw i_Row t_Row t_Row_ok n_Row hown hE.1 hP hD hS 0 rfl rfl 0 (by decide) (hw _ m_29) (fun _ h9 => h9) rfl hin rfl (by decide +kernel) rfl rfl (Nat.le_of_ble_eq_true rfl) d_Row_init_8 (fun H locs hP hD hS => ?_)
  have hP : va_P G.1 vwCl [(r, .inr (1, [.ref q_1, .int 0])), (q_1, .inl (G.2.1 0, 2000, .inl (fun _ => 0)))] H := hP
  have hD : va_D A [(r, .inr (1, [.ref q_1, .int 0])), (q_1, .inl (G.2.1 0, 2000, .inl (fun _ => 0)))] := hD
  refine lv_aload_n hx hb d_Row_init_11 rfl (lv_at hl 0 rfl) ?_
  refine lv_iconst (v := 0) hx hb d_Row_init_12 (by decide) ?_
  refine va_put (D := G.1) (ci := 1) (v := .int 0) (ty := .int) (C := R_Row) (T := F_Row) (N := 2) hx hb hw i_Row t_Row t_Row_ok n_Row hown hE.1 hP hD hS 0 rfl rfl 1 (by decide) (hw _ m_30) (fun _ h9 => h9) rfl (by decide +kernel) rfl rfl (Nat.le_of_ble_eq_true rfl) d_Row_init_13 (fun H locs hP hD hS => ?_)
  have hP : va_P G.1 vwCl [(r, .inr (1, [.ref q_1, .int 0])), (q_1, .inl (G.2.1 0, 2000, .inl (fun _ => 0)))] H := hP
  have hD : va_D A [(r, .inr (1, [.ref q_1, .int 0])), (q_1, .inl (G.2.1 0, 2000, .inl (fun _ => 0)))] := hD
  exact ret (q_1) (Nat.le_of_ble_eq_true rfl) (Nat.le_of_ble_eq_true rfl) d_Row_init_16 trivial (hP.sub [0, 1] rfl) (hD.sub [0, 1] (by decide) rfl) hS
def rm_Row_size : Room := { frames := 0, cells := 0, slots := 0, locals := 0 }
set_option maxHeartbeats 4000000 in
set_option maxRecDepth 100000 in
/-- size() -/
theorem c_Row_size (l : Launch) (G : GG) (r : Nat) (a : Nat) (N : Nat) (sz : Int32) (f : Nat → Int32) (hN : N ≤ 2000) (hok : RowOk N sz) : MI l y_Row_size b_Row_size 1 .int rm_Row_size G [.ref r] [(r, .inr (1, [.ref a, .int sz])), (a, .inl (G.2.1 0, N, .inl f))] (fun (v : Int32) (u : Unit) => (sz = v)) (fun (u : Unit) => [(r, .inr (1, [.ref a, .int sz])), (a, .inl (G.2.1 0, N, .inl f))]) 0 0 := by
  refine MI.of (cc := b_Row_size) (maxL := 1) (ty := .int) (C := R_Row) (by decide +kernel) rfl (Nat.le_of_ble_eq_true rfl) ?_
  intro p e s m args below meth c A Q H ls hx hb hml hown hw hE hA hP hD hS ret hl
  have hl : lv_has ls 1 [(0, .ref r)] := hl
  refine lv_aload_n hx hb d_Row_size_0 rfl (lv_at hl 0 rfl) ?_
  refine va_get (D := G.1) (ci := 1) (v := .int sz) (C := R_Row) (T := F_Row) (N := 2) hx hb hw i_Row hown hE.1 hP 0 rfl rfl 1 (by decide) (hw _ m_30) (fun _ h9 => h9) rfl d_Row_size_1 ?_
  exact ret sz () (Nat.le_of_ble_eq_true rfl) (Nat.le_of_ble_eq_true rfl) d_Row_size_4 rfl rfl (hP.sub [0, 1] rfl) (hD.sub [0, 1] (by decide) rfl) hS
def rm_Row_get : Room := { frames := 0, cells := 0, slots := 0, locals := 0 }
set_option maxHeartbeats 4000000 in
set_option maxRecDepth 100000 in
/-- get(i) -/
theorem c_Row_get (l : Launch) (G : GG) (r : Nat) (a : Nat) (N : Nat) (sz : Int32) (f : Nat → Int32) (i : Int32) (hN : N ≤ 2000) (hok : RowOk N sz) : MI l y_Row_get b_Row_get 2 .int rm_Row_get G [.ref r, .int i] [(r, .inr (1, [.ref a, .int sz])), (a, .inl (G.2.1 0, N, .inl f))] (fun (v : Int32) (u : Unit) => True) (fun (u : Unit) => [(r, .inr (1, [.ref a, .int sz])), (a, .inl (G.2.1 0, N, .inl f))]) 0 0 := by
  refine MI.of (cc := b_Row_get) (maxL := 2) (ty := .int) (C := R_Row) (by decide +kernel) rfl (Nat.le_of_ble_eq_true rfl) ?_
  intro p e s m args below meth c A Q H ls hx hb hml hown hw hE hA hP hD hS ret hl
  have hl : lv_has ls 2 [(0, .ref r), (1, .int i)] := hl
  refine lv_iload_n hx hb d_Row_get_0 rfl (lv_at hl 1 rfl) ?_
  refine lv_if_lt (tgt := 25) hx hb d_Row_get_1 (by decide) (fun c_1 => ?_) (fun c_1 => ?_)
  · refine lv_iconst (v := (-1)) hx hb d_Row_get_25 (by decide) ?_
    exact ret (-1) () (Nat.le_of_ble_eq_true rfl) (Nat.le_of_ble_eq_true rfl) d_Row_get_26 rfl trivial (hP.sub [0, 1] rfl) (hD.sub [0, 1] (by decide) rfl) hS
  · refine lv_iload_n hx hb d_Row_get_4 rfl (lv_at hl 1 rfl) ?_
    refine lv_aload_n hx hb d_Row_get_5 rfl (lv_at hl 0 rfl) ?_
    refine va_get (D := G.1) (ci := 1) (v := .int sz) (C := R_Row) (T := F_Row) (N := 2) hx hb hw i_Row hown hE.1 hP 0 rfl rfl 1 (by decide) (hw _ m_30) (fun _ h9 => h9) rfl d_Row_get_6 ?_
    refine lv_icmp_ge (tgt := 25) hx hb d_Row_get_9 (by decide) (fun c_2 => ?_) (fun c_2 => ?_)
    · refine lv_iconst (v := (-1)) hx hb d_Row_get_25 (by decide) ?_
      exact ret (-1) () (Nat.le_of_ble_eq_true rfl) (Nat.le_of_ble_eq_true rfl) d_Row_get_26 rfl trivial (hP.sub [0, 1] rfl) (hD.sub [0, 1] (by decide) rfl) hS
    · refine lv_aload_n hx hb d_Row_get_12 rfl (lv_at hl 0 rfl) ?_
      refine va_get (D := G.1) (ci := 1) (v := .ref a) (C := R_Row) (T := F_Row) (N := 2) hx hb hw i_Row hown hE.1 hP 0 rfl rfl 0 (by decide) (hw _ m_29) (fun _ h9 => h9) rfl d_Row_get_13 ?_
      refine lv_iload_n hx hb d_Row_get_16 rfl (lv_at hl 1 rfl) ?_
      refine va_bald hx hb hE.1 hP 1 0 rfl rfl (i := i) (z_in (by rw [z_lt, z_0] at c_1; omega) (by have h9 := hok.2; rw [z_le] at c_2; omega)) d_Row_get_17 ?_
      refine lv_topi (fun y_3 ey_3 => ?_)
      refine lv_sipush (v := 255) hx hb d_Row_get_18 (by decide) ?_
      refine lv_iand hx hb d_Row_get_21 ?_
      refine lv_topi (fun y_4 ey_4 => ?_)
      refine lv_goto (tgt := 26) hx hb d_Row_get_22 (by decide) ?_
      exact ret y_4 () (Nat.le_of_ble_eq_true rfl) (Nat.le_of_ble_eq_true rfl) d_Row_get_26 rfl trivial (hP.sub [0, 1] rfl) (hD.sub [0, 1] (by decide) rfl) hS
def rm_Row_cut : Room := { frames := 0, cells := 0, slots := 0, locals := 0 }
set_option maxHeartbeats 4000000 in
set_option maxRecDepth 100000 in
/-- cut(n) -/
theorem c_Row_cut (l : Launch) (G : GG) (r : Nat) (a : Nat) (N : Nat) (sz : Int32) (f : Nat → Int32) (n : Int32) (hN : N ≤ 2000) (hok : RowOk N sz) : MV l y_Row_cut b_Row_cut 2 rm_Row_cut G [.ref r, .int n] [(r, .inr (1, [.ref a, .int sz])), (a, .inl (G.2.1 0, N, .inl f))] (fun (u : Int32) => (RowOk N u) ∧ (0 ≤ n.toInt ∧ n.toInt ≤ sz.toInt → n = u)) (fun (u : Int32) => [(r, .inr (1, [.ref a, .int u])), (a, .inl (G.2.1 0, N, .inl f))]) 0 0 := by
  refine MV.of (cc := b_Row_cut) (maxL := 2) (C := R_Row) (by decide +kernel) rfl (Nat.le_of_ble_eq_true rfl) ?_
  intro p e s m args below meth c A Q H ls hx hb hml hown hw hE hA hP hD hS hin ret hl
  have hl : lv_has ls 2 [(0, .ref r), (1, .int n)] := hl
  refine lv_iload_n hx hb d_Row_cut_0 rfl (lv_at hl 1 rfl) ?_
  refine lv_if_lt (tgt := 17) hx hb d_Row_cut_1 (by decide) (fun c_1 => ?_) (fun c_1 => ?_)
  · exact ret (sz) (Nat.le_of_ble_eq_true rfl) (Nat.le_of_ble_eq_true rfl) d_Row_cut_17 ⟨(by first | exact hok | exact row_cut hok c_1 c_2), (by first | exact fun _ => rfl | exact fun h => absurd h.1 (by rw [z_lt, z_0] at c_1; omega) | exact fun h => absurd h.2 (by rw [z_lt] at c_2; omega))⟩ (hP.sub [0, 1] rfl) (hD.sub [0, 1] (by decide) rfl) hS
  · refine lv_iload_n hx hb d_Row_cut_4 rfl (lv_at hl 1 rfl) ?_
    refine lv_aload_n hx hb d_Row_cut_5 rfl (lv_at hl 0 rfl) ?_
    refine va_get (D := G.1) (ci := 1) (v := .int sz) (C := R_Row) (T := F_Row) (N := 2) hx hb hw i_Row hown hE.1 hP 0 rfl rfl 1 (by decide) (hw _ m_30) (fun _ h9 => h9) rfl d_Row_cut_6 ?_
    refine lv_icmp_gt (tgt := 17) hx hb d_Row_cut_9 (by decide) (fun c_2 => ?_) (fun c_2 => ?_)
    · exact ret (sz) (Nat.le_of_ble_eq_true rfl) (Nat.le_of_ble_eq_true rfl) d_Row_cut_17 ⟨(by first | exact hok | exact row_cut hok c_1 c_2), (by first | exact fun _ => rfl | exact fun h => absurd h.1 (by rw [z_lt, z_0] at c_1; omega) | exact fun h => absurd h.2 (by rw [z_lt] at c_2; omega))⟩ (hP.sub [0, 1] rfl) (hD.sub [0, 1] (by decide) rfl) hS
    · refine lv_aload_n hx hb d_Row_cut_12 rfl (lv_at hl 0 rfl) ?_
      refine lv_iload_n hx hb d_Row_cut_13 rfl (lv_at hl 1 rfl) ?_
      refine va_put (D := G.1) (ci := 1) (v := .int n) (ty := .int) (C := R_Row) (T := F_Row) (N := 2) hx hb hw i_Row t_Row t_Row_ok n_Row hown hE.1 hP hD hS 0 rfl rfl 1 (by decide) (hw _ m_30) (fun _ h9 => h9) rfl (by decide +kernel) rfl rfl (Nat.le_of_ble_eq_true rfl) d_Row_cut_14 (fun H locs hP hD hS => ?_)
      have hP : va_P G.1 vwCl [(r, .inr (1, [.ref a, .int n])), (a, .inl (G.2.1 0, N, .inl f))] H := hP
      have hD : va_D A [(r, .inr (1, [.ref a, .int n])), (a, .inl (G.2.1 0, N, .inl f))] := hD
      exact ret (n) (Nat.le_of_ble_eq_true rfl) (Nat.le_of_ble_eq_true rfl) d_Row_cut_17 ⟨(by first | exact hok | exact row_cut hok c_1 c_2), (by first | exact fun _ => rfl | exact fun h => absurd h.1 (by rw [z_lt, z_0] at c_1; omega) | exact fun h => absurd h.2 (by rw [z_lt] at c_2; omega))⟩ (hP.sub [0, 1] rfl) (hD.sub [0, 1] (by decide) rfl) hS
def rm_Row_add : Room := { frames := 0, cells := 0, slots := 0, locals := 0 }
set_option maxHeartbeats 4000000 in
set_option maxRecDepth 100000 in
/-- add(b) -/
theorem c_Row_add (l : Launch) (G : GG) (r : Nat) (a : Nat) (N : Nat) (sz : Int32) (f : Nat → Int32) (b : Int32) (hN : N ≤ 2000) (hok : RowOk N sz) : MV l y_Row_add b_Row_add 2 rm_Row_add G [.ref r, .int b] [(r, .inr (1, [.ref a, .int sz])), (a, .inl (G.2.1 0, N, .inl f))] (fun (u : Int32 × (Nat → Int32)) => (RowOk N u.1) ∧ (sz.toInt < N → u.1.toInt = sz.toInt + 1)) (fun (u : Int32 × (Nat → Int32)) => [(r, .inr (1, [.ref a, .int u.1])), (a, .inl (G.2.1 0, N, .inl u.2))]) 0 0 := by
  refine MV.of (cc := b_Row_add) (maxL := 2) (C := R_Row) (by decide +kernel) rfl (Nat.le_of_ble_eq_true rfl) ?_
  intro p e s m args below meth c A Q H ls hx hb hml hown hw hE hA hP hD hS hin ret hl
  have hl : lv_has ls 2 [(0, .ref r), (1, .int b)] := hl
  refine lv_aload_n hx hb d_Row_add_0 rfl (lv_at hl 0 rfl) ?_
  refine va_get (D := G.1) (ci := 1) (v := .int sz) (C := R_Row) (T := F_Row) (N := 2) hx hb hw i_Row hown hE.1 hP 0 rfl rfl 1 (by decide) (hw _ m_30) (fun _ h9 => h9) rfl d_Row_add_1 ?_
  refine lv_aload_n hx hb d_Row_add_4 rfl (lv_at hl 0 rfl) ?_
  refine va_get (D := G.1) (ci := 1) (v := .ref a) (C := R_Row) (T := F_Row) (N := 2) hx hb hw i_Row hown hE.1 hP 0 rfl rfl 0 (by decide) (hw _ m_29) (fun _ h9 => h9) rfl d_Row_add_5 ?_
  refine va_alen (v := nI N) hx hb hE.1 hP 1 0 rfl rfl rfl d_Row_add_8 ?_
  refine lv_icmp_ge (tgt := 33) hx hb d_Row_add_9 (by decide) (fun c_1 => ?_) (fun c_1 => ?_)
  · exact ret (sz, f) (Nat.le_of_ble_eq_true rfl) (Nat.le_of_ble_eq_true rfl) d_Row_add_33 ⟨(by first | exact hok | exact (row_add hN hok c_1 ey_4).1), (by first | exact (row_add hN hok c_1 ey_4).2 | exact (row_full hN c_1))⟩ (hP.sub [0, 1] rfl) (hD.sub [0, 1] (by decide) rfl) hS
  · refine lv_aload_n hx hb d_Row_add_12 rfl (lv_at hl 0 rfl) ?_
    refine va_get (D := G.1) (ci := 1) (v := .ref a) (C := R_Row) (T := F_Row) (N := 2) hx hb hw i_Row hown hE.1 hP 0 rfl rfl 0 (by decide) (hw _ m_29) (fun _ h9 => h9) rfl d_Row_add_13 ?_
    refine lv_aload_n hx hb d_Row_add_16 rfl (lv_at hl 0 rfl) ?_
    refine va_get (D := G.1) (ci := 1) (v := .int sz) (C := R_Row) (T := F_Row) (N := 2) hx hb hw i_Row hown hE.1 hP 0 rfl rfl 1 (by decide) (hw _ m_30) (fun _ h9 => h9) rfl d_Row_add_17 ?_
    refine lv_iload_n hx hb d_Row_add_20 rfl (lv_at hl 1 rfl) ?_
    refine lv_i2b hx hb d_Row_add_21 rfl ?_
    refine lv_topi (fun y_2 ey_2 => ?_)
    refine va_bast hx hb hE.1 hP hD hS 1 0 rfl rfl (i := sz) (row_in hN hok c_1) d_Row_add_22 (fun H locs hP hD hS => ?_)
    obtain ⟨f_3, ef_3⟩ : ∃ y : Nat → Int32, y = upd f sz.toNatClampNeg (vp_nar .byte y_2) := ⟨_, rfl⟩
    rw [← ef_3] at hP hD
    have hP : va_P G.1 vwCl [(r, .inr (1, [.ref a, .int sz])), (a, .inl (G.2.1 0, N, .inl f_3))] H := hP
    have hD : va_D A [(r, .inr (1, [.ref a, .int sz])), (a, .inl (G.2.1 0, N, .inl f_3))] := hD
    refine lv_aload_n hx hb d_Row_add_23 rfl (lv_at hl 0 rfl) ?_
    refine lv_dup hx hb d_Row_add_24 rfl ?_
    refine va_get (D := G.1) (ci := 1) (v := .int sz) (C := R_Row) (T := F_Row) (N := 2) hx hb hw i_Row hown hE.1 hP 0 rfl rfl 1 (by decide) (hw _ m_30) (fun _ h9 => h9) rfl d_Row_add_25 ?_
    refine lv_iconst (v := 1) hx hb d_Row_add_28 (by decide) ?_
    refine lv_iadd hx hb d_Row_add_29 ?_
    refine lv_topi (fun y_4 ey_4 => ?_)
    refine va_put (D := G.1) (ci := 1) (v := .int y_4) (ty := .int) (C := R_Row) (T := F_Row) (N := 2) hx hb hw i_Row t_Row t_Row_ok n_Row hown hE.1 hP hD hS 0 rfl rfl 1 (by decide) (hw _ m_30) (fun _ h9 => h9) rfl (by decide +kernel) rfl rfl (Nat.le_of_ble_eq_true rfl) d_Row_add_30 (fun H locs hP hD hS => ?_)
    have hP : va_P G.1 vwCl [(r, .inr (1, [.ref a, .int y_4])), (a, .inl (G.2.1 0, N, .inl f_3))] H := hP
    have hD : va_D A [(r, .inr (1, [.ref a, .int y_4])), (a, .inl (G.2.1 0, N, .inl f_3))] := hD
    exact ret (y_4, f_3) (Nat.le_of_ble_eq_true rfl) (Nat.le_of_ble_eq_true rfl) d_Row_add_33 ⟨(by first | exact hok | exact (row_add hN hok c_1 ey_4).1), (by first | exact (row_add hN hok c_1 ey_4).2 | exact (row_full hN c_1))⟩ (hP.sub [0, 1] rfl) (hD.sub [0, 1] (by decide) rfl) hS
def rm_Row_addFour : Room := { frames := 1, cells := 0, slots := 0, locals := 21 }
set_option maxHeartbeats 4000000 in
set_option maxRecDepth 100000 in
/-- addFour(b) -/
theorem c_Row_addFour (l : Launch) (G : GG) (r : Nat) (a : Nat) (N : Nat) (sz : Int32) (f : Nat → Int32) (b : Int32) (hN : N ≤ 2000) (hok : RowOk N sz) : MV l y_Row_addFour b_Row_addFour 2 rm_Row_addFour G [.ref r, .int b] [(r, .inr (1, [.ref a, .int sz])), (a, .inl (G.2.1 0, N, .inl f))] (fun (u : Int32 × (Nat → Int32)) => (RowOk N u.1) ∧ (sz.toInt + 4 ≤ N → u.1.toInt = sz.toInt + 4)) (fun (u : Int32 × (Nat → Int32)) => [(r, .inr (1, [.ref a, .int u.1])), (a, .inl (G.2.1 0, N, .inl u.2))]) 0 0 := by
  refine MV.of (cc := b_Row_addFour) (maxL := 2) (C := R_Row) (by decide +kernel) rfl (Nat.le_of_ble_eq_true rfl) ?_
  intro p e s m args below meth c A Q H ls hx hb hml hown hw hE hA hP hD hS hin ret hl
  have hl : lv_has ls 2 [(0, .ref r), (1, .int b)] := hl
  refine lv_aload_n hx hb d_Row_addFour_0 rfl (lv_at hl 0 rfl) ?_
  refine lv_iload_n hx hb d_Row_addFour_1 rfl (lv_at hl 1 rfl) ?_
  refine lv_bipush (v := 24) hx hb d_Row_addFour_2 (by decide) ?_
  refine lv_iushr hx hb d_Row_addFour_4 rfl ?_
  refine lv_topi (fun y_1 ey_1 => ?_)
  refine gc_v (wr := []) (gc_V (wc := [(r, .inr (1, [.ref a, .int sz])), (a, .inl (G.2.1 0, N, .inl f))]) (As := [.int y_1]) (rest := []) ⟨hx, hb, hml, hown, hw⟩ (c_Row_add l G r a N sz f y_1 hN hok H.size) (cwV 1 hw (good_V m_93 m_94 m_95 m_2 m_96) rfl rfl rfl hy_Row_add ⟨Nat.le_of_ble_eq_true rfl, Nat.le_of_ble_eq_true rfl⟩) hE hP hD hS hA (va_recv hE.1 hP (ci := 1) (q0 := 0) rfl rfl) [0, 1] rfl (by decide) rfl hl rfl (Nat.le_of_ble_eq_true rfl) d_Row_addFour_5 ⟨Nat.le_of_ble_eq_true rfl, Nat.le_of_ble_eq_true rfl⟩) hP hD hS hA [0, 1] [] rfl rfl (by decide) (by decide) (fun u_3 H locs hw_4 hP hD hS => ?_)
  obtain ⟨sz2_5, f2_6⟩ := u_3
  try dsimp only at hw_4
  obtain ⟨h_7, h_8⟩ := hw_4
  have hP : va_P G.1 vwCl [(r, .inr (1, [.ref a, .int sz2_5])), (a, .inl (G.2.1 0, N, .inl f2_6))] H := hP
  have hD : va_D A [(r, .inr (1, [.ref a, .int sz2_5])), (a, .inl (G.2.1 0, N, .inl f2_6))] := hD
  refine lv_aload_n hx hb d_Row_addFour_8 rfl (lv_at hl 0 rfl) ?_
  refine lv_iload_n hx hb d_Row_addFour_9 rfl (lv_at hl 1 rfl) ?_
  refine lv_bipush (v := 16) hx hb d_Row_addFour_10 (by decide) ?_
  refine lv_iushr hx hb d_Row_addFour_12 rfl ?_
  refine lv_topi (fun y_9 ey_9 => ?_)
  refine gc_v (wr := []) (gc_V (wc := [(r, .inr (1, [.ref a, .int sz2_5])), (a, .inl (G.2.1 0, N, .inl f2_6))]) (As := [.int y_9]) (rest := []) ⟨hx, hb, hml, hown, hw⟩ (c_Row_add l G r a N sz2_5 f2_6 y_9 hN h_7 H.size) (cwV 1 hw (good_V m_93 m_94 m_95 m_2 m_96) rfl rfl rfl hy_Row_add ⟨Nat.le_of_ble_eq_true rfl, Nat.le_of_ble_eq_true rfl⟩) hE hP hD hS hA (va_recv hE.1 hP (ci := 1) (q0 := 0) rfl rfl) [0, 1] rfl (by decide) rfl hl rfl (Nat.le_of_ble_eq_true rfl) d_Row_addFour_13 ⟨Nat.le_of_ble_eq_true rfl, Nat.le_of_ble_eq_true rfl⟩) hP hD hS hA [0, 1] [] rfl rfl (by decide) (by decide) (fun u_11 H locs hw_12 hP hD hS => ?_)
  obtain ⟨sz2_13, f2_14⟩ := u_11
  try dsimp only at hw_12
  obtain ⟨h_15, h_16⟩ := hw_12
  have hP : va_P G.1 vwCl [(r, .inr (1, [.ref a, .int sz2_13])), (a, .inl (G.2.1 0, N, .inl f2_14))] H := hP
  have hD : va_D A [(r, .inr (1, [.ref a, .int sz2_13])), (a, .inl (G.2.1 0, N, .inl f2_14))] := hD
  refine lv_aload_n hx hb d_Row_addFour_16 rfl (lv_at hl 0 rfl) ?_
  refine lv_iload_n hx hb d_Row_addFour_17 rfl (lv_at hl 1 rfl) ?_
  refine lv_bipush (v := 8) hx hb d_Row_addFour_18 (by decide) ?_
  refine lv_iushr hx hb d_Row_addFour_20 rfl ?_
  refine lv_topi (fun y_17 ey_17 => ?_)
  refine gc_v (wr := []) (gc_V (wc := [(r, .inr (1, [.ref a, .int sz2_13])), (a, .inl (G.2.1 0, N, .inl f2_14))]) (As := [.int y_17]) (rest := []) ⟨hx, hb, hml, hown, hw⟩ (c_Row_add l G r a N sz2_13 f2_14 y_17 hN h_15 H.size) (cwV 1 hw (good_V m_93 m_94 m_95 m_2 m_96) rfl rfl rfl hy_Row_add ⟨Nat.le_of_ble_eq_true rfl, Nat.le_of_ble_eq_true rfl⟩) hE hP hD hS hA (va_recv hE.1 hP (ci := 1) (q0 := 0) rfl rfl) [0, 1] rfl (by decide) rfl hl rfl (Nat.le_of_ble_eq_true rfl) d_Row_addFour_21 ⟨Nat.le_of_ble_eq_true rfl, Nat.le_of_ble_eq_true rfl⟩) hP hD hS hA [0, 1] [] rfl rfl (by decide) (by decide) (fun u_19 H locs hw_20 hP hD hS => ?_)
  obtain ⟨sz2_21, f2_22⟩ := u_19
  try dsimp only at hw_20
  obtain ⟨h_23, h_24⟩ := hw_20
  have hP : va_P G.1 vwCl [(r, .inr (1, [.ref a, .int sz2_21])), (a, .inl (G.2.1 0, N, .inl f2_22))] H := hP
  have hD : va_D A [(r, .inr (1, [.ref a, .int sz2_21])), (a, .inl (G.2.1 0, N, .inl f2_22))] := hD
  refine lv_aload_n hx hb d_Row_addFour_24 rfl (lv_at hl 0 rfl) ?_
  refine lv_iload_n hx hb d_Row_addFour_25 rfl (lv_at hl 1 rfl) ?_
  refine gc_v (wr := []) (gc_V (wc := [(r, .inr (1, [.ref a, .int sz2_21])), (a, .inl (G.2.1 0, N, .inl f2_22))]) (As := [.int b]) (rest := []) ⟨hx, hb, hml, hown, hw⟩ (c_Row_add l G r a N sz2_21 f2_22 b hN h_23 H.size) (cwV 1 hw (good_V m_93 m_94 m_95 m_2 m_96) rfl rfl rfl hy_Row_add ⟨Nat.le_of_ble_eq_true rfl, Nat.le_of_ble_eq_true rfl⟩) hE hP hD hS hA (va_recv hE.1 hP (ci := 1) (q0 := 0) rfl rfl) [0, 1] rfl (by decide) rfl hl rfl (Nat.le_of_ble_eq_true rfl) d_Row_addFour_26 ⟨Nat.le_of_ble_eq_true rfl, Nat.le_of_ble_eq_true rfl⟩) hP hD hS hA [0, 1] [] rfl rfl (by decide) (by decide) (fun u_26 H locs hw_27 hP hD hS => ?_)
  obtain ⟨sz2_28, f2_29⟩ := u_26
  try dsimp only at hw_27
  obtain ⟨h_30, h_31⟩ := hw_27
  have hP : va_P G.1 vwCl [(r, .inr (1, [.ref a, .int sz2_28])), (a, .inl (G.2.1 0, N, .inl f2_29))] H := hP
  have hD : va_D A [(r, .inr (1, [.ref a, .int sz2_28])), (a, .inl (G.2.1 0, N, .inl f2_29))] := hD
  exact ret (sz2_28, f2_29) (Nat.le_of_ble_eq_true rfl) (Nat.le_of_ble_eq_true rfl) d_Row_addFour_29 ⟨h_30, (fun h => by try dsimp only; omega)⟩ (hP.sub [0, 1] rfl) (hD.sub [0, 1] (by decide) rfl) hS
def rm_Row_addFrom : Room := { frames := 1, cells := 0, slots := 0, locals := 21 }
set_option maxHeartbeats 4000000 in
set_option maxRecDepth 100000 in
/-- addFrom(row, i, n) -/
theorem c_Row_addFrom (l : Launch) (G : GG) (r : Nat) (a : Nat) (N : Nat) (sz : Int32) (f : Nat → Int32) (r1 : Nat) (a1 : Nat) (N1 : Nat) (sz1 : Int32) (f1 : Nat → Int32) (i : Int32) (n : Int32) (hN : N ≤ 2000) (hok : RowOk N sz) (hN1 : N1 ≤ 2000) (hok1 : RowOk N1 sz1) : MV l y_Row_addFrom b_Row_addFrom 5 rm_Row_addFrom G [.ref r, .ref r1, .int i, .int n] [(r, .inr (1, [.ref a, .int sz])), (a, .inl (G.2.1 0, N, .inl f)), (r1, .inr (1, [.ref a1, .int sz1])), (a1, .inl (G.2.1 0, N1, .inl f1))] (fun (u : Int32 × (Nat → Int32)) => (RowOk N u.1)) (fun (u : Int32 × (Nat → Int32)) => [(r, .inr (1, [.ref a, .int u.1])), (a, .inl (G.2.1 0, N, .inl u.2)), (r1, .inr (1, [.ref a1, .int sz1])), (a1, .inl (G.2.1 0, N1, .inl f1))]) 0 0 := by
  refine MV.of (cc := b_Row_addFrom) (maxL := 5) (C := R_Row) (by decide +kernel) rfl (Nat.le_of_ble_eq_true rfl) ?_
  intro p e s m args below meth c A Q H ls hx hb hml hown hw hE hA hP hD hS hin ret hl
  have hl : lv_has ls 5 [(0, .ref r), (1, .ref r1), (2, .int i), (3, .int n)] := hl
  have J_3 : ∀ (fu : Nat) (x4_3 : Int32) (sz2_3 : Int32) (f2_3 : Nat → Int32) (hj0_3 : RowOk N sz2_3), (n.toInt - x4_3.toInt).toNat < fu → ∀ (H : Heap) (locs : List Loc), va_P G.1 vwCl [(r, .inr (1, [.ref a, .int sz2_3])), (a, .inl (G.2.1 0, N, .inl f2_3)), (r1, .inr (1, [.ref a1, .int sz1])), (a1, .inl (G.2.1 0, N1, .inl f1))] H → va_D A [(r, .inr (1, [.ref a, .int sz2_3])), (a, .inl (G.2.1 0, N, .inl f2_3)), (r1, .inr (1, [.ref a1, .int sz1])), (a1, .inl (G.2.1 0, N1, .inl f1))] → va_S A s.heap H locs → ∀ ls : Array Slot, lv_has ls 5 [(4, .int x4_3), (0, .ref r), (1, .ref r1), (2, .int i), (3, .int n)] → W p l e rm_Row_addFrom s m args below meth c H locs 0 0 Q (F0 m 3 ls []) := by
    intro fu
    induction fu with
    | zero =>
      intro x4_3 sz2_3 f2_3 hj0_3 hm
      exact absurd hm (Nat.not_lt_zero _)
    | succ fu ih_3 =>
      intro x4_3 sz2_3 f2_3 hj0_3 hm_3 H locs hP hD hS ls hl
      refine lv_iload hx hb d_Row_addFrom_3 (lv_at hl 0 rfl) ?_
      refine lv_iload_n hx hb d_Row_addFrom_5 rfl (lv_at hl 4 rfl) ?_
      refine lv_icmp_ge (tgt := 27) hx hb d_Row_addFrom_6 (by decide) (fun c_1 => ?_) (fun c_1 => ?_)
      · exact ret (sz2_3, f2_3) (Nat.le_of_ble_eq_true rfl) (Nat.le_of_ble_eq_true rfl) d_Row_addFrom_27 hj0_3 (hP.sub [0, 1, 2, 3] rfl) (hD.sub [0, 1, 2, 3] (by decide) rfl) hS
      · refine lv_aload_n hx hb d_Row_addFrom_9 rfl (lv_at hl 1 rfl) ?_
        refine lv_aload_n hx hb d_Row_addFrom_10 rfl (lv_at hl 2 rfl) ?_
        refine lv_iload_n hx hb d_Row_addFrom_11 rfl (lv_at hl 3 rfl) ?_
        refine lv_iload hx hb d_Row_addFrom_12 (lv_at hl 0 rfl) ?_
        refine lv_iadd hx hb d_Row_addFrom_14 ?_
        refine lv_topi (fun y_2 ey_2 => ?_)
        refine gc_i (wr := [(r, .inr (1, [.ref a, .int sz2_3])), (a, .inl (G.2.1 0, N, .inl f2_3))]) (gc_V (wc := [(r1, .inr (1, [.ref a1, .int sz1])), (a1, .inl (G.2.1 0, N1, .inl f1))]) (As := [.int y_2]) (rest := [.ref r]) ⟨hx, hb, hml, hown, hw⟩ (c_Row_get l G r1 a1 N1 sz1 f1 y_2 hN1 hok1 H.size) (cwV 1 hw (good_V m_173 m_144 m_145 m_2 m_146) rfl rfl rfl hy_Row_get ⟨Nat.le_of_ble_eq_true rfl, Nat.le_of_ble_eq_true rfl⟩) hE hP hD hS hA (va_recv hE.1 hP (ci := 1) (q0 := 2) rfl rfl) [2, 3] rfl (by decide) rfl hl rfl (Nat.le_of_ble_eq_true rfl) d_Row_addFrom_15 ⟨Nat.le_of_ble_eq_true rfl, Nat.le_of_ble_eq_true rfl⟩) hP hD hS hA [2, 3] [0, 1] rfl rfl (by decide) (by decide) (fun r_3 u_4 H locs hw_5 hP hD hS => ?_)
        have hP : va_P G.1 vwCl [(r, .inr (1, [.ref a, .int sz2_3])), (a, .inl (G.2.1 0, N, .inl f2_3)), (r1, .inr (1, [.ref a1, .int sz1])), (a1, .inl (G.2.1 0, N1, .inl f1))] H := hP
        have hD : va_D A [(r, .inr (1, [.ref a, .int sz2_3])), (a, .inl (G.2.1 0, N, .inl f2_3)), (r1, .inr (1, [.ref a1, .int sz1])), (a1, .inl (G.2.1 0, N1, .inl f1))] := hD
        refine gc_v (wr := [(r1, .inr (1, [.ref a1, .int sz1])), (a1, .inl (G.2.1 0, N1, .inl f1))]) (gc_V (wc := [(r, .inr (1, [.ref a, .int sz2_3])), (a, .inl (G.2.1 0, N, .inl f2_3))]) (As := [.int r_3]) (rest := []) ⟨hx, hb, hml, hown, hw⟩ (c_Row_add l G r a N sz2_3 f2_3 r_3 hN hj0_3 H.size) (cwV 1 hw (good_V m_93 m_94 m_95 m_2 m_96) rfl rfl rfl hy_Row_add ⟨Nat.le_of_ble_eq_true rfl, Nat.le_of_ble_eq_true rfl⟩) hE hP hD hS hA (va_recv hE.1 hP (ci := 1) (q0 := 0) rfl rfl) [0, 1] rfl (by decide) rfl hl rfl (Nat.le_of_ble_eq_true rfl) d_Row_addFrom_18 ⟨Nat.le_of_ble_eq_true rfl, Nat.le_of_ble_eq_true rfl⟩) hP hD hS hA [0, 1] [2, 3] rfl rfl (by decide) (by decide) (fun u_7 H locs hw_8 hP hD hS => ?_)
        obtain ⟨sz2_9, f2_10⟩ := u_7
        try dsimp only at hw_8
        obtain ⟨h_11, h_12⟩ := hw_8
        have hP : va_P G.1 vwCl [(r1, .inr (1, [.ref a1, .int sz1])), (a1, .inl (G.2.1 0, N1, .inl f1)), (r, .inr (1, [.ref a, .int sz2_9])), (a, .inl (G.2.1 0, N, .inl f2_10))] H := hP
        have hD : va_D A [(r1, .inr (1, [.ref a1, .int sz1])), (a1, .inl (G.2.1 0, N1, .inl f1)), (r, .inr (1, [.ref a, .int sz2_9])), (a, .inl (G.2.1 0, N, .inl f2_10))] := hD
        obtain ⟨y_13, ey_13⟩ : ∃ y : Int32, y = x4_3 + 1 := ⟨_, rfl⟩
        refine lv_iinc (v := y_13) (lv' := [(4, .int y_13), (0, .ref r), (1, .ref r1), (2, .int i), (3, .int n)]) hx hb d_Row_addFrom_21 hl (k := 0) rfl (by rw [ey_13]; rfl) (by decide) rfl (fun ls hl => ?_)
        refine lv_goto (tgt := 3) hx hb d_Row_addFrom_24 (by decide) ?_
        exact ih_3 y_13 sz2_9 f2_10 h_11 (ms_up (by assumption) (by assumption) hm_3) _ _ (hP.sub [2, 3, 0, 1] rfl) (hD.sub [2, 3, 0, 1] (by decide) rfl) hS _ (lv_sub hl [0, 1, 2, 3, 4] rfl)
  refine lv_iconst (v := 0) hx hb d_Row_addFrom_0 (by decide) ?_
  refine lv_istore (lv' := [(4, .int 0), (0, .ref r), (1, .ref r1), (2, .int i), (3, .int n)]) hx hb d_Row_addFrom_1 hl (by decide) rfl (fun ls hl => ?_)
  exact J_3 _ 0 sz f hok (Nat.lt_succ_self _) _ _ (hP.sub [0, 1, 2, 3] rfl) (hD.sub [0, 1, 2, 3] (by decide) rfl) hS _ (lv_sub hl [0, 1, 2, 3, 4] rfl)
def rm_Row_hasAt : Room := { frames := 1, cells := 0, slots := 0, locals := 21 }
set_option maxHeartbeats 4000000 in
set_option maxRecDepth 100000 in
/-- hasAt(i, row, j, n) -/
theorem c_Row_hasAt (l : Launch) (G : GG) (r : Nat) (a : Nat) (N : Nat) (sz : Int32) (f : Nat → Int32) (r1 : Nat) (a1 : Nat) (N1 : Nat) (sz1 : Int32) (f1 : Nat → Int32) (i : Int32) (j : Int32) (n : Int32) (hN : N ≤ 2000) (hok : RowOk N sz) (hN1 : N1 ≤ 2000) (hok1 : RowOk N1 sz1) : MI l y_Row_hasAt b_Row_hasAt 6 .boolean rm_Row_hasAt G [.ref r, .int i, .ref r1, .int j, .int n] [(r, .inr (1, [.ref a, .int sz])), (a, .inl (G.2.1 0, N, .inl f)), (r1, .inr (1, [.ref a1, .int sz1])), (a1, .inl (G.2.1 0, N1, .inl f1))] (fun (v : Int32) (u : Unit) => (v = 0 ∨ v = 1)) (fun (u : Unit) => [(r, .inr (1, [.ref a, .int sz])), (a, .inl (G.2.1 0, N, .inl f)), (r1, .inr (1, [.ref a1, .int sz1])), (a1, .inl (G.2.1 0, N1, .inl f1))]) 0 0 := by
  refine MI.of (cc := b_Row_hasAt) (maxL := 6) (ty := .boolean) (C := R_Row) (by decide +kernel) rfl (Nat.le_of_ble_eq_true rfl) ?_
  intro p e s m args below meth c A Q H ls hx hb hml hown hw hE hA hP hD hS ret hl
  have hl : lv_has ls 6 [(0, .ref r), (1, .int i), (2, .ref r1), (3, .int j), (4, .int n)] := hl
  have J_3 : ∀ (fu : Nat) (x5_3 : Int32), (n.toInt - x5_3.toInt).toNat < fu → ∀ (H : Heap) (locs : List Loc), va_P G.1 vwCl [(r, .inr (1, [.ref a, .int sz])), (a, .inl (G.2.1 0, N, .inl f)), (r1, .inr (1, [.ref a1, .int sz1])), (a1, .inl (G.2.1 0, N1, .inl f1))] H → va_D A [(r, .inr (1, [.ref a, .int sz])), (a, .inl (G.2.1 0, N, .inl f)), (r1, .inr (1, [.ref a1, .int sz1])), (a1, .inl (G.2.1 0, N1, .inl f1))] → va_S A s.heap H locs → ∀ ls : Array Slot, lv_has ls 6 [(5, .int x5_3), (0, .ref r), (1, .int i), (2, .ref r1), (3, .int j), (4, .int n)] → W p l e rm_Row_hasAt s m args below meth c H locs 0 0 Q (F0 m 3 ls []) := by
    intro fu
    induction fu with
    | zero =>
      intro x5_3 hm
      exact absurd hm (Nat.not_lt_zero _)
    | succ fu ih_3 =>
      intro x5_3 hm_3 H locs hP hD hS ls hl
      refine lv_iload hx hb d_Row_hasAt_3 (lv_at hl 0 rfl) ?_
      refine lv_iload hx hb d_Row_hasAt_5 (lv_at hl 5 rfl) ?_
      refine lv_icmp_ge (tgt := 37) hx hb d_Row_hasAt_7 (by decide) (fun c_1 => ?_) (fun c_1 => ?_)
      · refine lv_iconst (v := 1) hx hb d_Row_hasAt_37 (by decide) ?_
        exact ret 1 () (Nat.le_of_ble_eq_true rfl) (Nat.le_of_ble_eq_true rfl) d_Row_hasAt_38 rfl (by decide) (hP.sub [0, 1, 2, 3] rfl) (hD.sub [0, 1, 2, 3] (by decide) rfl) hS
      · refine lv_aload_n hx hb d_Row_hasAt_10 rfl (lv_at hl 1 rfl) ?_
        refine lv_iload_n hx hb d_Row_hasAt_11 rfl (lv_at hl 2 rfl) ?_
        refine lv_iload hx hb d_Row_hasAt_12 (lv_at hl 0 rfl) ?_
        refine lv_iadd hx hb d_Row_hasAt_14 ?_
        refine lv_topi (fun y_2 ey_2 => ?_)
        refine gc_i (wr := [(r1, .inr (1, [.ref a1, .int sz1])), (a1, .inl (G.2.1 0, N1, .inl f1))]) (gc_V (wc := [(r, .inr (1, [.ref a, .int sz])), (a, .inl (G.2.1 0, N, .inl f))]) (As := [.int y_2]) (rest := []) ⟨hx, hb, hml, hown, hw⟩ (c_Row_get l G r a N sz f y_2 hN hok H.size) (cwV 1 hw (good_V m_173 m_144 m_145 m_2 m_146) rfl rfl rfl hy_Row_get ⟨Nat.le_of_ble_eq_true rfl, Nat.le_of_ble_eq_true rfl⟩) hE hP hD hS hA (va_recv hE.1 hP (ci := 1) (q0 := 0) rfl rfl) [0, 1] rfl (by decide) rfl hl rfl (Nat.le_of_ble_eq_true rfl) d_Row_hasAt_15 ⟨Nat.le_of_ble_eq_true rfl, Nat.le_of_ble_eq_true rfl⟩) hP hD hS hA [0, 1] [2, 3] rfl rfl (by decide) (by decide) (fun r_3 u_4 H locs hw_5 hP hD hS => ?_)
        have hP : va_P G.1 vwCl [(r1, .inr (1, [.ref a1, .int sz1])), (a1, .inl (G.2.1 0, N1, .inl f1)), (r, .inr (1, [.ref a, .int sz])), (a, .inl (G.2.1 0, N, .inl f))] H := hP
        have hD : va_D A [(r1, .inr (1, [.ref a1, .int sz1])), (a1, .inl (G.2.1 0, N1, .inl f1)), (r, .inr (1, [.ref a, .int sz])), (a, .inl (G.2.1 0, N, .inl f))] := hD
        refine lv_aload_n hx hb d_Row_hasAt_18 rfl (lv_at hl 3 rfl) ?_
        refine lv_iload_n hx hb d_Row_hasAt_19 rfl (lv_at hl 4 rfl) ?_
        refine lv_iload hx hb d_Row_hasAt_20 (lv_at hl 0 rfl) ?_
        refine lv_iadd hx hb d_Row_hasAt_22 ?_
        refine lv_topi (fun y_6 ey_6 => ?_)
        refine gc_i (wr := [(r, .inr (1, [.ref a, .int sz])), (a, .inl (G.2.1 0, N, .inl f))]) (gc_V (wc := [(r1, .inr (1, [.ref a1, .int sz1])), (a1, .inl (G.2.1 0, N1, .inl f1))]) (As := [.int y_6]) (rest := [.int r_3]) ⟨hx, hb, hml, hown, hw⟩ (c_Row_get l G r1 a1 N1 sz1 f1 y_6 hN1 hok1 H.size) (cwV 1 hw (good_V m_173 m_144 m_145 m_2 m_146) rfl rfl rfl hy_Row_get ⟨Nat.le_of_ble_eq_true rfl, Nat.le_of_ble_eq_true rfl⟩) hE hP hD hS hA (va_recv hE.1 hP (ci := 1) (q0 := 0) rfl rfl) [0, 1] rfl (by decide) rfl hl rfl (Nat.le_of_ble_eq_true rfl) d_Row_hasAt_23 ⟨Nat.le_of_ble_eq_true rfl, Nat.le_of_ble_eq_true rfl⟩) hP hD hS hA [0, 1] [2, 3] rfl rfl (by decide) (by decide) (fun r_7 u_8 H locs hw_9 hP hD hS => ?_)
        have hP : va_P G.1 vwCl [(r, .inr (1, [.ref a, .int sz])), (a, .inl (G.2.1 0, N, .inl f)), (r1, .inr (1, [.ref a1, .int sz1])), (a1, .inl (G.2.1 0, N1, .inl f1))] H := hP
        have hD : va_D A [(r, .inr (1, [.ref a, .int sz])), (a, .inl (G.2.1 0, N, .inl f)), (r1, .inr (1, [.ref a1, .int sz1])), (a1, .inl (G.2.1 0, N1, .inl f1))] := hD
        refine lv_icmp_eq (tgt := 31) hx hb d_Row_hasAt_26 (by decide) (fun c_10 => ?_) (fun c_10 => ?_)
        · obtain ⟨y_11, ey_11⟩ : ∃ y : Int32, y = x5_3 + 1 := ⟨_, rfl⟩
          refine lv_iinc (v := y_11) (lv' := [(5, .int y_11), (0, .ref r), (1, .int i), (2, .ref r1), (3, .int j), (4, .int n)]) hx hb d_Row_hasAt_31 hl (k := 0) rfl (by rw [ey_11]; rfl) (by decide) rfl (fun ls hl => ?_)
          refine lv_goto (tgt := 3) hx hb d_Row_hasAt_34 (by decide) ?_
          exact ih_3 y_11 (ms_up (by assumption) (by assumption) hm_3) _ _ (hP.sub [0, 1, 2, 3] rfl) (hD.sub [0, 1, 2, 3] (by decide) rfl) hS _ (lv_sub hl [0, 1, 2, 3, 4, 5] rfl)
        · refine lv_iconst (v := 0) hx hb d_Row_hasAt_29 (by decide) ?_
          exact ret 0 () (Nat.le_of_ble_eq_true rfl) (Nat.le_of_ble_eq_true rfl) d_Row_hasAt_30 rfl (by decide) (hP.sub [0, 1, 2, 3] rfl) (hD.sub [0, 1, 2, 3] (by decide) rfl) hS
  refine lv_iconst (v := 0) hx hb d_Row_hasAt_0 (by decide) ?_
  refine lv_istore (lv' := [(5, .int 0), (0, .ref r), (1, .int i), (2, .ref r1), (3, .int j), (4, .int n)]) hx hb d_Row_hasAt_1 hl (by decide) rfl (fun ls hl => ?_)
  exact J_3 _ 0 (Nat.lt_succ_self _) _ _ (hP.sub [0, 1, 2, 3] rfl) (hD.sub [0, 1, 2, 3] (by decide) rfl) hS _ (lv_sub hl [0, 1, 2, 3, 4, 5] rfl)
def rm_Row_addWord : Room := { frames := 4, cells := 0, slots := 0, locals := 85 }
set_option maxHeartbeats 4000000 in
set_option maxRecDepth 100000 in
/-- addWord(text k) -/
theorem c_Row_addWord (l : Launch) (G : GG) (r : Nat) (a : Nat) (N : Nat) (sz : Int32) (f : Nat → Int32) (k : Nat) (hN : N ≤ 2000) (hok : RowOk N sz) (hk : k < nS) : MV l y_Row_addWord b_Row_addWord 3 rm_Row_addWord G [.ref r, .ref (G.2.2.1 k)] [(r, .inr (1, [.ref a, .int sz])), (a, .inl (G.2.1 0, N, .inl f))] (fun (u : Int32 × (Nat → Int32)) => (RowOk N u.1)) (fun (u : Int32 × (Nat → Int32)) => [(r, .inr (1, [.ref a, .int u.1])), (a, .inl (G.2.1 0, N, .inl u.2))]) 0 0 := by
  refine MV.of (cc := b_Row_addWord) (maxL := 3) (C := R_Row) (by decide +kernel) rfl (Nat.le_of_ble_eq_true rfl) ?_
  intro p e s m args below meth c A Q H ls hx hb hml hown hw hE hA hP hD hS hin ret hl
  have hl : lv_has ls 3 [(0, .ref r), (1, .ref (G.2.2.1 k))] := hl
  have J_2 : ∀ (fu : Nat) (x2_2 : Int32) (sz2_2 : Int32) (f2_2 : Nat → Int32) (hj0_2 : RowOk N sz2_2) (hk0_2 : 0 ≤ x2_2.toInt), ((nI (lenS.getD k 0)).toInt - x2_2.toInt).toNat < fu → ∀ (H : Heap) (locs : List Loc), va_P G.1 vwCl [(r, .inr (1, [.ref a, .int sz2_2])), (a, .inl (G.2.1 0, N, .inl f2_2))] H → va_D A [(r, .inr (1, [.ref a, .int sz2_2])), (a, .inl (G.2.1 0, N, .inl f2_2))] → va_S A s.heap H locs → ∀ ls : Array Slot, lv_has ls 3 [(2, .int x2_2), (0, .ref r), (1, .ref (G.2.2.1 k))] → W p l e rm_Row_addWord s m args below meth c H locs 0 0 Q (F0 m 2 ls []) := by
    intro fu
    induction fu with
    | zero =>
      intro x2_2 sz2_2 f2_2 hj0_2 hk0_2 hm
      exact absurd hm (Nat.not_lt_zero _)
    | succ fu ih_2 =>
      intro x2_2 sz2_2 f2_2 hj0_2 hk0_2 hm_2 H locs hP hD hS ls hl
      refine lv_iload_n hx hb d_Row_addWord_2 rfl (lv_at hl 0 rfl) ?_
      refine lv_aload_n hx hb d_Row_addWord_3 rfl (lv_at hl 2 rfl) ?_
      refine gc_i (wr := [(r, .inr (1, [.ref a, .int sz2_2])), (a, .inl (G.2.1 0, N, .inl f2_2))]) (gc_V (wc := []) (As := []) (rest := [.int x2_2]) ⟨hx, hb, hml, hown, hw⟩ (c_Str_length l G k hk H.size) (cwV 0 hw (good_V m_347 m_266 m_267 m_6 m_268) rfl rfl rfl hy_Str_length ⟨Nat.le_of_ble_eq_true rfl, Nat.le_of_ble_eq_true rfl⟩) hE hP hD hS hA (vk_recv (hE.2.1 k hk).1 (i := 0) (by decide) hS) [] rfl (by decide) rfl hl rfl (Nat.le_of_ble_eq_true rfl) d_Row_addWord_4 ⟨Nat.le_of_ble_eq_true rfl, Nat.le_of_ble_eq_true rfl⟩) hP hD hS hA [] [0, 1] rfl rfl (by decide) (by decide) (fun r_1 u_2 H locs hw_3 hP hD hS => ?_)
      try dsimp only at hw_3
      have h_4 := hw_3
      subst h_4
      have hP : va_P G.1 vwCl [(r, .inr (1, [.ref a, .int sz2_2])), (a, .inl (G.2.1 0, N, .inl f2_2))] H := hP
      have hD : va_D A [(r, .inr (1, [.ref a, .int sz2_2])), (a, .inl (G.2.1 0, N, .inl f2_2))] := hD
      refine lv_icmp_ge (tgt := 25) hx hb d_Row_addWord_7 (by decide) (fun c_5 => ?_) (fun c_5 => ?_)
      · exact ret (sz2_2, f2_2) (Nat.le_of_ble_eq_true rfl) (Nat.le_of_ble_eq_true rfl) d_Row_addWord_25 hj0_2 (hP.sub [0, 1] rfl) (hD.sub [0, 1] (by decide) rfl) hS
      · refine lv_aload_n hx hb d_Row_addWord_10 rfl (lv_at hl 1 rfl) ?_
        refine lv_aload_n hx hb d_Row_addWord_11 rfl (lv_at hl 2 rfl) ?_
        refine lv_iload_n hx hb d_Row_addWord_12 rfl (lv_at hl 0 rfl) ?_
        refine gc_i (wr := [(r, .inr (1, [.ref a, .int sz2_2])), (a, .inl (G.2.1 0, N, .inl f2_2))]) (gc_V (wc := []) (As := [.int x2_2]) (rest := [.ref r]) ⟨hx, hb, hml, hown, hw⟩ (c_Str_charAt l G k x2_2 hk (⟨hk0_2, z_nle (by assumption)⟩) H.size) (cwV 1 hw (good_V m_348 m_276 m_277 m_6 m_278) rfl rfl rfl hy_Str_charAt ⟨Nat.le_of_ble_eq_true rfl, Nat.le_of_ble_eq_true rfl⟩) hE hP hD hS hA (vk_recv (hE.2.1 k hk).1 (i := 0) (by decide) hS) [] rfl (by decide) rfl hl rfl (Nat.le_of_ble_eq_true rfl) d_Row_addWord_13 ⟨Nat.le_of_ble_eq_true rfl, Nat.le_of_ble_eq_true rfl⟩) hP hD hS hA [] [0, 1] rfl rfl (by decide) (by decide) (fun r_6 u_7 H locs hw_8 hP hD hS => ?_)
        have hP : va_P G.1 vwCl [(r, .inr (1, [.ref a, .int sz2_2])), (a, .inl (G.2.1 0, N, .inl f2_2))] H := hP
        have hD : va_D A [(r, .inr (1, [.ref a, .int sz2_2])), (a, .inl (G.2.1 0, N, .inl f2_2))] := hD
        refine gc_v (wr := []) (gc_V (wc := [(r, .inr (1, [.ref a, .int sz2_2])), (a, .inl (G.2.1 0, N, .inl f2_2))]) (As := [.int r_6]) (rest := []) ⟨hx, hb, hml, hown, hw⟩ (c_Row_add l G r a N sz2_2 f2_2 r_6 hN hj0_2 H.size) (cwV 1 hw (good_V m_93 m_94 m_95 m_2 m_96) rfl rfl rfl hy_Row_add ⟨Nat.le_of_ble_eq_true rfl, Nat.le_of_ble_eq_true rfl⟩) hE hP hD hS hA (va_recv hE.1 hP (ci := 1) (q0 := 0) rfl rfl) [0, 1] rfl (by decide) rfl hl rfl (Nat.le_of_ble_eq_true rfl) d_Row_addWord_16 ⟨Nat.le_of_ble_eq_true rfl, Nat.le_of_ble_eq_true rfl⟩) hP hD hS hA [0, 1] [] rfl rfl (by decide) (by decide) (fun u_10 H locs hw_11 hP hD hS => ?_)
        obtain ⟨sz2_12, f2_13⟩ := u_10
        try dsimp only at hw_11
        obtain ⟨h_14, h_15⟩ := hw_11
        have hP : va_P G.1 vwCl [(r, .inr (1, [.ref a, .int sz2_12])), (a, .inl (G.2.1 0, N, .inl f2_13))] H := hP
        have hD : va_D A [(r, .inr (1, [.ref a, .int sz2_12])), (a, .inl (G.2.1 0, N, .inl f2_13))] := hD
        obtain ⟨y_16, ey_16⟩ : ∃ y : Int32, y = x2_2 + 1 := ⟨_, rfl⟩
        refine lv_iinc (v := y_16) (lv' := [(2, .int y_16), (0, .ref r), (1, .ref (G.2.2.1 k))]) hx hb d_Row_addWord_19 hl (k := 0) rfl (by rw [ey_16]; rfl) (by decide) rfl (fun ls hl => ?_)
        refine lv_goto (tgt := 2) hx hb d_Row_addWord_22 (by decide) ?_
        exact ih_2 y_16 sz2_12 f2_13 h_14 (by exact up_0 hk0_2 (by assumption) (by assumption)) (ms_up (by assumption) (by assumption) hm_2) _ _ (hP.sub [0, 1] rfl) (hD.sub [0, 1] (by decide) rfl) hS _ (lv_sub hl [0, 1, 2] rfl)
  refine lv_iconst (v := 0) hx hb d_Row_addWord_0 (by decide) ?_
  refine lv_istore_n (lv' := [(2, .int 0), (0, .ref r), (1, .ref (G.2.2.1 k))]) hx hb d_Row_addWord_1 rfl hl (by decide) rfl (fun ls hl => ?_)
  exact J_2 _ 0 sz f hok (by decide) (Nat.lt_succ_self _) _ _ (hP.sub [0, 1] rfl) (hD.sub [0, 1] (by decide) rfl) hS _ (lv_sub hl [0, 1, 2] rfl)
end
section
def rm_Tree_init : Room := { frames := 2, cells := 6, slots := 5002, locals := 33 }
set_option maxHeartbeats 4000000 in
set_option maxRecDepth 100000 in
/-- Tree() -/
theorem c_Tree_init (l : Launch) (G : GG) (t : Nat) : MV l y_Tree_init b_Tree_init 1 rm_Tree_init G [.ref t] [(t, .inr (2, [.null, .null, .null, .null, .null, .int 0]))] (fun (u : Nat × Nat × Nat × Nat × Nat × Nat) => True) (fun (u : Nat × Nat × Nat × Nat × Nat × Nat) => [(t, .inr (2, [.ref u.1, .ref u.2.1, .ref u.2.2.1, .ref u.2.2.2.1, .ref u.2.2.2.2.1, .int 0])), (u.1, .inl (G.2.1 0, 1000, .inl (fun _ => 0))), (u.2.1, .inl (G.2.1 1, 1000, .inl (fun _ => 0))), (u.2.2.1, .inl (G.2.1 1, 1000, .inl (fun _ => 0))), (u.2.2.2.1, .inl (G.2.1 1, 1000, .inl (fun _ => 0))), (u.2.2.2.2.1, .inr (1, [.ref u.2.2.2.2.2, .int 0])), (u.2.2.2.2.2, .inl (G.2.1 0, 1000, .inl (fun _ => 0)))]) 6 5002 := by
  refine MV.of (cc := b_Tree_init) (maxL := 1) (C := R_Tree) (by decide +kernel) rfl (Nat.le_of_ble_eq_true rfl) ?_
  intro p e s m args below meth c A Q H ls hx hb hml hown hw hE hA hP hD hS hin ret hl
  have hl : lv_has ls 1 [(0, .ref t)] := hl
  refine lv_aload_n hx hb d_Tree_init_0 rfl (lv_at hl 0 rfl) ?_
  refine W.objInit hx hb hown (hw _ m_42) (hw _ m_21) (hw _ m_oi) rfl (by rw [hml]; exact hl.1) rfl d_Tree_init_1 (Nat.le_of_ble_eq_true rfl) (Nat.le_of_ble_eq_true rfl) ?_
  refine W.eq (g2 := F0 m 4 ls []) rfl ?_
  refine lv_aload_n hx hb d_Tree_init_4 rfl (lv_at hl 0 rfl) ?_
  refine lv_sipush (v := 1000) hx hb d_Tree_init_5 (by decide) ?_
  refine gc_newa (atype := .byte) (ty := .byte) (N' := 1000) (a0 := (1000, .inl (fun _ => 0))) hx hb (hw _ m_36) rfl hE hP hD hS hA 0 rfl (fun _ h => h) (fun _ => rfl) (by decide) (by decide) (by decide) (Nat.le_of_ble_eq_true rfl) (Nat.le_of_ble_eq_true rfl) d_Tree_init_8 (fun q_1 H hP hD hS => ?_)
  have hP : va_P G.1 vwCl [(t, .inr (2, [.null, .null, .null, .null, .null, .int 0])), (q_1, .inl (G.2.1 0, 1000, .inl (fun _ => 0)))] H := hP
  have hD : va_D A [(t, .inr (2, [.null, .null, .null, .null, .null, .int 0])), (q_1, .inl (G.2.1 0, 1000, .inl (fun _ => 0)))] := hD
  refine W.widen (k := 1) (n := 1000) (Nat.le_of_ble_eq_true rfl) (Nat.le_of_ble_eq_true rfl) ?_
  refine va_putF (D := G.1) (ci := 2) (v := .ref q_1) (ty := (.array .byte)) (C := R_Tree) (T := F_Tree) (N := 6) hx hb hw i_Tree t_Tree t_Tree_ok n_Tree hown hE.1 hP hD hS 0 rfl rfl 0 (by decide) (hw _ m_45) (fun _ h9 => h9) rfl hin rfl (by decide +kernel) rfl rfl (Nat.le_of_ble_eq_true rfl) d_Tree_init_10 (fun H locs hP hD hS => ?_)
  have hP : va_P G.1 vwCl [(t, .inr (2, [.ref q_1, .null, .null, .null, .null, .int 0])), (q_1, .inl (G.2.1 0, 1000, .inl (fun _ => 0)))] H := hP
  have hD : va_D A [(t, .inr (2, [.ref q_1, .null, .null, .null, .null, .int 0])), (q_1, .inl (G.2.1 0, 1000, .inl (fun _ => 0)))] := hD
  refine lv_aload_n hx hb d_Tree_init_13 rfl (lv_at hl 0 rfl) ?_
  refine lv_sipush (v := 1000) hx hb d_Tree_init_14 (by decide) ?_
  refine gc_newa (atype := .int) (ty := .int) (N' := 1000) (a0 := (1000, .inl (fun _ => 0))) hx hb (hw _ m_64) rfl hE hP hD hS hA 1 rfl (fun _ h => h) (fun _ => rfl) (by decide) (by decide) (by decide) (Nat.le_of_ble_eq_true rfl) (Nat.le_of_ble_eq_true rfl) d_Tree_init_17 (fun q_2 H hP hD hS => ?_)
  have hP : va_P G.1 vwCl [(t, .inr (2, [.ref q_1, .null, .null, .null, .null, .int 0])), (q_1, .inl (G.2.1 0, 1000, .inl (fun _ => 0))), (q_2, .inl (G.2.1 1, 1000, .inl (fun _ => 0)))] H := hP
  have hD : va_D A [(t, .inr (2, [.ref q_1, .null, .null, .null, .null, .int 0])), (q_1, .inl (G.2.1 0, 1000, .inl (fun _ => 0))), (q_2, .inl (G.2.1 1, 1000, .inl (fun _ => 0)))] := hD
  refine W.widen (k := 2) (n := 2000) (Nat.le_of_ble_eq_true rfl) (Nat.le_of_ble_eq_true rfl) ?_
  refine va_putF (D := G.1) (ci := 2) (v := .ref q_2) (ty := (.array .int)) (C := R_Tree) (T := F_Tree) (N := 6) hx hb hw i_Tree t_Tree t_Tree_ok n_Tree hown hE.1 hP hD hS 0 rfl rfl 1 (by decide) (hw _ m_46) (fun _ h9 => h9) rfl hin rfl (by decide +kernel) rfl rfl (Nat.le_of_ble_eq_true rfl) d_Tree_init_19 (fun H locs hP hD hS => ?_)
  have hP : va_P G.1 vwCl [(t, .inr (2, [.ref q_1, .ref q_2, .null, .null, .null, .int 0])), (q_1, .inl (G.2.1 0, 1000, .inl (fun _ => 0))), (q_2, .inl (G.2.1 1, 1000, .inl (fun _ => 0)))] H := hP
  have hD : va_D A [(t, .inr (2, [.ref q_1, .ref q_2, .null, .null, .null, .int 0])), (q_1, .inl (G.2.1 0, 1000, .inl (fun _ => 0))), (q_2, .inl (G.2.1 1, 1000, .inl (fun _ => 0)))] := hD
  refine lv_aload_n hx hb d_Tree_init_22 rfl (lv_at hl 0 rfl) ?_
  refine lv_sipush (v := 1000) hx hb d_Tree_init_23 (by decide) ?_
  refine gc_newa (atype := .int) (ty := .int) (N' := 1000) (a0 := (1000, .inl (fun _ => 0))) hx hb (hw _ m_64) rfl hE hP hD hS hA 1 rfl (fun _ h => h) (fun _ => rfl) (by decide) (by decide) (by decide) (Nat.le_of_ble_eq_true rfl) (Nat.le_of_ble_eq_true rfl) d_Tree_init_26 (fun q_3 H hP hD hS => ?_)
  have hP : va_P G.1 vwCl [(t, .inr (2, [.ref q_1, .ref q_2, .null, .null, .null, .int 0])), (q_1, .inl (G.2.1 0, 1000, .inl (fun _ => 0))), (q_2, .inl (G.2.1 1, 1000, .inl (fun _ => 0))), (q_3, .inl (G.2.1 1, 1000, .inl (fun _ => 0)))] H := hP
  have hD : va_D A [(t, .inr (2, [.ref q_1, .ref q_2, .null, .null, .null, .int 0])), (q_1, .inl (G.2.1 0, 1000, .inl (fun _ => 0))), (q_2, .inl (G.2.1 1, 1000, .inl (fun _ => 0))), (q_3, .inl (G.2.1 1, 1000, .inl (fun _ => 0)))] := hD
  refine W.widen (k := 3) (n := 3000) (Nat.le_of_ble_eq_true rfl) (Nat.le_of_ble_eq_true rfl) ?_
  refine va_putF (D := G.1) (ci := 2) (v := .ref q_3) (ty := (.array .int)) (C := R_Tree) (T := F_Tree) (N := 6) hx hb hw i_Tree t_Tree t_Tree_ok n_Tree hown hE.1 hP hD hS 0 rfl rfl 2 (by decide) (hw _ m_47) (fun _ h9 => h9) rfl hin rfl (by decide +kernel) rfl rfl (Nat.le_of_ble_eq_true rfl) d_Tree_init_28 (fun H locs hP hD hS => ?_)
  have hP : va_P G.1 vwCl [(t, .inr (2, [.ref q_1, .ref q_2, .ref q_3, .null, .null, .int 0])), (q_1, .inl (G.2.1 0, 1000, .inl (fun _ => 0))), (q_2, .inl (G.2.1 1, 1000, .inl (fun _ => 0))), (q_3, .inl (G.2.1 1, 1000, .inl (fun _ => 0)))] H := hP
  have hD : va_D A [(t, .inr (2, [.ref q_1, .ref q_2, .ref q_3, .null, .null, .int 0])), (q_1, .inl (G.2.1 0, 1000, .inl (fun _ => 0))), (q_2, .inl (G.2.1 1, 1000, .inl (fun _ => 0))), (q_3, .inl (G.2.1 1, 1000, .inl (fun _ => 0)))] := hD
  refine lv_aload_n hx hb d_Tree_init_31 rfl (lv_at hl 0 rfl) ?_
  refine lv_sipush (v := 1000) hx hb d_Tree_init_32 (by decide) ?_
  refine gc_newa (atype := .int) (ty := .int) (N' := 1000) (a0 := (1000, .inl (fun _ => 0))) hx hb (hw _ m_64) rfl hE hP hD hS hA 1 rfl (fun _ h => h) (fun _ => rfl) (by decide) (by decide) (by decide) (Nat.le_of_ble_eq_true rfl) (Nat.le_of_ble_eq_true rfl) d_Tree_init_35 (fun q_4 H hP hD hS => ?_)
  have hP : va_P G.1 vwCl [(t, .inr (2, [.ref q_1, .ref q_2, .ref q_3, .null, .null, .int 0])), (q_1, .inl (G.2.1 0, 1000, .inl (fun _ => 0))), (q_2, .inl (G.2.1 1, 1000, .inl (fun _ => 0))), (q_3, .inl (G.2.1 1, 1000, .inl (fun _ => 0))), (q_4, .inl (G.2.1 1, 1000, .inl (fun _ => 0)))] H := hP
  have hD : va_D A [(t, .inr (2, [.ref q_1, .ref q_2, .ref q_3, .null, .null, .int 0])), (q_1, .inl (G.2.1 0, 1000, .inl (fun _ => 0))), (q_2, .inl (G.2.1 1, 1000, .inl (fun _ => 0))), (q_3, .inl (G.2.1 1, 1000, .inl (fun _ => 0))), (q_4, .inl (G.2.1 1, 1000, .inl (fun _ => 0)))] := hD
  refine W.widen (k := 4) (n := 4000) (Nat.le_of_ble_eq_true rfl) (Nat.le_of_ble_eq_true rfl) ?_
  refine va_putF (D := G.1) (ci := 2) (v := .ref q_4) (ty := (.array .int)) (C := R_Tree) (T := F_Tree) (N := 6) hx hb hw i_Tree t_Tree t_Tree_ok n_Tree hown hE.1 hP hD hS 0 rfl rfl 3 (by decide) (hw _ m_48) (fun _ h9 => h9) rfl hin rfl (by decide +kernel) rfl rfl (Nat.le_of_ble_eq_true rfl) d_Tree_init_37 (fun H locs hP hD hS => ?_)
  have hP : va_P G.1 vwCl [(t, .inr (2, [.ref q_1, .ref q_2, .ref q_3, .ref q_4, .null, .int 0])), (q_1, .inl (G.2.1 0, 1000, .inl (fun _ => 0))), (q_2, .inl (G.2.1 1, 1000, .inl (fun _ => 0))), (q_3, .inl (G.2.1 1, 1000, .inl (fun _ => 0))), (q_4, .inl (G.2.1 1, 1000, .inl (fun _ => 0)))] H := hP
  have hD : va_D A [(t, .inr (2, [.ref q_1, .ref q_2, .ref q_3, .ref q_4, .null, .int 0])), (q_1, .inl (G.2.1 0, 1000, .inl (fun _ => 0))), (q_2, .inl (G.2.1 1, 1000, .inl (fun _ => 0))), (q_3, .inl (G.2.1 1, 1000, .inl (fun _ => 0))), (q_4, .inl (G.2.1 1, 1000, .inl (fun _ => 0)))] := hD
  refine lv_aload_n hx hb d_Tree_init_40 rfl (lv_at hl 0 rfl) ?_
  refine va_new (ci := 1) (fs := [.null, .int 0]) (C := R_Row) (T := F_Row) (N := 2) hx hb hw i_Row t_Row t_Row_ok hown (hw _ m_43) (hw _ m_24) (hw _ m_2) hE.1 hP hD hS hA rfl (fun j hj => by rcases (show j = 0 ∨ j = 1 by omega) with rfl | rfl <;> rfl) (Nat.le_of_ble_eq_true rfl) (Nat.le_of_ble_eq_true rfl) d_Tree_init_41 (fun q_5 H hP hD hS => ?_)
  have hP : va_P G.1 vwCl [(t, .inr (2, [.ref q_1, .ref q_2, .ref q_3, .ref q_4, .null, .int 0])), (q_1, .inl (G.2.1 0, 1000, .inl (fun _ => 0))), (q_2, .inl (G.2.1 1, 1000, .inl (fun _ => 0))), (q_3, .inl (G.2.1 1, 1000, .inl (fun _ => 0))), (q_4, .inl (G.2.1 1, 1000, .inl (fun _ => 0))), (q_5, .inr (1, [.null, .int 0]))] H := hP
  have hD : va_D A [(t, .inr (2, [.ref q_1, .ref q_2, .ref q_3, .ref q_4, .null, .int 0])), (q_1, .inl (G.2.1 0, 1000, .inl (fun _ => 0))), (q_2, .inl (G.2.1 1, 1000, .inl (fun _ => 0))), (q_3, .inl (G.2.1 1, 1000, .inl (fun _ => 0))), (q_4, .inl (G.2.1 1, 1000, .inl (fun _ => 0))), (q_5, .inr (1, [.null, .int 0]))] := hD
  refine W.widen (k := 5) (n := 4002) (Nat.le_of_ble_eq_true rfl) (Nat.le_of_ble_eq_true rfl) ?_
  refine lv_dup hx hb d_Tree_init_44 rfl ?_
  refine lv_sipush (v := 1000) hx hb d_Tree_init_45 (by decide) ?_
  refine gc_v (wr := [(t, .inr (2, [.ref q_1, .ref q_2, .ref q_3, .ref q_4, .null, .int 0])), (q_1, .inl (G.2.1 0, 1000, .inl (fun _ => 0))), (q_2, .inl (G.2.1 1, 1000, .inl (fun _ => 0))), (q_3, .inl (G.2.1 1, 1000, .inl (fun _ => 0))), (q_4, .inl (G.2.1 1, 1000, .inl (fun _ => 0)))]) (gc_I (wc := [(q_5, .inr (1, [.null, .int 0]))]) (As := [.int 1000]) (rest := [.ref q_5, .ref t]) ⟨hx, hb, hml, hown, hw⟩ (c_Row_init_1000 l G q_5 H.size) (cwI 1 hw (good_U m_27) rfl rfl rfl (hw _ m_2) (hw _ m_44) (hw _ m_26) rfl hy_Row_init.2 ⟨Nat.le_of_ble_eq_true rfl, Nat.le_of_ble_eq_true rfl⟩) hE hP hD hS hA [5] rfl (by decide) rfl hl rfl (Nat.le_of_ble_eq_true rfl) d_Tree_init_48 ⟨Nat.le_of_ble_eq_true rfl, Nat.le_of_ble_eq_true rfl⟩) hP hD hS hA [5] [0, 1, 2, 3, 4] rfl rfl (by decide) (by decide) (fun u_7 H locs hw_8 hP hD hS => ?_)
  obtain ⟨a_9, rfl⟩ : ∃ z, z = u_7 := ⟨_, rfl⟩
  have hP : va_P G.1 vwCl [(t, .inr (2, [.ref q_1, .ref q_2, .ref q_3, .ref q_4, .null, .int 0])), (q_1, .inl (G.2.1 0, 1000, .inl (fun _ => 0))), (q_2, .inl (G.2.1 1, 1000, .inl (fun _ => 0))), (q_3, .inl (G.2.1 1, 1000, .inl (fun _ => 0))), (q_4, .inl (G.2.1 1, 1000, .inl (fun _ => 0))), (q_5, .inr (1, [.ref a_9, .int 0])), (a_9, .inl (G.2.1 0, 1000, .inl (fun _ => 0)))] H := hP
  have hD : va_D A [(t, .inr (2, [.ref q_1, .ref q_2, .ref q_3, .ref q_4, .null, .int 0])), (q_1, .inl (G.2.1 0, 1000, .inl (fun _ => 0))), (q_2, .inl (G.2.1 1, 1000, .inl (fun _ => 0))), (q_3, .inl (G.2.1 1, 1000, .inl (fun _ => 0))), (q_4, .inl (G.2.1 1, 1000, .inl (fun _ => 0))), (q_5, .inr (1, [.ref a_9, .int 0])), (a_9, .inl (G.2.1 0, 1000, .inl (fun _ => 0)))] := hD
  refine W.widen (k := 6) (n := 5002) (Nat.le_of_ble_eq_true rfl) (Nat.le_of_ble_eq_true rfl) ?_
  refine va_putF (D := G.1) (ci := 2) (v := .ref q_5) (ty := (.object "ValueTexts$Row")) (C := R_Tree) (T := F_Tree) (N := 6) hx hb hw i_Tree t_Tree t_Tree_ok n_Tree hown hE.1 hP hD hS 0 rfl rfl 4 (by decide) (hw _ m_49) (fun _ h9 => h9) rfl hin rfl (by decide +kernel) rfl rfl (Nat.le_of_ble_eq_true rfl) d_Tree_init_51 (fun H locs hP hD hS => ?_)
  have hP : va_P G.1 vwCl [(t, .inr (2, [.ref q_1, .ref q_2, .ref q_3, .ref q_4, .ref q_5, .int 0])), (q_1, .inl (G.2.1 0, 1000, .inl (fun _ => 0))), (q_2, .inl (G.2.1 1, 1000, .inl (fun _ => 0))), (q_3, .inl (G.2.1 1, 1000, .inl (fun _ => 0))), (q_4, .inl (G.2.1 1, 1000, .inl (fun _ => 0))), (q_5, .inr (1, [.ref a_9, .int 0])), (a_9, .inl (G.2.1 0, 1000, .inl (fun _ => 0)))] H := hP
  have hD : va_D A [(t, .inr (2, [.ref q_1, .ref q_2, .ref q_3, .ref q_4, .ref q_5, .int 0])), (q_1, .inl (G.2.1 0, 1000, .inl (fun _ => 0))), (q_2, .inl (G.2.1 1, 1000, .inl (fun _ => 0))), (q_3, .inl (G.2.1 1, 1000, .inl (fun _ => 0))), (q_4, .inl (G.2.1 1, 1000, .inl (fun _ => 0))), (q_5, .inr (1, [.ref a_9, .int 0])), (a_9, .inl (G.2.1 0, 1000, .inl (fun _ => 0)))] := hD
  refine lv_aload_n hx hb d_Tree_init_54 rfl (lv_at hl 0 rfl) ?_
  refine lv_iconst (v := 0) hx hb d_Tree_init_55 (by decide) ?_
  refine va_put (D := G.1) (ci := 2) (v := .int 0) (ty := .int) (C := R_Tree) (T := F_Tree) (N := 6) hx hb hw i_Tree t_Tree t_Tree_ok n_Tree hown hE.1 hP hD hS 0 rfl rfl 5 (by decide) (hw _ m_50) (fun _ h9 => h9) rfl (by decide +kernel) rfl rfl (Nat.le_of_ble_eq_true rfl) d_Tree_init_56 (fun H locs hP hD hS => ?_)
  have hP : va_P G.1 vwCl [(t, .inr (2, [.ref q_1, .ref q_2, .ref q_3, .ref q_4, .ref q_5, .int 0])), (q_1, .inl (G.2.1 0, 1000, .inl (fun _ => 0))), (q_2, .inl (G.2.1 1, 1000, .inl (fun _ => 0))), (q_3, .inl (G.2.1 1, 1000, .inl (fun _ => 0))), (q_4, .inl (G.2.1 1, 1000, .inl (fun _ => 0))), (q_5, .inr (1, [.ref a_9, .int 0])), (a_9, .inl (G.2.1 0, 1000, .inl (fun _ => 0)))] H := hP
  have hD : va_D A [(t, .inr (2, [.ref q_1, .ref q_2, .ref q_3, .ref q_4, .ref q_5, .int 0])), (q_1, .inl (G.2.1 0, 1000, .inl (fun _ => 0))), (q_2, .inl (G.2.1 1, 1000, .inl (fun _ => 0))), (q_3, .inl (G.2.1 1, 1000, .inl (fun _ => 0))), (q_4, .inl (G.2.1 1, 1000, .inl (fun _ => 0))), (q_5, .inr (1, [.ref a_9, .int 0])), (a_9, .inl (G.2.1 0, 1000, .inl (fun _ => 0)))] := hD
  exact ret (q_1, q_2, q_3, q_4, q_5, a_9) (Nat.le_of_ble_eq_true rfl) (Nat.le_of_ble_eq_true rfl) d_Tree_init_59 trivial (hP.sub [0, 1, 2, 3, 4, 5, 6] rfl) (hD.sub [0, 1, 2, 3, 4, 5, 6] (by decide) rfl) hS
def rm_Tree_clear : Room := { frames := 1, cells := 0, slots := 0, locals := 21 }
set_option maxHeartbeats 4000000 in
set_option maxRecDepth 100000 in
/-- clear() -/
theorem c_Tree_clear (l : Launch) (G : GG) (t : Nat) (ka : Nat) (na : Nat) (ga : Nat) (sa : Nat) (xr : Nat) (xa : Nat) (kf : Nat → Int32) (nf : Nat → Int32) (gf : Nat → Int32) (sf : Nat → Int32) (size : Int32) (xsz : Int32) (xf : Nat → Int32) (hs : RowOk 1000 size) (hxs : RowOk 1000 xsz) : MV l y_Tree_clear b_Tree_clear 1 rm_Tree_clear G [.ref t] [(t, .inr (2, [.ref ka, .ref na, .ref ga, .ref sa, .ref xr, .int size])), (ka, .inl (G.2.1 0, 1000, .inl kf)), (na, .inl (G.2.1 1, 1000, .inl nf)), (ga, .inl (G.2.1 1, 1000, .inl gf)), (sa, .inl (G.2.1 1, 1000, .inl sf)), (xr, .inr (1, [.ref xa, .int xsz])), (xa, .inl (G.2.1 0, 1000, .inl xf))] (fun (u : Int32) => (RowOk 1000 u)) (fun (u : Int32) => [(t, .inr (2, [.ref ka, .ref na, .ref ga, .ref sa, .ref xr, .int 0])), (ka, .inl (G.2.1 0, 1000, .inl kf)), (na, .inl (G.2.1 1, 1000, .inl nf)), (ga, .inl (G.2.1 1, 1000, .inl gf)), (sa, .inl (G.2.1 1, 1000, .inl sf)), (xr, .inr (1, [.ref xa, .int u])), (xa, .inl (G.2.1 0, 1000, .inl xf))]) 0 0 := by
  refine MV.of (cc := b_Tree_clear) (maxL := 1) (C := R_Tree) (by decide +kernel) rfl (Nat.le_of_ble_eq_true rfl) ?_
  intro p e s m args below meth c A Q H ls hx hb hml hown hw hE hA hP hD hS hin ret hl
  have hl : lv_has ls 1 [(0, .ref t)] := hl
  refine lv_aload_n hx hb d_Tree_clear_0 rfl (lv_at hl 0 rfl) ?_
  refine lv_iconst (v := 0) hx hb d_Tree_clear_1 (by decide) ?_
  refine va_put (D := G.1) (ci := 2) (v := .int 0) (ty := .int) (C := R_Tree) (T := F_Tree) (N := 6) hx hb hw i_Tree t_Tree t_Tree_ok n_Tree hown hE.1 hP hD hS 0 rfl rfl 5 (by decide) (hw _ m_50) (fun _ h9 => h9) rfl (by decide +kernel) rfl rfl (Nat.le_of_ble_eq_true rfl) d_Tree_clear_2 (fun H locs hP hD hS => ?_)
  have hP : va_P G.1 vwCl [(t, .inr (2, [.ref ka, .ref na, .ref ga, .ref sa, .ref xr, .int 0])), (ka, .inl (G.2.1 0, 1000, .inl kf)), (na, .inl (G.2.1 1, 1000, .inl nf)), (ga, .inl (G.2.1 1, 1000, .inl gf)), (sa, .inl (G.2.1 1, 1000, .inl sf)), (xr, .inr (1, [.ref xa, .int xsz])), (xa, .inl (G.2.1 0, 1000, .inl xf))] H := hP
  have hD : va_D A [(t, .inr (2, [.ref ka, .ref na, .ref ga, .ref sa, .ref xr, .int 0])), (ka, .inl (G.2.1 0, 1000, .inl kf)), (na, .inl (G.2.1 1, 1000, .inl nf)), (ga, .inl (G.2.1 1, 1000, .inl gf)), (sa, .inl (G.2.1 1, 1000, .inl sf)), (xr, .inr (1, [.ref xa, .int xsz])), (xa, .inl (G.2.1 0, 1000, .inl xf))] := hD
  refine lv_aload_n hx hb d_Tree_clear_5 rfl (lv_at hl 0 rfl) ?_
  refine va_get (D := G.1) (ci := 2) (v := .ref xr) (C := R_Tree) (T := F_Tree) (N := 6) hx hb hw i_Tree hown hE.1 hP 0 rfl rfl 4 (by decide) (hw _ m_49) (fun _ h9 => h9) rfl d_Tree_clear_6 ?_
  refine lv_iconst (v := 0) hx hb d_Tree_clear_9 (by decide) ?_
  refine gc_v (wr := [(t, .inr (2, [.ref ka, .ref na, .ref ga, .ref sa, .ref xr, .int 0])), (ka, .inl (G.2.1 0, 1000, .inl kf)), (na, .inl (G.2.1 1, 1000, .inl nf)), (ga, .inl (G.2.1 1, 1000, .inl gf)), (sa, .inl (G.2.1 1, 1000, .inl sf))]) (gc_V (wc := [(xr, .inr (1, [.ref xa, .int xsz])), (xa, .inl (G.2.1 0, 1000, .inl xf))]) (As := [.int 0]) (rest := []) ⟨hx, hb, hml, hown, hw⟩ (c_Row_cut l G xr xa 1000 xsz xf 0 (by decide) hxs H.size) (cwV 1 hw (good_V m_133 m_102 m_103 m_2 m_104) rfl rfl rfl hy_Row_cut ⟨Nat.le_of_ble_eq_true rfl, Nat.le_of_ble_eq_true rfl⟩) hE hP hD hS hA (va_recv hE.1 hP (ci := 1) (q0 := 5) rfl rfl) [5, 6] rfl (by decide) rfl hl rfl (Nat.le_of_ble_eq_true rfl) d_Tree_clear_10 ⟨Nat.le_of_ble_eq_true rfl, Nat.le_of_ble_eq_true rfl⟩) hP hD hS hA [5, 6] [0, 1, 2, 3, 4] rfl rfl (by decide) (by decide) (fun u_2 H locs hw_3 hP hD hS => ?_)
  obtain ⟨sz2_4, rfl⟩ : ∃ z, z = u_2 := ⟨_, rfl⟩
  try dsimp only at hw_3
  obtain ⟨h_5, h_6⟩ := hw_3
  have hP : va_P G.1 vwCl [(t, .inr (2, [.ref ka, .ref na, .ref ga, .ref sa, .ref xr, .int 0])), (ka, .inl (G.2.1 0, 1000, .inl kf)), (na, .inl (G.2.1 1, 1000, .inl nf)), (ga, .inl (G.2.1 1, 1000, .inl gf)), (sa, .inl (G.2.1 1, 1000, .inl sf)), (xr, .inr (1, [.ref xa, .int sz2_4])), (xa, .inl (G.2.1 0, 1000, .inl xf))] H := hP
  have hD : va_D A [(t, .inr (2, [.ref ka, .ref na, .ref ga, .ref sa, .ref xr, .int 0])), (ka, .inl (G.2.1 0, 1000, .inl kf)), (na, .inl (G.2.1 1, 1000, .inl nf)), (ga, .inl (G.2.1 1, 1000, .inl gf)), (sa, .inl (G.2.1 1, 1000, .inl sf)), (xr, .inr (1, [.ref xa, .int sz2_4])), (xa, .inl (G.2.1 0, 1000, .inl xf))] := hD
  exact ret (sz2_4) (Nat.le_of_ble_eq_true rfl) (Nat.le_of_ble_eq_true rfl) d_Tree_clear_13 h_5 (hP.sub [0, 1, 2, 3, 4, 5, 6] rfl) (hD.sub [0, 1, 2, 3, 4, 5, 6] (by decide) rfl) hS
def rm_Tree_holds : Room := { frames := 0, cells := 0, slots := 0, locals := 0 }
set_option maxHeartbeats 4000000 in
set_option maxRecDepth 100000 in
/-- holds(i) -/
theorem c_Tree_holds (l : Launch) (G : GG) (t : Nat) (ka : Nat) (na : Nat) (ga : Nat) (sa : Nat) (xr : Nat) (xa : Nat) (kf : Nat → Int32) (nf : Nat → Int32) (gf : Nat → Int32) (sf : Nat → Int32) (size : Int32) (xsz : Int32) (xf : Nat → Int32) (i : Int32) (hs : RowOk 1000 size) (hxs : RowOk 1000 xsz) : MI l y_Tree_holds b_Tree_holds 2 .boolean rm_Tree_holds G [.ref t, .int i] [(t, .inr (2, [.ref ka, .ref na, .ref ga, .ref sa, .ref xr, .int size])), (ka, .inl (G.2.1 0, 1000, .inl kf)), (na, .inl (G.2.1 1, 1000, .inl nf)), (ga, .inl (G.2.1 1, 1000, .inl gf)), (sa, .inl (G.2.1 1, 1000, .inl sf)), (xr, .inr (1, [.ref xa, .int xsz])), (xa, .inl (G.2.1 0, 1000, .inl xf))] (fun (v : Int32) (u : Unit) => ((v = 1 ∧ 0 ≤ i.toInt ∧ i.toInt < size.toInt) ∨ (v = 0 ∧ ¬ (0 ≤ i.toInt ∧ i.toInt < size.toInt)))) (fun (u : Unit) => [(t, .inr (2, [.ref ka, .ref na, .ref ga, .ref sa, .ref xr, .int size])), (ka, .inl (G.2.1 0, 1000, .inl kf)), (na, .inl (G.2.1 1, 1000, .inl nf)), (ga, .inl (G.2.1 1, 1000, .inl gf)), (sa, .inl (G.2.1 1, 1000, .inl sf)), (xr, .inr (1, [.ref xa, .int xsz])), (xa, .inl (G.2.1 0, 1000, .inl xf))]) 0 0 := by
  refine MI.of (cc := b_Tree_holds) (maxL := 2) (ty := .boolean) (C := R_Tree) (by decide +kernel) rfl (Nat.le_of_ble_eq_true rfl) ?_
  intro p e s m args below meth c A Q H ls hx hb hml hown hw hE hA hP hD hS ret hl
  have hl : lv_has ls 2 [(0, .ref t), (1, .int i)] := hl
  refine lv_iload_n hx hb d_Tree_holds_0 rfl (lv_at hl 1 rfl) ?_
  refine lv_if_lt (tgt := 16) hx hb d_Tree_holds_1 (by decide) (fun c_1 => ?_) (fun c_1 => ?_)
  · refine lv_iconst (v := 0) hx hb d_Tree_holds_16 (by decide) ?_
    exact ret 0 () (Nat.le_of_ble_eq_true rfl) (Nat.le_of_ble_eq_true rfl) d_Tree_holds_17 rfl (by first | exact Or.inl ⟨rfl, tr_h1 c_1 c_2⟩ | exact Or.inr ⟨rfl, tr_h2 c_1⟩ | exact Or.inr ⟨rfl, tr_h3 c_2⟩) (hP.sub [0, 1, 2, 3, 4, 5, 6] rfl) (hD.sub [0, 1, 2, 3, 4, 5, 6] (by decide) rfl) hS
  · refine lv_iload_n hx hb d_Tree_holds_4 rfl (lv_at hl 1 rfl) ?_
    refine lv_aload_n hx hb d_Tree_holds_5 rfl (lv_at hl 0 rfl) ?_
    refine va_get (D := G.1) (ci := 2) (v := .int size) (C := R_Tree) (T := F_Tree) (N := 6) hx hb hw i_Tree hown hE.1 hP 0 rfl rfl 5 (by decide) (hw _ m_50) (fun _ h9 => h9) rfl d_Tree_holds_6 ?_
    refine lv_icmp_ge (tgt := 16) hx hb d_Tree_holds_9 (by decide) (fun c_2 => ?_) (fun c_2 => ?_)
    · refine lv_iconst (v := 0) hx hb d_Tree_holds_16 (by decide) ?_
      exact ret 0 () (Nat.le_of_ble_eq_true rfl) (Nat.le_of_ble_eq_true rfl) d_Tree_holds_17 rfl (by first | exact Or.inl ⟨rfl, tr_h1 c_1 c_2⟩ | exact Or.inr ⟨rfl, tr_h2 c_1⟩ | exact Or.inr ⟨rfl, tr_h3 c_2⟩) (hP.sub [0, 1, 2, 3, 4, 5, 6] rfl) (hD.sub [0, 1, 2, 3, 4, 5, 6] (by decide) rfl) hS
    · refine lv_iconst (v := 1) hx hb d_Tree_holds_12 (by decide) ?_
      refine lv_goto (tgt := 17) hx hb d_Tree_holds_13 (by decide) ?_
      exact ret 1 () (Nat.le_of_ble_eq_true rfl) (Nat.le_of_ble_eq_true rfl) d_Tree_holds_17 rfl (by first | exact Or.inl ⟨rfl, tr_h1 c_1 c_2⟩ | exact Or.inr ⟨rfl, tr_h2 c_1⟩ | exact Or.inr ⟨rfl, tr_h3 c_2⟩) (hP.sub [0, 1, 2, 3, 4, 5, 6] rfl) (hD.sub [0, 1, 2, 3, 4, 5, 6] (by decide) rfl) hS
def rm_Tree_add : Room := { frames := 0, cells := 0, slots := 0, locals := 0 }
set_option maxHeartbeats 4000000 in
set_option maxRecDepth 100000 in
/-- add(kind, number, other) -/
theorem c_Tree_add (l : Launch) (G : GG) (t : Nat) (ka : Nat) (na : Nat) (ga : Nat) (sa : Nat) (xr : Nat) (xa : Nat) (kf : Nat → Int32) (nf : Nat → Int32) (gf : Nat → Int32) (sf : Nat → Int32) (size : Int32) (xsz : Int32) (xf : Nat → Int32) (k : Int32) (n : Int32) (o : Int32) (hs : RowOk 1000 size) (hxs : RowOk 1000 xsz) : MI l y_Tree_add b_Tree_add 5 .int rm_Tree_add G [.ref t, .int k, .int n, .int o] [(t, .inr (2, [.ref ka, .ref na, .ref ga, .ref sa, .ref xr, .int size])), (ka, .inl (G.2.1 0, 1000, .inl kf)), (na, .inl (G.2.1 1, 1000, .inl nf)), (ga, .inl (G.2.1 1, 1000, .inl gf)), (sa, .inl (G.2.1 1, 1000, .inl sf)), (xr, .inr (1, [.ref xa, .int xsz])), (xa, .inl (G.2.1 0, 1000, .inl xf))] (fun (v : Int32) (u : (Nat → Int32) × (Nat → Int32) × (Nat → Int32) × (Nat → Int32) × Int32) => (RowOk 1000 u.2.2.2.2)) (fun (u : (Nat → Int32) × (Nat → Int32) × (Nat → Int32) × (Nat → Int32) × Int32) => [(t, .inr (2, [.ref ka, .ref na, .ref ga, .ref sa, .ref xr, .int u.2.2.2.2])), (ka, .inl (G.2.1 0, 1000, .inl u.1)), (na, .inl (G.2.1 1, 1000, .inl u.2.1)), (ga, .inl (G.2.1 1, 1000, .inl u.2.2.1)), (sa, .inl (G.2.1 1, 1000, .inl u.2.2.2.1)), (xr, .inr (1, [.ref xa, .int xsz])), (xa, .inl (G.2.1 0, 1000, .inl xf))]) 0 0 := by
  refine MI.of (cc := b_Tree_add) (maxL := 5) (ty := .int) (C := R_Tree) (by decide +kernel) rfl (Nat.le_of_ble_eq_true rfl) ?_
  intro p e s m args below meth c A Q H ls hx hb hml hown hw hE hA hP hD hS ret hl
  have hl : lv_has ls 5 [(0, .ref t), (1, .int k), (2, .int n), (3, .int o)] := hl
  refine lv_aload_n hx hb d_Tree_add_0 rfl (lv_at hl 0 rfl) ?_
  refine va_get (D := G.1) (ci := 2) (v := .int size) (C := R_Tree) (T := F_Tree) (N := 6) hx hb hw i_Tree hown hE.1 hP 0 rfl rfl 5 (by decide) (hw _ m_50) (fun _ h9 => h9) rfl d_Tree_add_1 ?_
  refine lv_istore (lv' := [(4, .int size), (0, .ref t), (1, .int k), (2, .int n), (3, .int o)]) hx hb d_Tree_add_4 hl (by decide) rfl (fun ls hl => ?_)
  refine lv_iload hx hb d_Tree_add_6 (lv_at hl 0 rfl) ?_
  refine lv_sipush (v := 1000) hx hb d_Tree_add_8 (by decide) ?_
  refine lv_icmp_ge (tgt := 57) hx hb d_Tree_add_11 (by decide) (fun c_1 => ?_) (fun c_1 => ?_)
  · refine lv_iload hx hb d_Tree_add_57 (lv_at hl 0 rfl) ?_
    exact ret size (kf, nf, gf, sf, size) (Nat.le_of_ble_eq_true rfl) (Nat.le_of_ble_eq_true rfl) d_Tree_add_59 rfl (by first | exact hs | exact (row_add (N := 1000) (by decide) hs c_1 (by assumption)).1) (hP.sub [0, 1, 2, 3, 4, 5, 6] rfl) (hD.sub [0, 1, 2, 3, 4, 5, 6] (by decide) rfl) hS
  · refine lv_aload_n hx hb d_Tree_add_14 rfl (lv_at hl 1 rfl) ?_
    refine va_get (D := G.1) (ci := 2) (v := .ref ka) (C := R_Tree) (T := F_Tree) (N := 6) hx hb hw i_Tree hown hE.1 hP 0 rfl rfl 0 (by decide) (hw _ m_45) (fun _ h9 => h9) rfl d_Tree_add_15 ?_
    refine lv_iload hx hb d_Tree_add_18 (lv_at hl 0 rfl) ?_
    refine lv_iload_n hx hb d_Tree_add_20 rfl (lv_at hl 2 rfl) ?_
    refine lv_i2b hx hb d_Tree_add_21 rfl ?_
    refine lv_topi (fun y_2 ey_2 => ?_)
    refine va_bast hx hb hE.1 hP hD hS 1 0 rfl rfl (i := size) (row_in (N := 1000) (by decide) hs c_1) d_Tree_add_22 (fun H locs hP hD hS => ?_)
    obtain ⟨f_3, ef_3⟩ : ∃ y : Nat → Int32, y = upd kf size.toNatClampNeg (vp_nar .byte y_2) := ⟨_, rfl⟩
    rw [← ef_3] at hP hD
    have hP : va_P G.1 vwCl [(t, .inr (2, [.ref ka, .ref na, .ref ga, .ref sa, .ref xr, .int size])), (ka, .inl (G.2.1 0, 1000, .inl f_3)), (na, .inl (G.2.1 1, 1000, .inl nf)), (ga, .inl (G.2.1 1, 1000, .inl gf)), (sa, .inl (G.2.1 1, 1000, .inl sf)), (xr, .inr (1, [.ref xa, .int xsz])), (xa, .inl (G.2.1 0, 1000, .inl xf))] H := hP
    have hD : va_D A [(t, .inr (2, [.ref ka, .ref na, .ref ga, .ref sa, .ref xr, .int size])), (ka, .inl (G.2.1 0, 1000, .inl f_3)), (na, .inl (G.2.1 1, 1000, .inl nf)), (ga, .inl (G.2.1 1, 1000, .inl gf)), (sa, .inl (G.2.1 1, 1000, .inl sf)), (xr, .inr (1, [.ref xa, .int xsz])), (xa, .inl (G.2.1 0, 1000, .inl xf))] := hD
    refine lv_aload_n hx hb d_Tree_add_23 rfl (lv_at hl 1 rfl) ?_
    refine va_get (D := G.1) (ci := 2) (v := .ref na) (C := R_Tree) (T := F_Tree) (N := 6) hx hb hw i_Tree hown hE.1 hP 0 rfl rfl 1 (by decide) (hw _ m_46) (fun _ h9 => h9) rfl d_Tree_add_24 ?_
    refine lv_iload hx hb d_Tree_add_27 (lv_at hl 0 rfl) ?_
    refine lv_iload_n hx hb d_Tree_add_29 rfl (lv_at hl 3 rfl) ?_
    refine va_iast hx hb hE.1 hP hD hS 2 1 rfl rfl (i := size) (row_in (N := 1000) (by decide) hs c_1) d_Tree_add_30 (fun H locs hP hD hS => ?_)
    obtain ⟨f_4, ef_4⟩ : ∃ y : Nat → Int32, y = upd nf size.toNatClampNeg (n) := ⟨_, rfl⟩
    rw [← ef_4] at hP hD
    have hP : va_P G.1 vwCl [(t, .inr (2, [.ref ka, .ref na, .ref ga, .ref sa, .ref xr, .int size])), (ka, .inl (G.2.1 0, 1000, .inl f_3)), (na, .inl (G.2.1 1, 1000, .inl f_4)), (ga, .inl (G.2.1 1, 1000, .inl gf)), (sa, .inl (G.2.1 1, 1000, .inl sf)), (xr, .inr (1, [.ref xa, .int xsz])), (xa, .inl (G.2.1 0, 1000, .inl xf))] H := hP
    have hD : va_D A [(t, .inr (2, [.ref ka, .ref na, .ref ga, .ref sa, .ref xr, .int size])), (ka, .inl (G.2.1 0, 1000, .inl f_3)), (na, .inl (G.2.1 1, 1000, .inl f_4)), (ga, .inl (G.2.1 1, 1000, .inl gf)), (sa, .inl (G.2.1 1, 1000, .inl sf)), (xr, .inr (1, [.ref xa, .int xsz])), (xa, .inl (G.2.1 0, 1000, .inl xf))] := hD
    refine lv_aload_n hx hb d_Tree_add_31 rfl (lv_at hl 1 rfl) ?_
    refine va_get (D := G.1) (ci := 2) (v := .ref ga) (C := R_Tree) (T := F_Tree) (N := 6) hx hb hw i_Tree hown hE.1 hP 0 rfl rfl 2 (by decide) (hw _ m_47) (fun _ h9 => h9) rfl d_Tree_add_32 ?_
    refine lv_iload hx hb d_Tree_add_35 (lv_at hl 0 rfl) ?_
    refine lv_iload_n hx hb d_Tree_add_37 rfl (lv_at hl 4 rfl) ?_
    refine va_iast hx hb hE.1 hP hD hS 3 1 rfl rfl (i := size) (row_in (N := 1000) (by decide) hs c_1) d_Tree_add_38 (fun H locs hP hD hS => ?_)
    obtain ⟨f_5, ef_5⟩ : ∃ y : Nat → Int32, y = upd gf size.toNatClampNeg (o) := ⟨_, rfl⟩
    rw [← ef_5] at hP hD
    have hP : va_P G.1 vwCl [(t, .inr (2, [.ref ka, .ref na, .ref ga, .ref sa, .ref xr, .int size])), (ka, .inl (G.2.1 0, 1000, .inl f_3)), (na, .inl (G.2.1 1, 1000, .inl f_4)), (ga, .inl (G.2.1 1, 1000, .inl f_5)), (sa, .inl (G.2.1 1, 1000, .inl sf)), (xr, .inr (1, [.ref xa, .int xsz])), (xa, .inl (G.2.1 0, 1000, .inl xf))] H := hP
    have hD : va_D A [(t, .inr (2, [.ref ka, .ref na, .ref ga, .ref sa, .ref xr, .int size])), (ka, .inl (G.2.1 0, 1000, .inl f_3)), (na, .inl (G.2.1 1, 1000, .inl f_4)), (ga, .inl (G.2.1 1, 1000, .inl f_5)), (sa, .inl (G.2.1 1, 1000, .inl sf)), (xr, .inr (1, [.ref xa, .int xsz])), (xa, .inl (G.2.1 0, 1000, .inl xf))] := hD
    refine lv_aload_n hx hb d_Tree_add_39 rfl (lv_at hl 1 rfl) ?_
    refine va_get (D := G.1) (ci := 2) (v := .ref sa) (C := R_Tree) (T := F_Tree) (N := 6) hx hb hw i_Tree hown hE.1 hP 0 rfl rfl 3 (by decide) (hw _ m_48) (fun _ h9 => h9) rfl d_Tree_add_40 ?_
    refine lv_iload hx hb d_Tree_add_43 (lv_at hl 0 rfl) ?_
    refine lv_iconst (v := 1) hx hb d_Tree_add_45 (by decide) ?_
    refine va_iast hx hb hE.1 hP hD hS 4 1 rfl rfl (i := size) (row_in (N := 1000) (by decide) hs c_1) d_Tree_add_46 (fun H locs hP hD hS => ?_)
    obtain ⟨f_6, ef_6⟩ : ∃ y : Nat → Int32, y = upd sf size.toNatClampNeg (1) := ⟨_, rfl⟩
    rw [← ef_6] at hP hD
    have hP : va_P G.1 vwCl [(t, .inr (2, [.ref ka, .ref na, .ref ga, .ref sa, .ref xr, .int size])), (ka, .inl (G.2.1 0, 1000, .inl f_3)), (na, .inl (G.2.1 1, 1000, .inl f_4)), (ga, .inl (G.2.1 1, 1000, .inl f_5)), (sa, .inl (G.2.1 1, 1000, .inl f_6)), (xr, .inr (1, [.ref xa, .int xsz])), (xa, .inl (G.2.1 0, 1000, .inl xf))] H := hP
    have hD : va_D A [(t, .inr (2, [.ref ka, .ref na, .ref ga, .ref sa, .ref xr, .int size])), (ka, .inl (G.2.1 0, 1000, .inl f_3)), (na, .inl (G.2.1 1, 1000, .inl f_4)), (ga, .inl (G.2.1 1, 1000, .inl f_5)), (sa, .inl (G.2.1 1, 1000, .inl f_6)), (xr, .inr (1, [.ref xa, .int xsz])), (xa, .inl (G.2.1 0, 1000, .inl xf))] := hD
    refine lv_aload_n hx hb d_Tree_add_47 rfl (lv_at hl 1 rfl) ?_
    refine lv_dup hx hb d_Tree_add_48 rfl ?_
    refine va_get (D := G.1) (ci := 2) (v := .int size) (C := R_Tree) (T := F_Tree) (N := 6) hx hb hw i_Tree hown hE.1 hP 0 rfl rfl 5 (by decide) (hw _ m_50) (fun _ h9 => h9) rfl d_Tree_add_49 ?_
    refine lv_iconst (v := 1) hx hb d_Tree_add_52 (by decide) ?_
    refine lv_iadd hx hb d_Tree_add_53 ?_
    refine lv_topi (fun y_7 ey_7 => ?_)
    refine va_put (D := G.1) (ci := 2) (v := .int y_7) (ty := .int) (C := R_Tree) (T := F_Tree) (N := 6) hx hb hw i_Tree t_Tree t_Tree_ok n_Tree hown hE.1 hP hD hS 0 rfl rfl 5 (by decide) (hw _ m_50) (fun _ h9 => h9) rfl (by decide +kernel) rfl rfl (Nat.le_of_ble_eq_true rfl) d_Tree_add_54 (fun H locs hP hD hS => ?_)
    have hP : va_P G.1 vwCl [(t, .inr (2, [.ref ka, .ref na, .ref ga, .ref sa, .ref xr, .int y_7])), (ka, .inl (G.2.1 0, 1000, .inl f_3)), (na, .inl (G.2.1 1, 1000, .inl f_4)), (ga, .inl (G.2.1 1, 1000, .inl f_5)), (sa, .inl (G.2.1 1, 1000, .inl f_6)), (xr, .inr (1, [.ref xa, .int xsz])), (xa, .inl (G.2.1 0, 1000, .inl xf))] H := hP
    have hD : va_D A [(t, .inr (2, [.ref ka, .ref na, .ref ga, .ref sa, .ref xr, .int y_7])), (ka, .inl (G.2.1 0, 1000, .inl f_3)), (na, .inl (G.2.1 1, 1000, .inl f_4)), (ga, .inl (G.2.1 1, 1000, .inl f_5)), (sa, .inl (G.2.1 1, 1000, .inl f_6)), (xr, .inr (1, [.ref xa, .int xsz])), (xa, .inl (G.2.1 0, 1000, .inl xf))] := hD
    refine lv_iload hx hb d_Tree_add_57 (lv_at hl 0 rfl) ?_
    exact ret size (f_3, f_4, f_5, f_6, y_7) (Nat.le_of_ble_eq_true rfl) (Nat.le_of_ble_eq_true rfl) d_Tree_add_59 rfl (by first | exact hs | exact (row_add (N := 1000) (by decide) hs c_1 (by assumption)).1) (hP.sub [0, 1, 2, 3, 4, 5, 6] rfl) (hD.sub [0, 1, 2, 3, 4, 5, 6] (by decide) rfl) hS
def rm_Tree_countPart : Room := { frames := 1, cells := 0, slots := 0, locals := 21 }
set_option maxHeartbeats 4000000 in
set_option maxRecDepth 100000 in
/-- countPart(i) -/
theorem c_Tree_countPart (l : Launch) (G : GG) (t : Nat) (ka : Nat) (na : Nat) (ga : Nat) (sa : Nat) (xr : Nat) (xa : Nat) (kf : Nat → Int32) (nf : Nat → Int32) (gf : Nat → Int32) (sf : Nat → Int32) (size : Int32) (xsz : Int32) (xf : Nat → Int32) (i : Int32) (hs : RowOk 1000 size) (hxs : RowOk 1000 xsz) : MV l y_Tree_countPart b_Tree_countPart 2 rm_Tree_countPart G [.ref t, .int i] [(t, .inr (2, [.ref ka, .ref na, .ref ga, .ref sa, .ref xr, .int size])), (ka, .inl (G.2.1 0, 1000, .inl kf)), (na, .inl (G.2.1 1, 1000, .inl nf)), (ga, .inl (G.2.1 1, 1000, .inl gf)), (sa, .inl (G.2.1 1, 1000, .inl sf)), (xr, .inr (1, [.ref xa, .int xsz])), (xa, .inl (G.2.1 0, 1000, .inl xf))] (fun (u : (Nat → Int32) × (Nat → Int32)) => True) (fun (u : (Nat → Int32) × (Nat → Int32)) => [(t, .inr (2, [.ref ka, .ref na, .ref ga, .ref sa, .ref xr, .int size])), (ka, .inl (G.2.1 0, 1000, .inl kf)), (na, .inl (G.2.1 1, 1000, .inl u.1)), (ga, .inl (G.2.1 1, 1000, .inl gf)), (sa, .inl (G.2.1 1, 1000, .inl u.2)), (xr, .inr (1, [.ref xa, .int xsz])), (xa, .inl (G.2.1 0, 1000, .inl xf))]) 0 0 := by
  refine MV.of (cc := b_Tree_countPart) (maxL := 2) (C := R_Tree) (by decide +kernel) rfl (Nat.le_of_ble_eq_true rfl) ?_
  intro p e s m args below meth c A Q H ls hx hb hml hown hw hE hA hP hD hS hin ret hl
  have hl : lv_has ls 2 [(0, .ref t), (1, .int i)] := hl
  refine lv_aload_n hx hb d_Tree_countPart_0 rfl (lv_at hl 0 rfl) ?_
  refine lv_iload_n hx hb d_Tree_countPart_1 rfl (lv_at hl 1 rfl) ?_
  refine gc_i (wr := []) (gc_V (wc := [(t, .inr (2, [.ref ka, .ref na, .ref ga, .ref sa, .ref xr, .int size])), (ka, .inl (G.2.1 0, 1000, .inl kf)), (na, .inl (G.2.1 1, 1000, .inl nf)), (ga, .inl (G.2.1 1, 1000, .inl gf)), (sa, .inl (G.2.1 1, 1000, .inl sf)), (xr, .inr (1, [.ref xa, .int xsz])), (xa, .inl (G.2.1 0, 1000, .inl xf))]) (As := [.int i]) (rest := []) ⟨hx, hb, hml, hown, hw⟩ (c_Tree_holds l G t ka na ga sa xr xa kf nf gf sf size xsz xf i hs hxs H.size) (cwV 1 hw (good_V m_199 m_201 ms_8 m_3 m_202) rfl rfl rfl hy_Tree_holds ⟨Nat.le_of_ble_eq_true rfl, Nat.le_of_ble_eq_true rfl⟩) hE hP hD hS hA (va_recv hE.1 hP (ci := 2) (q0 := 0) rfl rfl) [0, 1, 2, 3, 4, 5, 6] rfl (by decide) rfl hl rfl (Nat.le_of_ble_eq_true rfl) d_Tree_countPart_2 ⟨Nat.le_of_ble_eq_true rfl, Nat.le_of_ble_eq_true rfl⟩) hP hD hS hA [0, 1, 2, 3, 4, 5, 6] [] rfl rfl (by decide) (by decide) (fun r_1 u_2 H locs hw_3 hP hD hS => ?_)
  try dsimp only at hw_3
  have h_4 := hw_3
  have hP : va_P G.1 vwCl [(t, .inr (2, [.ref ka, .ref na, .ref ga, .ref sa, .ref xr, .int size])), (ka, .inl (G.2.1 0, 1000, .inl kf)), (na, .inl (G.2.1 1, 1000, .inl nf)), (ga, .inl (G.2.1 1, 1000, .inl gf)), (sa, .inl (G.2.1 1, 1000, .inl sf)), (xr, .inr (1, [.ref xa, .int xsz])), (xa, .inl (G.2.1 0, 1000, .inl xf))] H := hP
  have hD : va_D A [(t, .inr (2, [.ref ka, .ref na, .ref ga, .ref sa, .ref xr, .int size])), (ka, .inl (G.2.1 0, 1000, .inl kf)), (na, .inl (G.2.1 1, 1000, .inl nf)), (ga, .inl (G.2.1 1, 1000, .inl gf)), (sa, .inl (G.2.1 1, 1000, .inl sf)), (xr, .inr (1, [.ref xa, .int xsz])), (xa, .inl (G.2.1 0, 1000, .inl xf))] := hD
  refine lv_if_eq (tgt := 30) hx hb d_Tree_countPart_5 (by decide) (fun c_5 => ?_) (fun c_5 => ?_)
  · exact ret (nf, sf) (Nat.le_of_ble_eq_true rfl) (Nat.le_of_ble_eq_true rfl) d_Tree_countPart_30 trivial (hP.sub [0, 1, 2, 3, 4, 5, 6] rfl) (hD.sub [0, 1, 2, 3, 4, 5, 6] (by decide) rfl) hS
  · refine lv_aload_n hx hb d_Tree_countPart_8 rfl (lv_at hl 0 rfl) ?_
    refine va_get (D := G.1) (ci := 2) (v := .ref na) (C := R_Tree) (T := F_Tree) (N := 6) hx hb hw i_Tree hown hE.1 hP 0 rfl rfl 1 (by decide) (hw _ m_46) (fun _ h9 => h9) rfl d_Tree_countPart_9 ?_
    refine lv_iload_n hx hb d_Tree_countPart_12 rfl (lv_at hl 1 rfl) ?_
    refine lv_dup2_11 hx hb d_Tree_countPart_13 rfl rfl ?_
    refine va_iald hx hb hE.1 hP 2 1 rfl rfl (i := i) (tr_in hs h_4 c_5) d_Tree_countPart_14 ?_
    refine lv_topi (fun y_6 ey_6 => ?_)
    refine lv_iconst (v := 1) hx hb d_Tree_countPart_15 (by decide) ?_
    refine lv_iadd hx hb d_Tree_countPart_16 ?_
    refine lv_topi (fun y_7 ey_7 => ?_)
    refine va_iast hx hb hE.1 hP hD hS 2 1 rfl rfl (i := i) (tr_in hs h_4 c_5) d_Tree_countPart_17 (fun H locs hP hD hS => ?_)
    obtain ⟨f_8, ef_8⟩ : ∃ y : Nat → Int32, y = upd nf i.toNatClampNeg (y_7) := ⟨_, rfl⟩
    rw [← ef_8] at hP hD
    have hP : va_P G.1 vwCl [(t, .inr (2, [.ref ka, .ref na, .ref ga, .ref sa, .ref xr, .int size])), (ka, .inl (G.2.1 0, 1000, .inl kf)), (na, .inl (G.2.1 1, 1000, .inl f_8)), (ga, .inl (G.2.1 1, 1000, .inl gf)), (sa, .inl (G.2.1 1, 1000, .inl sf)), (xr, .inr (1, [.ref xa, .int xsz])), (xa, .inl (G.2.1 0, 1000, .inl xf))] H := hP
    have hD : va_D A [(t, .inr (2, [.ref ka, .ref na, .ref ga, .ref sa, .ref xr, .int size])), (ka, .inl (G.2.1 0, 1000, .inl kf)), (na, .inl (G.2.1 1, 1000, .inl f_8)), (ga, .inl (G.2.1 1, 1000, .inl gf)), (sa, .inl (G.2.1 1, 1000, .inl sf)), (xr, .inr (1, [.ref xa, .int xsz])), (xa, .inl (G.2.1 0, 1000, .inl xf))] := hD
    refine lv_aload_n hx hb d_Tree_countPart_18 rfl (lv_at hl 0 rfl) ?_
    refine va_get (D := G.1) (ci := 2) (v := .ref sa) (C := R_Tree) (T := F_Tree) (N := 6) hx hb hw i_Tree hown hE.1 hP 0 rfl rfl 3 (by decide) (hw _ m_48) (fun _ h9 => h9) rfl d_Tree_countPart_19 ?_
    refine lv_iload_n hx hb d_Tree_countPart_22 rfl (lv_at hl 1 rfl) ?_
    refine lv_aload_n hx hb d_Tree_countPart_23 rfl (lv_at hl 0 rfl) ?_
    refine va_get (D := G.1) (ci := 2) (v := .int size) (C := R_Tree) (T := F_Tree) (N := 6) hx hb hw i_Tree hown hE.1 hP 0 rfl rfl 5 (by decide) (hw _ m_50) (fun _ h9 => h9) rfl d_Tree_countPart_24 ?_
    refine lv_iload_n hx hb d_Tree_countPart_27 rfl (lv_at hl 1 rfl) ?_
    refine lv_isub hx hb d_Tree_countPart_28 ?_
    refine lv_topi (fun y_9 ey_9 => ?_)
    refine va_iast hx hb hE.1 hP hD hS 4 1 rfl rfl (i := i) (tr_in hs h_4 c_5) d_Tree_countPart_29 (fun H locs hP hD hS => ?_)
    obtain ⟨f_10, ef_10⟩ : ∃ y : Nat → Int32, y = upd sf i.toNatClampNeg (y_9) := ⟨_, rfl⟩
    rw [← ef_10] at hP hD
    have hP : va_P G.1 vwCl [(t, .inr (2, [.ref ka, .ref na, .ref ga, .ref sa, .ref xr, .int size])), (ka, .inl (G.2.1 0, 1000, .inl kf)), (na, .inl (G.2.1 1, 1000, .inl f_8)), (ga, .inl (G.2.1 1, 1000, .inl gf)), (sa, .inl (G.2.1 1, 1000, .inl f_10)), (xr, .inr (1, [.ref xa, .int xsz])), (xa, .inl (G.2.1 0, 1000, .inl xf))] H := hP
    have hD : va_D A [(t, .inr (2, [.ref ka, .ref na, .ref ga, .ref sa, .ref xr, .int size])), (ka, .inl (G.2.1 0, 1000, .inl kf)), (na, .inl (G.2.1 1, 1000, .inl f_8)), (ga, .inl (G.2.1 1, 1000, .inl gf)), (sa, .inl (G.2.1 1, 1000, .inl f_10)), (xr, .inr (1, [.ref xa, .int xsz])), (xa, .inl (G.2.1 0, 1000, .inl xf))] := hD
    exact ret (f_8, f_10) (Nat.le_of_ble_eq_true rfl) (Nat.le_of_ble_eq_true rfl) d_Tree_countPart_30 trivial (hP.sub [0, 1, 2, 3, 4, 5, 6] rfl) (hD.sub [0, 1, 2, 3, 4, 5, 6] (by decide) rfl) hS
def rm_Tree_text : Room := { frames := 0, cells := 0, slots := 0, locals := 0 }
set_option maxHeartbeats 4000000 in
set_option maxRecDepth 100000 in
/-- text() -/
theorem c_Tree_text (l : Launch) (G : GG) (t : Nat) (ka : Nat) (na : Nat) (ga : Nat) (sa : Nat) (xr : Nat) (xa : Nat) (kf : Nat → Int32) (nf : Nat → Int32) (gf : Nat → Int32) (sf : Nat → Int32) (size : Int32) (xsz : Int32) (xf : Nat → Int32) (hs : RowOk 1000 size) (hxs : RowOk 1000 xsz) : MR l y_Tree_text b_Tree_text 1 (.object "ValueTexts$Row") rm_Tree_text G [.ref t] [(t, .inr (2, [.ref ka, .ref na, .ref ga, .ref sa, .ref xr, .int size])), (ka, .inl (G.2.1 0, 1000, .inl kf)), (na, .inl (G.2.1 1, 1000, .inl nf)), (ga, .inl (G.2.1 1, 1000, .inl gf)), (sa, .inl (G.2.1 1, 1000, .inl sf)), (xr, .inr (1, [.ref xa, .int xsz])), (xa, .inl (G.2.1 0, 1000, .inl xf))] (fun (v : Nat) (u : Unit) => (xr = v)) (fun (u : Unit) => [(t, .inr (2, [.ref ka, .ref na, .ref ga, .ref sa, .ref xr, .int size])), (ka, .inl (G.2.1 0, 1000, .inl kf)), (na, .inl (G.2.1 1, 1000, .inl nf)), (ga, .inl (G.2.1 1, 1000, .inl gf)), (sa, .inl (G.2.1 1, 1000, .inl sf)), (xr, .inr (1, [.ref xa, .int xsz])), (xa, .inl (G.2.1 0, 1000, .inl xf))]) 0 0 := by
  refine MR.of (cc := b_Tree_text) (maxL := 1) (ty := .object "ValueTexts$Row") (C := R_Tree) (by decide +kernel) rfl (Nat.le_of_ble_eq_true rfl) (Or.inl ⟨_, rfl⟩) ?_
  intro p e s m args below meth c A Q H ls hx hb hml hown hw hE hA hP hD hS ret hl
  have hl : lv_has ls 1 [(0, .ref t)] := hl
  refine lv_aload_n hx hb d_Tree_text_0 rfl (lv_at hl 0 rfl) ?_
  refine va_get (D := G.1) (ci := 2) (v := .ref xr) (C := R_Tree) (T := F_Tree) (N := 6) hx hb hw i_Tree hown hE.1 hP 0 rfl rfl 4 (by decide) (hw _ m_49) (fun _ h9 => h9) rfl d_Tree_text_1 ?_
  exact ret xr () (Nat.le_of_ble_eq_true rfl) (Nat.le_of_ble_eq_true rfl) d_Tree_text_4 rfl (hP.sub [0, 1, 2, 3, 4, 5, 6] rfl) (hD.sub [0, 1, 2, 3, 4, 5, 6] (by decide) rfl) hS
def rm_Tree_kind : Room := { frames := 1, cells := 0, slots := 0, locals := 21 }
set_option maxHeartbeats 4000000 in
set_option maxRecDepth 100000 in
/-- kind(i) -/
theorem c_Tree_kind (l : Launch) (G : GG) (t : Nat) (ka : Nat) (na : Nat) (ga : Nat) (sa : Nat) (xr : Nat) (xa : Nat) (kf : Nat → Int32) (nf : Nat → Int32) (gf : Nat → Int32) (sf : Nat → Int32) (size : Int32) (xsz : Int32) (xf : Nat → Int32) (i : Int32) (hs : RowOk 1000 size) (hxs : RowOk 1000 xsz) : MI l y_Tree_kind b_Tree_kind 2 .int rm_Tree_kind G [.ref t, .int i] [(t, .inr (2, [.ref ka, .ref na, .ref ga, .ref sa, .ref xr, .int size])), (ka, .inl (G.2.1 0, 1000, .inl kf)), (na, .inl (G.2.1 1, 1000, .inl nf)), (ga, .inl (G.2.1 1, 1000, .inl gf)), (sa, .inl (G.2.1 1, 1000, .inl sf)), (xr, .inr (1, [.ref xa, .int xsz])), (xa, .inl (G.2.1 0, 1000, .inl xf))] (fun (v : Int32) (u : Unit) => True) (fun (u : Unit) => [(t, .inr (2, [.ref ka, .ref na, .ref ga, .ref sa, .ref xr, .int size])), (ka, .inl (G.2.1 0, 1000, .inl kf)), (na, .inl (G.2.1 1, 1000, .inl nf)), (ga, .inl (G.2.1 1, 1000, .inl gf)), (sa, .inl (G.2.1 1, 1000, .inl sf)), (xr, .inr (1, [.ref xa, .int xsz])), (xa, .inl (G.2.1 0, 1000, .inl xf))]) 0 0 := by
  refine MI.of (cc := b_Tree_kind) (maxL := 2) (ty := .int) (C := R_Tree) (by decide +kernel) rfl (Nat.le_of_ble_eq_true rfl) ?_
  intro p e s m args below meth c A Q H ls hx hb hml hown hw hE hA hP hD hS ret hl
  have hl : lv_has ls 2 [(0, .ref t), (1, .int i)] := hl
  refine lv_aload_n hx hb d_Tree_kind_0 rfl (lv_at hl 0 rfl) ?_
  refine lv_iload_n hx hb d_Tree_kind_1 rfl (lv_at hl 1 rfl) ?_
  refine gc_i (wr := []) (gc_V (wc := [(t, .inr (2, [.ref ka, .ref na, .ref ga, .ref sa, .ref xr, .int size])), (ka, .inl (G.2.1 0, 1000, .inl kf)), (na, .inl (G.2.1 1, 1000, .inl nf)), (ga, .inl (G.2.1 1, 1000, .inl gf)), (sa, .inl (G.2.1 1, 1000, .inl sf)), (xr, .inr (1, [.ref xa, .int xsz])), (xa, .inl (G.2.1 0, 1000, .inl xf))]) (As := [.int i]) (rest := []) ⟨hx, hb, hml, hown, hw⟩ (c_Tree_holds l G t ka na ga sa xr xa kf nf gf sf size xsz xf i hs hxs H.size) (cwV 1 hw (good_V m_199 m_201 ms_8 m_3 m_202) rfl rfl rfl hy_Tree_holds ⟨Nat.le_of_ble_eq_true rfl, Nat.le_of_ble_eq_true rfl⟩) hE hP hD hS hA (va_recv hE.1 hP (ci := 2) (q0 := 0) rfl rfl) [0, 1, 2, 3, 4, 5, 6] rfl (by decide) rfl hl rfl (Nat.le_of_ble_eq_true rfl) d_Tree_kind_2 ⟨Nat.le_of_ble_eq_true rfl, Nat.le_of_ble_eq_true rfl⟩) hP hD hS hA [0, 1, 2, 3, 4, 5, 6] [] rfl rfl (by decide) (by decide) (fun r_1 u_2 H locs hw_3 hP hD hS => ?_)
  try dsimp only at hw_3
  have h_4 := hw_3
  have hP : va_P G.1 vwCl [(t, .inr (2, [.ref ka, .ref na, .ref ga, .ref sa, .ref xr, .int size])), (ka, .inl (G.2.1 0, 1000, .inl kf)), (na, .inl (G.2.1 1, 1000, .inl nf)), (ga, .inl (G.2.1 1, 1000, .inl gf)), (sa, .inl (G.2.1 1, 1000, .inl sf)), (xr, .inr (1, [.ref xa, .int xsz])), (xa, .inl (G.2.1 0, 1000, .inl xf))] H := hP
  have hD : va_D A [(t, .inr (2, [.ref ka, .ref na, .ref ga, .ref sa, .ref xr, .int size])), (ka, .inl (G.2.1 0, 1000, .inl kf)), (na, .inl (G.2.1 1, 1000, .inl nf)), (ga, .inl (G.2.1 1, 1000, .inl gf)), (sa, .inl (G.2.1 1, 1000, .inl sf)), (xr, .inr (1, [.ref xa, .int xsz])), (xa, .inl (G.2.1 0, 1000, .inl xf))] := hD
  refine lv_if_eq (tgt := 17) hx hb d_Tree_kind_5 (by decide) (fun c_5 => ?_) (fun c_5 => ?_)
  · refine lv_bipush (v := (-2)) hx hb d_Tree_kind_17 (by decide) ?_
    exact ret (-2) () (Nat.le_of_ble_eq_true rfl) (Nat.le_of_ble_eq_true rfl) d_Tree_kind_19 rfl trivial (hP.sub [0, 1, 2, 3, 4, 5, 6] rfl) (hD.sub [0, 1, 2, 3, 4, 5, 6] (by decide) rfl) hS
  · refine lv_aload_n hx hb d_Tree_kind_8 rfl (lv_at hl 0 rfl) ?_
    refine va_get (D := G.1) (ci := 2) (v := .ref ka) (C := R_Tree) (T := F_Tree) (N := 6) hx hb hw i_Tree hown hE.1 hP 0 rfl rfl 0 (by decide) (hw _ m_45) (fun _ h9 => h9) rfl d_Tree_kind_9 ?_
    refine lv_iload_n hx hb d_Tree_kind_12 rfl (lv_at hl 1 rfl) ?_
    refine va_bald hx hb hE.1 hP 1 0 rfl rfl (i := i) (tr_in hs h_4 c_5) d_Tree_kind_13 ?_
    refine lv_topi (fun y_6 ey_6 => ?_)
    refine lv_goto (tgt := 19) hx hb d_Tree_kind_14 (by decide) ?_
    exact ret y_6 () (Nat.le_of_ble_eq_true rfl) (Nat.le_of_ble_eq_true rfl) d_Tree_kind_19 rfl trivial (hP.sub [0, 1, 2, 3, 4, 5, 6] rfl) (hD.sub [0, 1, 2, 3, 4, 5, 6] (by decide) rfl) hS
def rm_Tree_number : Room := { frames := 1, cells := 0, slots := 0, locals := 21 }
set_option maxHeartbeats 4000000 in
set_option maxRecDepth 100000 in
/-- number(i) -/
theorem c_Tree_number (l : Launch) (G : GG) (t : Nat) (ka : Nat) (na : Nat) (ga : Nat) (sa : Nat) (xr : Nat) (xa : Nat) (kf : Nat → Int32) (nf : Nat → Int32) (gf : Nat → Int32) (sf : Nat → Int32) (size : Int32) (xsz : Int32) (xf : Nat → Int32) (i : Int32) (hs : RowOk 1000 size) (hxs : RowOk 1000 xsz) : MI l y_Tree_number b_Tree_number 2 .int rm_Tree_number G [.ref t, .int i] [(t, .inr (2, [.ref ka, .ref na, .ref ga, .ref sa, .ref xr, .int size])), (ka, .inl (G.2.1 0, 1000, .inl kf)), (na, .inl (G.2.1 1, 1000, .inl nf)), (ga, .inl (G.2.1 1, 1000, .inl gf)), (sa, .inl (G.2.1 1, 1000, .inl sf)), (xr, .inr (1, [.ref xa, .int xsz])), (xa, .inl (G.2.1 0, 1000, .inl xf))] (fun (v : Int32) (u : Unit) => (tr_num size nf i = v)) (fun (u : Unit) => [(t, .inr (2, [.ref ka, .ref na, .ref ga, .ref sa, .ref xr, .int size])), (ka, .inl (G.2.1 0, 1000, .inl kf)), (na, .inl (G.2.1 1, 1000, .inl nf)), (ga, .inl (G.2.1 1, 1000, .inl gf)), (sa, .inl (G.2.1 1, 1000, .inl sf)), (xr, .inr (1, [.ref xa, .int xsz])), (xa, .inl (G.2.1 0, 1000, .inl xf))]) 0 0 := by
  refine MI.of (cc := b_Tree_number) (maxL := 2) (ty := .int) (C := R_Tree) (by decide +kernel) rfl (Nat.le_of_ble_eq_true rfl) ?_
  intro p e s m args below meth c A Q H ls hx hb hml hown hw hE hA hP hD hS ret hl
  have hl : lv_has ls 2 [(0, .ref t), (1, .int i)] := hl
  refine lv_aload_n hx hb d_Tree_number_0 rfl (lv_at hl 0 rfl) ?_
  refine lv_iload_n hx hb d_Tree_number_1 rfl (lv_at hl 1 rfl) ?_
  refine gc_i (wr := []) (gc_V (wc := [(t, .inr (2, [.ref ka, .ref na, .ref ga, .ref sa, .ref xr, .int size])), (ka, .inl (G.2.1 0, 1000, .inl kf)), (na, .inl (G.2.1 1, 1000, .inl nf)), (ga, .inl (G.2.1 1, 1000, .inl gf)), (sa, .inl (G.2.1 1, 1000, .inl sf)), (xr, .inr (1, [.ref xa, .int xsz])), (xa, .inl (G.2.1 0, 1000, .inl xf))]) (As := [.int i]) (rest := []) ⟨hx, hb, hml, hown, hw⟩ (c_Tree_holds l G t ka na ga sa xr xa kf nf gf sf size xsz xf i hs hxs H.size) (cwV 1 hw (good_V m_199 m_201 ms_8 m_3 m_202) rfl rfl rfl hy_Tree_holds ⟨Nat.le_of_ble_eq_true rfl, Nat.le_of_ble_eq_true rfl⟩) hE hP hD hS hA (va_recv hE.1 hP (ci := 2) (q0 := 0) rfl rfl) [0, 1, 2, 3, 4, 5, 6] rfl (by decide) rfl hl rfl (Nat.le_of_ble_eq_true rfl) d_Tree_number_2 ⟨Nat.le_of_ble_eq_true rfl, Nat.le_of_ble_eq_true rfl⟩) hP hD hS hA [0, 1, 2, 3, 4, 5, 6] [] rfl rfl (by decide) (by decide) (fun r_1 u_2 H locs hw_3 hP hD hS => ?_)
  try dsimp only at hw_3
  have h_4 := hw_3
  have hP : va_P G.1 vwCl [(t, .inr (2, [.ref ka, .ref na, .ref ga, .ref sa, .ref xr, .int size])), (ka, .inl (G.2.1 0, 1000, .inl kf)), (na, .inl (G.2.1 1, 1000, .inl nf)), (ga, .inl (G.2.1 1, 1000, .inl gf)), (sa, .inl (G.2.1 1, 1000, .inl sf)), (xr, .inr (1, [.ref xa, .int xsz])), (xa, .inl (G.2.1 0, 1000, .inl xf))] H := hP
  have hD : va_D A [(t, .inr (2, [.ref ka, .ref na, .ref ga, .ref sa, .ref xr, .int size])), (ka, .inl (G.2.1 0, 1000, .inl kf)), (na, .inl (G.2.1 1, 1000, .inl nf)), (ga, .inl (G.2.1 1, 1000, .inl gf)), (sa, .inl (G.2.1 1, 1000, .inl sf)), (xr, .inr (1, [.ref xa, .int xsz])), (xa, .inl (G.2.1 0, 1000, .inl xf))] := hD
  refine lv_if_eq (tgt := 17) hx hb d_Tree_number_5 (by decide) (fun c_5 => ?_) (fun c_5 => ?_)
  · refine lv_iconst (v := 0) hx hb d_Tree_number_17 (by decide) ?_
    exact ret 0 () (Nat.le_of_ble_eq_true rfl) (Nat.le_of_ble_eq_true rfl) d_Tree_number_18 rfl (by first | exact tr_num1 h_4 c_5 (by assumption) | exact tr_num0 h_4 c_5) (hP.sub [0, 1, 2, 3, 4, 5, 6] rfl) (hD.sub [0, 1, 2, 3, 4, 5, 6] (by decide) rfl) hS
  · refine lv_aload_n hx hb d_Tree_number_8 rfl (lv_at hl 0 rfl) ?_
    refine va_get (D := G.1) (ci := 2) (v := .ref na) (C := R_Tree) (T := F_Tree) (N := 6) hx hb hw i_Tree hown hE.1 hP 0 rfl rfl 1 (by decide) (hw _ m_46) (fun _ h9 => h9) rfl d_Tree_number_9 ?_
    refine lv_iload_n hx hb d_Tree_number_12 rfl (lv_at hl 1 rfl) ?_
    refine va_iald hx hb hE.1 hP 2 1 rfl rfl (i := i) (tr_in hs h_4 c_5) d_Tree_number_13 ?_
    refine lv_topi (fun y_6 ey_6 => ?_)
    refine lv_goto (tgt := 18) hx hb d_Tree_number_14 (by decide) ?_
    exact ret y_6 () (Nat.le_of_ble_eq_true rfl) (Nat.le_of_ble_eq_true rfl) d_Tree_number_18 rfl (by first | exact tr_num1 h_4 c_5 (by assumption) | exact tr_num0 h_4 c_5) (hP.sub [0, 1, 2, 3, 4, 5, 6] rfl) (hD.sub [0, 1, 2, 3, 4, 5, 6] (by decide) rfl) hS
def rm_Tree_other : Room := { frames := 1, cells := 0, slots := 0, locals := 21 }
set_option maxHeartbeats 4000000 in
set_option maxRecDepth 100000 in
/-- other(i) -/
theorem c_Tree_other (l : Launch) (G : GG) (t : Nat) (ka : Nat) (na : Nat) (ga : Nat) (sa : Nat) (xr : Nat) (xa : Nat) (kf : Nat → Int32) (nf : Nat → Int32) (gf : Nat → Int32) (sf : Nat → Int32) (size : Int32) (xsz : Int32) (xf : Nat → Int32) (i : Int32) (hs : RowOk 1000 size) (hxs : RowOk 1000 xsz) : MI l y_Tree_other b_Tree_other 2 .int rm_Tree_other G [.ref t, .int i] [(t, .inr (2, [.ref ka, .ref na, .ref ga, .ref sa, .ref xr, .int size])), (ka, .inl (G.2.1 0, 1000, .inl kf)), (na, .inl (G.2.1 1, 1000, .inl nf)), (ga, .inl (G.2.1 1, 1000, .inl gf)), (sa, .inl (G.2.1 1, 1000, .inl sf)), (xr, .inr (1, [.ref xa, .int xsz])), (xa, .inl (G.2.1 0, 1000, .inl xf))] (fun (v : Int32) (u : Unit) => True) (fun (u : Unit) => [(t, .inr (2, [.ref ka, .ref na, .ref ga, .ref sa, .ref xr, .int size])), (ka, .inl (G.2.1 0, 1000, .inl kf)), (na, .inl (G.2.1 1, 1000, .inl nf)), (ga, .inl (G.2.1 1, 1000, .inl gf)), (sa, .inl (G.2.1 1, 1000, .inl sf)), (xr, .inr (1, [.ref xa, .int xsz])), (xa, .inl (G.2.1 0, 1000, .inl xf))]) 0 0 := by
  refine MI.of (cc := b_Tree_other) (maxL := 2) (ty := .int) (C := R_Tree) (by decide +kernel) rfl (Nat.le_of_ble_eq_true rfl) ?_
  intro p e s m args below meth c A Q H ls hx hb hml hown hw hE hA hP hD hS ret hl
  have hl : lv_has ls 2 [(0, .ref t), (1, .int i)] := hl
  refine lv_aload_n hx hb d_Tree_other_0 rfl (lv_at hl 0 rfl) ?_
  refine lv_iload_n hx hb d_Tree_other_1 rfl (lv_at hl 1 rfl) ?_
  refine gc_i (wr := []) (gc_V (wc := [(t, .inr (2, [.ref ka, .ref na, .ref ga, .ref sa, .ref xr, .int size])), (ka, .inl (G.2.1 0, 1000, .inl kf)), (na, .inl (G.2.1 1, 1000, .inl nf)), (ga, .inl (G.2.1 1, 1000, .inl gf)), (sa, .inl (G.2.1 1, 1000, .inl sf)), (xr, .inr (1, [.ref xa, .int xsz])), (xa, .inl (G.2.1 0, 1000, .inl xf))]) (As := [.int i]) (rest := []) ⟨hx, hb, hml, hown, hw⟩ (c_Tree_holds l G t ka na ga sa xr xa kf nf gf sf size xsz xf i hs hxs H.size) (cwV 1 hw (good_V m_199 m_201 ms_8 m_3 m_202) rfl rfl rfl hy_Tree_holds ⟨Nat.le_of_ble_eq_true rfl, Nat.le_of_ble_eq_true rfl⟩) hE hP hD hS hA (va_recv hE.1 hP (ci := 2) (q0 := 0) rfl rfl) [0, 1, 2, 3, 4, 5, 6] rfl (by decide) rfl hl rfl (Nat.le_of_ble_eq_true rfl) d_Tree_other_2 ⟨Nat.le_of_ble_eq_true rfl, Nat.le_of_ble_eq_true rfl⟩) hP hD hS hA [0, 1, 2, 3, 4, 5, 6] [] rfl rfl (by decide) (by decide) (fun r_1 u_2 H locs hw_3 hP hD hS => ?_)
  try dsimp only at hw_3
  have h_4 := hw_3
  have hP : va_P G.1 vwCl [(t, .inr (2, [.ref ka, .ref na, .ref ga, .ref sa, .ref xr, .int size])), (ka, .inl (G.2.1 0, 1000, .inl kf)), (na, .inl (G.2.1 1, 1000, .inl nf)), (ga, .inl (G.2.1 1, 1000, .inl gf)), (sa, .inl (G.2.1 1, 1000, .inl sf)), (xr, .inr (1, [.ref xa, .int xsz])), (xa, .inl (G.2.1 0, 1000, .inl xf))] H := hP
  have hD : va_D A [(t, .inr (2, [.ref ka, .ref na, .ref ga, .ref sa, .ref xr, .int size])), (ka, .inl (G.2.1 0, 1000, .inl kf)), (na, .inl (G.2.1 1, 1000, .inl nf)), (ga, .inl (G.2.1 1, 1000, .inl gf)), (sa, .inl (G.2.1 1, 1000, .inl sf)), (xr, .inr (1, [.ref xa, .int xsz])), (xa, .inl (G.2.1 0, 1000, .inl xf))] := hD
  refine lv_if_eq (tgt := 17) hx hb d_Tree_other_5 (by decide) (fun c_5 => ?_) (fun c_5 => ?_)
  · refine lv_iconst (v := 0) hx hb d_Tree_other_17 (by decide) ?_
    exact ret 0 () (Nat.le_of_ble_eq_true rfl) (Nat.le_of_ble_eq_true rfl) d_Tree_other_18 rfl trivial (hP.sub [0, 1, 2, 3, 4, 5, 6] rfl) (hD.sub [0, 1, 2, 3, 4, 5, 6] (by decide) rfl) hS
  · refine lv_aload_n hx hb d_Tree_other_8 rfl (lv_at hl 0 rfl) ?_
    refine va_get (D := G.1) (ci := 2) (v := .ref ga) (C := R_Tree) (T := F_Tree) (N := 6) hx hb hw i_Tree hown hE.1 hP 0 rfl rfl 2 (by decide) (hw _ m_47) (fun _ h9 => h9) rfl d_Tree_other_9 ?_
    refine lv_iload_n hx hb d_Tree_other_12 rfl (lv_at hl 1 rfl) ?_
    refine va_iald hx hb hE.1 hP 3 1 rfl rfl (i := i) (tr_in hs h_4 c_5) d_Tree_other_13 ?_
    refine lv_topi (fun y_6 ey_6 => ?_)
    refine lv_goto (tgt := 18) hx hb d_Tree_other_14 (by decide) ?_
    exact ret y_6 () (Nat.le_of_ble_eq_true rfl) (Nat.le_of_ble_eq_true rfl) d_Tree_other_18 rfl trivial (hP.sub [0, 1, 2, 3, 4, 5, 6] rfl) (hD.sub [0, 1, 2, 3, 4, 5, 6] (by decide) rfl) hS
def rm_Tree_after : Room := { frames := 1, cells := 0, slots := 0, locals := 21 }
set_option maxHeartbeats 4000000 in
set_option maxRecDepth 100000 in
/-- after(i) -/
theorem c_Tree_after (l : Launch) (G : GG) (t : Nat) (ka : Nat) (na : Nat) (ga : Nat) (sa : Nat) (xr : Nat) (xa : Nat) (kf : Nat → Int32) (nf : Nat → Int32) (gf : Nat → Int32) (sf : Nat → Int32) (size : Int32) (xsz : Int32) (xf : Nat → Int32) (i : Int32) (hs : RowOk 1000 size) (hxs : RowOk 1000 xsz) : MI l y_Tree_after b_Tree_after 2 .int rm_Tree_after G [.ref t, .int i] [(t, .inr (2, [.ref ka, .ref na, .ref ga, .ref sa, .ref xr, .int size])), (ka, .inl (G.2.1 0, 1000, .inl kf)), (na, .inl (G.2.1 1, 1000, .inl nf)), (ga, .inl (G.2.1 1, 1000, .inl gf)), (sa, .inl (G.2.1 1, 1000, .inl sf)), (xr, .inr (1, [.ref xa, .int xsz])), (xa, .inl (G.2.1 0, 1000, .inl xf))] (fun (v : Int32) (u : Unit) => True) (fun (u : Unit) => [(t, .inr (2, [.ref ka, .ref na, .ref ga, .ref sa, .ref xr, .int size])), (ka, .inl (G.2.1 0, 1000, .inl kf)), (na, .inl (G.2.1 1, 1000, .inl nf)), (ga, .inl (G.2.1 1, 1000, .inl gf)), (sa, .inl (G.2.1 1, 1000, .inl sf)), (xr, .inr (1, [.ref xa, .int xsz])), (xa, .inl (G.2.1 0, 1000, .inl xf))]) 0 0 := by
  refine MI.of (cc := b_Tree_after) (maxL := 2) (ty := .int) (C := R_Tree) (by decide +kernel) rfl (Nat.le_of_ble_eq_true rfl) ?_
  intro p e s m args below meth c A Q H ls hx hb hml hown hw hE hA hP hD hS ret hl
  have hl : lv_has ls 2 [(0, .ref t), (1, .int i)] := hl
  refine lv_aload_n hx hb d_Tree_after_0 rfl (lv_at hl 0 rfl) ?_
  refine lv_iload_n hx hb d_Tree_after_1 rfl (lv_at hl 1 rfl) ?_
  refine gc_i (wr := []) (gc_V (wc := [(t, .inr (2, [.ref ka, .ref na, .ref ga, .ref sa, .ref xr, .int size])), (ka, .inl (G.2.1 0, 1000, .inl kf)), (na, .inl (G.2.1 1, 1000, .inl nf)), (ga, .inl (G.2.1 1, 1000, .inl gf)), (sa, .inl (G.2.1 1, 1000, .inl sf)), (xr, .inr (1, [.ref xa, .int xsz])), (xa, .inl (G.2.1 0, 1000, .inl xf))]) (As := [.int i]) (rest := []) ⟨hx, hb, hml, hown, hw⟩ (c_Tree_holds l G t ka na ga sa xr xa kf nf gf sf size xsz xf i hs hxs H.size) (cwV 1 hw (good_V m_199 m_201 ms_8 m_3 m_202) rfl rfl rfl hy_Tree_holds ⟨Nat.le_of_ble_eq_true rfl, Nat.le_of_ble_eq_true rfl⟩) hE hP hD hS hA (va_recv hE.1 hP (ci := 2) (q0 := 0) rfl rfl) [0, 1, 2, 3, 4, 5, 6] rfl (by decide) rfl hl rfl (Nat.le_of_ble_eq_true rfl) d_Tree_after_2 ⟨Nat.le_of_ble_eq_true rfl, Nat.le_of_ble_eq_true rfl⟩) hP hD hS hA [0, 1, 2, 3, 4, 5, 6] [] rfl rfl (by decide) (by decide) (fun r_1 u_2 H locs hw_3 hP hD hS => ?_)
  try dsimp only at hw_3
  have h_4 := hw_3
  have hP : va_P G.1 vwCl [(t, .inr (2, [.ref ka, .ref na, .ref ga, .ref sa, .ref xr, .int size])), (ka, .inl (G.2.1 0, 1000, .inl kf)), (na, .inl (G.2.1 1, 1000, .inl nf)), (ga, .inl (G.2.1 1, 1000, .inl gf)), (sa, .inl (G.2.1 1, 1000, .inl sf)), (xr, .inr (1, [.ref xa, .int xsz])), (xa, .inl (G.2.1 0, 1000, .inl xf))] H := hP
  have hD : va_D A [(t, .inr (2, [.ref ka, .ref na, .ref ga, .ref sa, .ref xr, .int size])), (ka, .inl (G.2.1 0, 1000, .inl kf)), (na, .inl (G.2.1 1, 1000, .inl nf)), (ga, .inl (G.2.1 1, 1000, .inl gf)), (sa, .inl (G.2.1 1, 1000, .inl sf)), (xr, .inr (1, [.ref xa, .int xsz])), (xa, .inl (G.2.1 0, 1000, .inl xf))] := hD
  refine lv_if_eq (tgt := 19) hx hb d_Tree_after_5 (by decide) (fun c_5 => ?_) (fun c_5 => ?_)
  · refine lv_aload_n hx hb d_Tree_after_19 rfl (lv_at hl 0 rfl) ?_
    refine va_get (D := G.1) (ci := 2) (v := .int size) (C := R_Tree) (T := F_Tree) (N := 6) hx hb hw i_Tree hown hE.1 hP 0 rfl rfl 5 (by decide) (hw _ m_50) (fun _ h9 => h9) rfl d_Tree_after_20 ?_
    exact ret size () (Nat.le_of_ble_eq_true rfl) (Nat.le_of_ble_eq_true rfl) d_Tree_after_23 rfl trivial (hP.sub [0, 1, 2, 3, 4, 5, 6] rfl) (hD.sub [0, 1, 2, 3, 4, 5, 6] (by decide) rfl) hS
  · refine lv_iload_n hx hb d_Tree_after_8 rfl (lv_at hl 1 rfl) ?_
    refine lv_aload_n hx hb d_Tree_after_9 rfl (lv_at hl 0 rfl) ?_
    refine va_get (D := G.1) (ci := 2) (v := .ref sa) (C := R_Tree) (T := F_Tree) (N := 6) hx hb hw i_Tree hown hE.1 hP 0 rfl rfl 3 (by decide) (hw _ m_48) (fun _ h9 => h9) rfl d_Tree_after_10 ?_
    refine lv_iload_n hx hb d_Tree_after_13 rfl (lv_at hl 1 rfl) ?_
    refine va_iald hx hb hE.1 hP 4 1 rfl rfl (i := i) (tr_in hs h_4 c_5) d_Tree_after_14 ?_
    refine lv_topi (fun y_6 ey_6 => ?_)
    refine lv_iadd hx hb d_Tree_after_15 ?_
    refine lv_topi (fun y_7 ey_7 => ?_)
    refine lv_goto (tgt := 23) hx hb d_Tree_after_16 (by decide) ?_
    exact ret y_7 () (Nat.le_of_ble_eq_true rfl) (Nat.le_of_ble_eq_true rfl) d_Tree_after_23 rfl trivial (hP.sub [0, 1, 2, 3, 4, 5, 6] rfl) (hD.sub [0, 1, 2, 3, 4, 5, 6] (by decide) rfl) hS
def rm_Tree_itemNode : Room := { frames := 2, cells := 0, slots := 0, locals := 42 }
set_option maxHeartbeats 4000000 in
set_option maxRecDepth 100000 in
theorem c_Tree_itemNode (l : Launch) (G : GG) (t : Nat) (ka : Nat) (na : Nat) (ga : Nat) (sa : Nat) (xr : Nat) (xa : Nat) (kf : Nat → Int32) (nf : Nat → Int32) (gf : Nat → Int32) (sf : Nat → Int32) (size : Int32) (xsz : Int32) (xf : Nat → Int32) (i : Int32) (k : Int32) (hs : RowOk 1000 size) (hxs : RowOk 1000 xsz) : MI l y_Tree_itemNode b_Tree_itemNode 5 .int rm_Tree_itemNode G [.ref t, .int i, .int k] [(t, .inr (2, [.ref ka, .ref na, .ref ga, .ref sa, .ref xr, .int size])), (ka, .inl (G.2.1 0, 1000, .inl kf)), (na, .inl (G.2.1 1, 1000, .inl nf)), (ga, .inl (G.2.1 1, 1000, .inl gf)), (sa, .inl (G.2.1 1, 1000, .inl sf)), (xr, .inr (1, [.ref xa, .int xsz])), (xa, .inl (G.2.1 0, 1000, .inl xf))] (fun (v : Int32) (u : Unit) => True) (fun (u : Unit) => [(t, .inr (2, [.ref ka, .ref na, .ref ga, .ref sa, .ref xr, .int size])), (ka, .inl (G.2.1 0, 1000, .inl kf)), (na, .inl (G.2.1 1, 1000, .inl nf)), (ga, .inl (G.2.1 1, 1000, .inl gf)), (sa, .inl (G.2.1 1, 1000, .inl sf)), (xr, .inr (1, [.ref xa, .int xsz])), (xa, .inl (G.2.1 0, 1000, .inl xf))]) 0 0 := by
  refine MI.of (cc := b_Tree_itemNode) (maxL := 5) (ty := .int) (C := R_Tree) (by decide +kernel) rfl (Nat.le_of_ble_eq_true rfl) ?_
  intro p e s m args below meth c A Q H ls hx hb hml hown hw hE hA hP hD hS ret hl
  have hl : lv_has ls 5 [(0, .ref t), (1, .int i), (2, .int k)] := hl
  have J_7 : ∀ (fu : Nat) (x4_7 : Int32) (x3_7 : Int32), (k.toInt - x4_7.toInt).toNat < fu → ∀ (H : Heap) (locs : List Loc), va_P G.1 vwCl [(t, .inr (2, [.ref ka, .ref na, .ref ga, .ref sa, .ref xr, .int size])), (ka, .inl (G.2.1 0, 1000, .inl kf)), (na, .inl (G.2.1 1, 1000, .inl nf)), (ga, .inl (G.2.1 1, 1000, .inl gf)), (sa, .inl (G.2.1 1, 1000, .inl sf)), (xr, .inr (1, [.ref xa, .int xsz])), (xa, .inl (G.2.1 0, 1000, .inl xf))] H → va_D A [(t, .inr (2, [.ref ka, .ref na, .ref ga, .ref sa, .ref xr, .int size])), (ka, .inl (G.2.1 0, 1000, .inl kf)), (na, .inl (G.2.1 1, 1000, .inl nf)), (ga, .inl (G.2.1 1, 1000, .inl gf)), (sa, .inl (G.2.1 1, 1000, .inl sf)), (xr, .inr (1, [.ref xa, .int xsz])), (xa, .inl (G.2.1 0, 1000, .inl xf))] → va_S A s.heap H locs → ∀ ls : Array Slot, lv_has ls 5 [(4, .int x4_7), (3, .int x3_7), (0, .ref t), (1, .int i), (2, .int k)] → W p l e rm_Tree_itemNode s m args below meth c H locs 0 0 Q (F0 m 7 ls []) := by
    intro fu
    induction fu with
    | zero =>
      intro x4_7 x3_7 hm
      exact absurd hm (Nat.not_lt_zero _)
    | succ fu ih_7 =>
      intro x4_7 x3_7 hm_7 H locs hP hD hS ls hl
      refine lv_iload hx hb d_Tree_itemNode_7 (lv_at hl 0 rfl) ?_
      refine lv_iload_n hx hb d_Tree_itemNode_9 rfl (lv_at hl 4 rfl) ?_
      refine lv_icmp_ge (tgt := 25) hx hb d_Tree_itemNode_10 (by decide) (fun c_1 => ?_) (fun c_1 => ?_)
      · refine lv_iload_n hx hb d_Tree_itemNode_25 rfl (lv_at hl 1 rfl) ?_
        exact ret x3_7 () (Nat.le_of_ble_eq_true rfl) (Nat.le_of_ble_eq_true rfl) d_Tree_itemNode_26 rfl trivial (hP.sub [0, 1, 2, 3, 4, 5, 6] rfl) (hD.sub [0, 1, 2, 3, 4, 5, 6] (by decide) rfl) hS
      · refine lv_aload_n hx hb d_Tree_itemNode_13 rfl (lv_at hl 2 rfl) ?_
        refine lv_iload_n hx hb d_Tree_itemNode_14 rfl (lv_at hl 1 rfl) ?_
        refine gc_i (wr := []) (gc_V (wc := [(t, .inr (2, [.ref ka, .ref na, .ref ga, .ref sa, .ref xr, .int size])), (ka, .inl (G.2.1 0, 1000, .inl kf)), (na, .inl (G.2.1 1, 1000, .inl nf)), (ga, .inl (G.2.1 1, 1000, .inl gf)), (sa, .inl (G.2.1 1, 1000, .inl sf)), (xr, .inr (1, [.ref xa, .int xsz])), (xa, .inl (G.2.1 0, 1000, .inl xf))]) (As := [.int x3_7]) (rest := []) ⟨hx, hb, hml, hown, hw⟩ (c_Tree_after l G t ka na ga sa xr xa kf nf gf sf size xsz xf x3_7 hs hxs H.size) (cwV 1 hw (good_V m_215 m_216 m_217 m_3 m_218) rfl rfl rfl hy_Tree_after ⟨Nat.le_of_ble_eq_true rfl, Nat.le_of_ble_eq_true rfl⟩) hE hP hD hS hA (va_recv hE.1 hP (ci := 2) (q0 := 0) rfl rfl) [0, 1, 2, 3, 4, 5, 6] rfl (by decide) rfl hl rfl (Nat.le_of_ble_eq_true rfl) d_Tree_itemNode_15 ⟨Nat.le_of_ble_eq_true rfl, Nat.le_of_ble_eq_true rfl⟩) hP hD hS hA [0, 1, 2, 3, 4, 5, 6] [] rfl rfl (by decide) (by decide) (fun r_2 u_3 H locs hw_4 hP hD hS => ?_)
        have hP : va_P G.1 vwCl [(t, .inr (2, [.ref ka, .ref na, .ref ga, .ref sa, .ref xr, .int size])), (ka, .inl (G.2.1 0, 1000, .inl kf)), (na, .inl (G.2.1 1, 1000, .inl nf)), (ga, .inl (G.2.1 1, 1000, .inl gf)), (sa, .inl (G.2.1 1, 1000, .inl sf)), (xr, .inr (1, [.ref xa, .int xsz])), (xa, .inl (G.2.1 0, 1000, .inl xf))] H := hP
        have hD : va_D A [(t, .inr (2, [.ref ka, .ref na, .ref ga, .ref sa, .ref xr, .int size])), (ka, .inl (G.2.1 0, 1000, .inl kf)), (na, .inl (G.2.1 1, 1000, .inl nf)), (ga, .inl (G.2.1 1, 1000, .inl gf)), (sa, .inl (G.2.1 1, 1000, .inl sf)), (xr, .inr (1, [.ref xa, .int xsz])), (xa, .inl (G.2.1 0, 1000, .inl xf))] := hD
        refine lv_istore_n (lv' := [(3, .int r_2), (4, .int x4_7), (0, .ref t), (1, .int i), (2, .int k)]) hx hb d_Tree_itemNode_18 rfl hl (by decide) rfl (fun ls hl => ?_)
        obtain ⟨y_5, ey_5⟩ : ∃ y : Int32, y = x4_7 + 1 := ⟨_, rfl⟩
        refine lv_iinc (v := y_5) (lv' := [(4, .int y_5), (3, .int r_2), (0, .ref t), (1, .int i), (2, .int k)]) hx hb d_Tree_itemNode_19 hl (k := 1) rfl (by rw [ey_5]; rfl) (by decide) rfl (fun ls hl => ?_)
        refine lv_goto (tgt := 7) hx hb d_Tree_itemNode_22 (by decide) ?_
        exact ih_7 y_5 r_2 (ms_up (by assumption) (by assumption) hm_7) _ _ (hP.sub [0, 1, 2, 3, 4, 5, 6] rfl) (hD.sub [0, 1, 2, 3, 4, 5, 6] (by decide) rfl) hS _ (lv_sub hl [0, 1, 2, 3, 4] rfl)
  refine lv_iload_n hx hb d_Tree_itemNode_0 rfl (lv_at hl 1 rfl) ?_
  refine lv_iconst (v := 1) hx hb d_Tree_itemNode_1 (by decide) ?_
  refine lv_iadd hx hb d_Tree_itemNode_2 ?_
  refine lv_topi (fun y_6 ey_6 => ?_)
  refine lv_istore_n (lv' := [(3, .int y_6), (0, .ref t), (1, .int i), (2, .int k)]) hx hb d_Tree_itemNode_3 rfl hl (by decide) rfl (fun ls hl => ?_)
  refine lv_iconst (v := 0) hx hb d_Tree_itemNode_4 (by decide) ?_
  refine lv_istore (lv' := [(4, .int 0), (3, .int y_6), (0, .ref t), (1, .int i), (2, .int k)]) hx hb d_Tree_itemNode_5 hl (by decide) rfl (fun ls hl => ?_)
  exact J_7 _ 0 y_6 (Nat.lt_succ_self _) _ _ (hP.sub [0, 1, 2, 3, 4, 5, 6] rfl) (hD.sub [0, 1, 2, 3, 4, 5, 6] (by decide) rfl) hS _ (lv_sub hl [0, 1, 2, 3, 4] rfl)
def rm_Tree_nameNode : Room := { frames := 2, cells := 0, slots := 0, locals := 42 }
set_option maxHeartbeats 4000000 in
set_option maxRecDepth 100000 in
theorem c_Tree_nameNode (l : Launch) (G : GG) (t : Nat) (ka : Nat) (na : Nat) (ga : Nat) (sa : Nat) (xr : Nat) (xa : Nat) (kf : Nat → Int32) (nf : Nat → Int32) (gf : Nat → Int32) (sf : Nat → Int32) (size : Int32) (xsz : Int32) (xf : Nat → Int32) (i : Int32) (k : Int32) (hs : RowOk 1000 size) (hxs : RowOk 1000 xsz) : MI l y_Tree_nameNode b_Tree_nameNode 5 .int rm_Tree_nameNode G [.ref t, .int i, .int k] [(t, .inr (2, [.ref ka, .ref na, .ref ga, .ref sa, .ref xr, .int size])), (ka, .inl (G.2.1 0, 1000, .inl kf)), (na, .inl (G.2.1 1, 1000, .inl nf)), (ga, .inl (G.2.1 1, 1000, .inl gf)), (sa, .inl (G.2.1 1, 1000, .inl sf)), (xr, .inr (1, [.ref xa, .int xsz])), (xa, .inl (G.2.1 0, 1000, .inl xf))] (fun (v : Int32) (u : Unit) => True) (fun (u : Unit) => [(t, .inr (2, [.ref ka, .ref na, .ref ga, .ref sa, .ref xr, .int size])), (ka, .inl (G.2.1 0, 1000, .inl kf)), (na, .inl (G.2.1 1, 1000, .inl nf)), (ga, .inl (G.2.1 1, 1000, .inl gf)), (sa, .inl (G.2.1 1, 1000, .inl sf)), (xr, .inr (1, [.ref xa, .int xsz])), (xa, .inl (G.2.1 0, 1000, .inl xf))]) 0 0 := by
  refine MI.of (cc := b_Tree_nameNode) (maxL := 5) (ty := .int) (C := R_Tree) (by decide +kernel) rfl (Nat.le_of_ble_eq_true rfl) ?_
  intro p e s m args below meth c A Q H ls hx hb hml hown hw hE hA hP hD hS ret hl
  have hl : lv_has ls 5 [(0, .ref t), (1, .int i), (2, .int k)] := hl
  have J_7 : ∀ (fu : Nat) (x4_7 : Int32) (x3_7 : Int32), (k.toInt - x4_7.toInt).toNat < fu → ∀ (H : Heap) (locs : List Loc), va_P G.1 vwCl [(t, .inr (2, [.ref ka, .ref na, .ref ga, .ref sa, .ref xr, .int size])), (ka, .inl (G.2.1 0, 1000, .inl kf)), (na, .inl (G.2.1 1, 1000, .inl nf)), (ga, .inl (G.2.1 1, 1000, .inl gf)), (sa, .inl (G.2.1 1, 1000, .inl sf)), (xr, .inr (1, [.ref xa, .int xsz])), (xa, .inl (G.2.1 0, 1000, .inl xf))] H → va_D A [(t, .inr (2, [.ref ka, .ref na, .ref ga, .ref sa, .ref xr, .int size])), (ka, .inl (G.2.1 0, 1000, .inl kf)), (na, .inl (G.2.1 1, 1000, .inl nf)), (ga, .inl (G.2.1 1, 1000, .inl gf)), (sa, .inl (G.2.1 1, 1000, .inl sf)), (xr, .inr (1, [.ref xa, .int xsz])), (xa, .inl (G.2.1 0, 1000, .inl xf))] → va_S A s.heap H locs → ∀ ls : Array Slot, lv_has ls 5 [(4, .int x4_7), (3, .int x3_7), (0, .ref t), (1, .int i), (2, .int k)] → W p l e rm_Tree_nameNode s m args below meth c H locs 0 0 Q (F0 m 7 ls []) := by
    intro fu
    induction fu with
    | zero =>
      intro x4_7 x3_7 hm
      exact absurd hm (Nat.not_lt_zero _)
    | succ fu ih_7 =>
      intro x4_7 x3_7 hm_7 H locs hP hD hS ls hl
      refine lv_iload hx hb d_Tree_nameNode_7 (lv_at hl 0 rfl) ?_
      refine lv_iload_n hx hb d_Tree_nameNode_9 rfl (lv_at hl 4 rfl) ?_
      refine lv_icmp_ge (tgt := 27) hx hb d_Tree_nameNode_10 (by decide) (fun c_1 => ?_) (fun c_1 => ?_)
      · refine lv_iload_n hx hb d_Tree_nameNode_27 rfl (lv_at hl 1 rfl) ?_
        exact ret x3_7 () (Nat.le_of_ble_eq_true rfl) (Nat.le_of_ble_eq_true rfl) d_Tree_nameNode_28 rfl trivial (hP.sub [0, 1, 2, 3, 4, 5, 6] rfl) (hD.sub [0, 1, 2, 3, 4, 5, 6] (by decide) rfl) hS
      · refine lv_aload_n hx hb d_Tree_nameNode_13 rfl (lv_at hl 2 rfl) ?_
        refine lv_iload_n hx hb d_Tree_nameNode_14 rfl (lv_at hl 1 rfl) ?_
        refine lv_iconst (v := 1) hx hb d_Tree_nameNode_15 (by decide) ?_
        refine lv_iadd hx hb d_Tree_nameNode_16 ?_
        refine lv_topi (fun y_2 ey_2 => ?_)
        refine gc_i (wr := []) (gc_V (wc := [(t, .inr (2, [.ref ka, .ref na, .ref ga, .ref sa, .ref xr, .int size])), (ka, .inl (G.2.1 0, 1000, .inl kf)), (na, .inl (G.2.1 1, 1000, .inl nf)), (ga, .inl (G.2.1 1, 1000, .inl gf)), (sa, .inl (G.2.1 1, 1000, .inl sf)), (xr, .inr (1, [.ref xa, .int xsz])), (xa, .inl (G.2.1 0, 1000, .inl xf))]) (As := [.int y_2]) (rest := []) ⟨hx, hb, hml, hown, hw⟩ (c_Tree_after l G t ka na ga sa xr xa kf nf gf sf size xsz xf y_2 hs hxs H.size) (cwV 1 hw (good_V m_215 m_216 m_217 m_3 m_218) rfl rfl rfl hy_Tree_after ⟨Nat.le_of_ble_eq_true rfl, Nat.le_of_ble_eq_true rfl⟩) hE hP hD hS hA (va_recv hE.1 hP (ci := 2) (q0 := 0) rfl rfl) [0, 1, 2, 3, 4, 5, 6] rfl (by decide) rfl hl rfl (Nat.le_of_ble_eq_true rfl) d_Tree_nameNode_17 ⟨Nat.le_of_ble_eq_true rfl, Nat.le_of_ble_eq_true rfl⟩) hP hD hS hA [0, 1, 2, 3, 4, 5, 6] [] rfl rfl (by decide) (by decide) (fun r_3 u_4 H locs hw_5 hP hD hS => ?_)
        have hP : va_P G.1 vwCl [(t, .inr (2, [.ref ka, .ref na, .ref ga, .ref sa, .ref xr, .int size])), (ka, .inl (G.2.1 0, 1000, .inl kf)), (na, .inl (G.2.1 1, 1000, .inl nf)), (ga, .inl (G.2.1 1, 1000, .inl gf)), (sa, .inl (G.2.1 1, 1000, .inl sf)), (xr, .inr (1, [.ref xa, .int xsz])), (xa, .inl (G.2.1 0, 1000, .inl xf))] H := hP
        have hD : va_D A [(t, .inr (2, [.ref ka, .ref na, .ref ga, .ref sa, .ref xr, .int size])), (ka, .inl (G.2.1 0, 1000, .inl kf)), (na, .inl (G.2.1 1, 1000, .inl nf)), (ga, .inl (G.2.1 1, 1000, .inl gf)), (sa, .inl (G.2.1 1, 1000, .inl sf)), (xr, .inr (1, [.ref xa, .int xsz])), (xa, .inl (G.2.1 0, 1000, .inl xf))] := hD
        refine lv_istore_n (lv' := [(3, .int r_3), (4, .int x4_7), (0, .ref t), (1, .int i), (2, .int k)]) hx hb d_Tree_nameNode_20 rfl hl (by decide) rfl (fun ls hl => ?_)
        obtain ⟨y_6, ey_6⟩ : ∃ y : Int32, y = x4_7 + 1 := ⟨_, rfl⟩
        refine lv_iinc (v := y_6) (lv' := [(4, .int y_6), (3, .int r_3), (0, .ref t), (1, .int i), (2, .int k)]) hx hb d_Tree_nameNode_21 hl (k := 1) rfl (by rw [ey_6]; rfl) (by decide) rfl (fun ls hl => ?_)
        refine lv_goto (tgt := 7) hx hb d_Tree_nameNode_24 (by decide) ?_
        exact ih_7 y_6 r_3 (ms_up (by assumption) (by assumption) hm_7) _ _ (hP.sub [0, 1, 2, 3, 4, 5, 6] rfl) (hD.sub [0, 1, 2, 3, 4, 5, 6] (by decide) rfl) hS _ (lv_sub hl [0, 1, 2, 3, 4] rfl)
  refine lv_iload_n hx hb d_Tree_nameNode_0 rfl (lv_at hl 1 rfl) ?_
  refine lv_iconst (v := 1) hx hb d_Tree_nameNode_1 (by decide) ?_
  refine lv_iadd hx hb d_Tree_nameNode_2 ?_
  refine lv_topi (fun y_7 ey_7 => ?_)
  refine lv_istore_n (lv' := [(3, .int y_7), (0, .ref t), (1, .int i), (2, .int k)]) hx hb d_Tree_nameNode_3 rfl hl (by decide) rfl (fun ls hl => ?_)
  refine lv_iconst (v := 0) hx hb d_Tree_nameNode_4 (by decide) ?_
  refine lv_istore (lv' := [(4, .int 0), (3, .int y_7), (0, .ref t), (1, .int i), (2, .int k)]) hx hb d_Tree_nameNode_5 hl (by decide) rfl (fun ls hl => ?_)
  exact J_7 _ 0 y_7 (Nat.lt_succ_self _) _ _ (hP.sub [0, 1, 2, 3, 4, 5, 6] rfl) (hD.sub [0, 1, 2, 3, 4, 5, 6] (by decide) rfl) hS _ (lv_sub hl [0, 1, 2, 3, 4] rfl)
def rm_Tree_part : Room := { frames := 3, cells := 0, slots := 0, locals := 66 }
set_option maxHeartbeats 4000000 in
set_option maxRecDepth 100000 in
theorem c_Tree_part (l : Launch) (G : GG) (t : Nat) (ka : Nat) (na : Nat) (ga : Nat) (sa : Nat) (xr : Nat) (xa : Nat) (kf : Nat → Int32) (nf : Nat → Int32) (gf : Nat → Int32) (sf : Nat → Int32) (size : Int32) (xsz : Int32) (xf : Nat → Int32) (i : Int32) (k : Int32) (hs : RowOk 1000 size) (hxs : RowOk 1000 xsz) : MI l y_Tree_part b_Tree_part 3 .int rm_Tree_part G [.ref t, .int i, .int k] [(t, .inr (2, [.ref ka, .ref na, .ref ga, .ref sa, .ref xr, .int size])), (ka, .inl (G.2.1 0, 1000, .inl kf)), (na, .inl (G.2.1 1, 1000, .inl nf)), (ga, .inl (G.2.1 1, 1000, .inl gf)), (sa, .inl (G.2.1 1, 1000, .inl sf)), (xr, .inr (1, [.ref xa, .int xsz])), (xa, .inl (G.2.1 0, 1000, .inl xf))] (fun (v : Int32) (u : Unit) => True) (fun (u : Unit) => [(t, .inr (2, [.ref ka, .ref na, .ref ga, .ref sa, .ref xr, .int size])), (ka, .inl (G.2.1 0, 1000, .inl kf)), (na, .inl (G.2.1 1, 1000, .inl nf)), (ga, .inl (G.2.1 1, 1000, .inl gf)), (sa, .inl (G.2.1 1, 1000, .inl sf)), (xr, .inr (1, [.ref xa, .int xsz])), (xa, .inl (G.2.1 0, 1000, .inl xf))]) 0 0 := by
  refine MI.of (cc := b_Tree_part) (maxL := 3) (ty := .int) (C := R_Tree) (by decide +kernel) rfl (Nat.le_of_ble_eq_true rfl) ?_
  intro p e s m args below meth c A Q H ls hx hb hml hown hw hE hA hP hD hS ret hl
  have hl : lv_has ls 3 [(0, .ref t), (1, .int i), (2, .int k)] := hl
  refine lv_iload_n hx hb d_Tree_part_0 rfl (lv_at hl 2 rfl) ?_
  refine lv_if_lt (tgt := 13) hx hb d_Tree_part_1 (by decide) (fun c_1 => ?_) (fun c_1 => ?_)
  · refine lv_bipush (v := (-2)) hx hb d_Tree_part_13 (by decide) ?_
    exact ret (-2) () (Nat.le_of_ble_eq_true rfl) (Nat.le_of_ble_eq_true rfl) d_Tree_part_15 rfl trivial (hP.sub [0, 1, 2, 3, 4, 5, 6] rfl) (hD.sub [0, 1, 2, 3, 4, 5, 6] (by decide) rfl) hS
  · refine lv_iload_n hx hb d_Tree_part_4 rfl (lv_at hl 2 rfl) ?_
    refine lv_aload_n hx hb d_Tree_part_5 rfl (lv_at hl 0 rfl) ?_
    refine lv_iload_n hx hb d_Tree_part_6 rfl (lv_at hl 1 rfl) ?_
    refine gc_i (wr := []) (gc_V (wc := [(t, .inr (2, [.ref ka, .ref na, .ref ga, .ref sa, .ref xr, .int size])), (ka, .inl (G.2.1 0, 1000, .inl kf)), (na, .inl (G.2.1 1, 1000, .inl nf)), (ga, .inl (G.2.1 1, 1000, .inl gf)), (sa, .inl (G.2.1 1, 1000, .inl sf)), (xr, .inr (1, [.ref xa, .int xsz])), (xa, .inl (G.2.1 0, 1000, .inl xf))]) (As := [.int i]) (rest := [.int k]) ⟨hx, hb, hml, hown, hw⟩ (c_Tree_number l G t ka na ga sa xr xa kf nf gf sf size xsz xf i hs hxs H.size) (cwV 1 hw (good_V m_203 m_204 m_205 m_3 m_206) rfl rfl rfl hy_Tree_number ⟨Nat.le_of_ble_eq_true rfl, Nat.le_of_ble_eq_true rfl⟩) hE hP hD hS hA (va_recv hE.1 hP (ci := 2) (q0 := 0) rfl rfl) [0, 1, 2, 3, 4, 5, 6] rfl (by decide) rfl hl rfl (Nat.le_of_ble_eq_true rfl) d_Tree_part_7 ⟨Nat.le_of_ble_eq_true rfl, Nat.le_of_ble_eq_true rfl⟩) hP hD hS hA [0, 1, 2, 3, 4, 5, 6] [] rfl rfl (by decide) (by decide) (fun r_2 u_3 H locs hw_4 hP hD hS => ?_)
    try dsimp only at hw_4
    have h_5 := hw_4
    subst h_5
    have hP : va_P G.1 vwCl [(t, .inr (2, [.ref ka, .ref na, .ref ga, .ref sa, .ref xr, .int size])), (ka, .inl (G.2.1 0, 1000, .inl kf)), (na, .inl (G.2.1 1, 1000, .inl nf)), (ga, .inl (G.2.1 1, 1000, .inl gf)), (sa, .inl (G.2.1 1, 1000, .inl sf)), (xr, .inr (1, [.ref xa, .int xsz])), (xa, .inl (G.2.1 0, 1000, .inl xf))] H := hP
    have hD : va_D A [(t, .inr (2, [.ref ka, .ref na, .ref ga, .ref sa, .ref xr, .int size])), (ka, .inl (G.2.1 0, 1000, .inl kf)), (na, .inl (G.2.1 1, 1000, .inl nf)), (ga, .inl (G.2.1 1, 1000, .inl gf)), (sa, .inl (G.2.1 1, 1000, .inl sf)), (xr, .inr (1, [.ref xa, .int xsz])), (xa, .inl (G.2.1 0, 1000, .inl xf))] := hD
    refine lv_icmp_lt (tgt := 16) hx hb d_Tree_part_10 (by decide) (fun c_6 => ?_) (fun c_6 => ?_)
    · refine lv_aload_n hx hb d_Tree_part_16 rfl (lv_at hl 0 rfl) ?_
      refine lv_iload_n hx hb d_Tree_part_17 rfl (lv_at hl 1 rfl) ?_
      refine gc_i (wr := []) (gc_V (wc := [(t, .inr (2, [.ref ka, .ref na, .ref ga, .ref sa, .ref xr, .int size])), (ka, .inl (G.2.1 0, 1000, .inl kf)), (na, .inl (G.2.1 1, 1000, .inl nf)), (ga, .inl (G.2.1 1, 1000, .inl gf)), (sa, .inl (G.2.1 1, 1000, .inl sf)), (xr, .inr (1, [.ref xa, .int xsz])), (xa, .inl (G.2.1 0, 1000, .inl xf))]) (As := [.int i]) (rest := []) ⟨hx, hb, hml, hown, hw⟩ (c_Tree_kind l G t ka na ga sa xr xa kf nf gf sf size xsz xf i hs hxs H.size) (cwV 1 hw (good_V m_195 m_196 m_197 m_3 m_198) rfl rfl rfl hy_Tree_kind ⟨Nat.le_of_ble_eq_true rfl, Nat.le_of_ble_eq_true rfl⟩) hE hP hD hS hA (va_recv hE.1 hP (ci := 2) (q0 := 0) rfl rfl) [0, 1, 2, 3, 4, 5, 6] rfl (by decide) rfl hl rfl (Nat.le_of_ble_eq_true rfl) d_Tree_part_18 ⟨Nat.le_of_ble_eq_true rfl, Nat.le_of_ble_eq_true rfl⟩) hP hD hS hA [0, 1, 2, 3, 4, 5, 6] [] rfl rfl (by decide) (by decide) (fun r_7 u_8 H locs hw_9 hP hD hS => ?_)
      have hP : va_P G.1 vwCl [(t, .inr (2, [.ref ka, .ref na, .ref ga, .ref sa, .ref xr, .int size])), (ka, .inl (G.2.1 0, 1000, .inl kf)), (na, .inl (G.2.1 1, 1000, .inl nf)), (ga, .inl (G.2.1 1, 1000, .inl gf)), (sa, .inl (G.2.1 1, 1000, .inl sf)), (xr, .inr (1, [.ref xa, .int xsz])), (xa, .inl (G.2.1 0, 1000, .inl xf))] H := hP
      have hD : va_D A [(t, .inr (2, [.ref ka, .ref na, .ref ga, .ref sa, .ref xr, .int size])), (ka, .inl (G.2.1 0, 1000, .inl kf)), (na, .inl (G.2.1 1, 1000, .inl nf)), (ga, .inl (G.2.1 1, 1000, .inl gf)), (sa, .inl (G.2.1 1, 1000, .inl sf)), (xr, .inr (1, [.ref xa, .int xsz])), (xa, .inl (G.2.1 0, 1000, .inl xf))] := hD
      refine lv_bipush (v := 7) hx hb d_Tree_part_21 (by decide) ?_
      refine lv_icmp_ne (tgt := 35) hx hb d_Tree_part_23 (by decide) (fun c_10 => ?_) (fun c_10 => ?_)
      · refine lv_aload_n hx hb d_Tree_part_35 rfl (lv_at hl 0 rfl) ?_
        refine lv_iload_n hx hb d_Tree_part_36 rfl (lv_at hl 1 rfl) ?_
        refine gc_i (wr := []) (gc_V (wc := [(t, .inr (2, [.ref ka, .ref na, .ref ga, .ref sa, .ref xr, .int size])), (ka, .inl (G.2.1 0, 1000, .inl kf)), (na, .inl (G.2.1 1, 1000, .inl nf)), (ga, .inl (G.2.1 1, 1000, .inl gf)), (sa, .inl (G.2.1 1, 1000, .inl sf)), (xr, .inr (1, [.ref xa, .int xsz])), (xa, .inl (G.2.1 0, 1000, .inl xf))]) (As := [.int i]) (rest := []) ⟨hx, hb, hml, hown, hw⟩ (c_Tree_kind l G t ka na ga sa xr xa kf nf gf sf size xsz xf i hs hxs H.size) (cwV 1 hw (good_V m_195 m_196 m_197 m_3 m_198) rfl rfl rfl hy_Tree_kind ⟨Nat.le_of_ble_eq_true rfl, Nat.le_of_ble_eq_true rfl⟩) hE hP hD hS hA (va_recv hE.1 hP (ci := 2) (q0 := 0) rfl rfl) [0, 1, 2, 3, 4, 5, 6] rfl (by decide) rfl hl rfl (Nat.le_of_ble_eq_true rfl) d_Tree_part_37 ⟨Nat.le_of_ble_eq_true rfl, Nat.le_of_ble_eq_true rfl⟩) hP hD hS hA [0, 1, 2, 3, 4, 5, 6] [] rfl rfl (by decide) (by decide) (fun r_11 u_12 H locs hw_13 hP hD hS => ?_)
        have hP : va_P G.1 vwCl [(t, .inr (2, [.ref ka, .ref na, .ref ga, .ref sa, .ref xr, .int size])), (ka, .inl (G.2.1 0, 1000, .inl kf)), (na, .inl (G.2.1 1, 1000, .inl nf)), (ga, .inl (G.2.1 1, 1000, .inl gf)), (sa, .inl (G.2.1 1, 1000, .inl sf)), (xr, .inr (1, [.ref xa, .int xsz])), (xa, .inl (G.2.1 0, 1000, .inl xf))] H := hP
        have hD : va_D A [(t, .inr (2, [.ref ka, .ref na, .ref ga, .ref sa, .ref xr, .int size])), (ka, .inl (G.2.1 0, 1000, .inl kf)), (na, .inl (G.2.1 1, 1000, .inl nf)), (ga, .inl (G.2.1 1, 1000, .inl gf)), (sa, .inl (G.2.1 1, 1000, .inl sf)), (xr, .inr (1, [.ref xa, .int xsz])), (xa, .inl (G.2.1 0, 1000, .inl xf))] := hD
        refine lv_bipush (v := 6) hx hb d_Tree_part_40 (by decide) ?_
        refine lv_icmp_ne (tgt := 54) hx hb d_Tree_part_42 (by decide) (fun c_14 => ?_) (fun c_14 => ?_)
        · refine lv_bipush (v := (-2)) hx hb d_Tree_part_54 (by decide) ?_
          exact ret (-2) () (Nat.le_of_ble_eq_true rfl) (Nat.le_of_ble_eq_true rfl) d_Tree_part_56 rfl trivial (hP.sub [0, 1, 2, 3, 4, 5, 6] rfl) (hD.sub [0, 1, 2, 3, 4, 5, 6] (by decide) rfl) hS
        · refine lv_aload_n hx hb d_Tree_part_45 rfl (lv_at hl 0 rfl) ?_
          refine lv_iload_n hx hb d_Tree_part_46 rfl (lv_at hl 1 rfl) ?_
          refine lv_iload_n hx hb d_Tree_part_47 rfl (lv_at hl 2 rfl) ?_
          refine gc_i (wr := []) (gc_V (wc := [(t, .inr (2, [.ref ka, .ref na, .ref ga, .ref sa, .ref xr, .int size])), (ka, .inl (G.2.1 0, 1000, .inl kf)), (na, .inl (G.2.1 1, 1000, .inl nf)), (ga, .inl (G.2.1 1, 1000, .inl gf)), (sa, .inl (G.2.1 1, 1000, .inl sf)), (xr, .inr (1, [.ref xa, .int xsz])), (xa, .inl (G.2.1 0, 1000, .inl xf))]) (As := [.int i, .int k]) (rest := []) ⟨hx, hb, hml, hown, hw⟩ (c_Tree_itemNode l G t ka na ga sa xr xa kf nf gf sf size xsz xf i k hs hxs H.size) (cwV 2 hw (good_V m_413 m_415 ms_29 m_3 m_416) rfl rfl rfl hy_Tree_itemNode ⟨Nat.le_of_ble_eq_true rfl, Nat.le_of_ble_eq_true rfl⟩) hE hP hD hS hA (va_recv hE.1 hP (ci := 2) (q0 := 0) rfl rfl) [0, 1, 2, 3, 4, 5, 6] rfl (by decide) rfl hl rfl (Nat.le_of_ble_eq_true rfl) d_Tree_part_48 ⟨Nat.le_of_ble_eq_true rfl, Nat.le_of_ble_eq_true rfl⟩) hP hD hS hA [0, 1, 2, 3, 4, 5, 6] [] rfl rfl (by decide) (by decide) (fun r_15 u_16 H locs hw_17 hP hD hS => ?_)
          have hP : va_P G.1 vwCl [(t, .inr (2, [.ref ka, .ref na, .ref ga, .ref sa, .ref xr, .int size])), (ka, .inl (G.2.1 0, 1000, .inl kf)), (na, .inl (G.2.1 1, 1000, .inl nf)), (ga, .inl (G.2.1 1, 1000, .inl gf)), (sa, .inl (G.2.1 1, 1000, .inl sf)), (xr, .inr (1, [.ref xa, .int xsz])), (xa, .inl (G.2.1 0, 1000, .inl xf))] H := hP
          have hD : va_D A [(t, .inr (2, [.ref ka, .ref na, .ref ga, .ref sa, .ref xr, .int size])), (ka, .inl (G.2.1 0, 1000, .inl kf)), (na, .inl (G.2.1 1, 1000, .inl nf)), (ga, .inl (G.2.1 1, 1000, .inl gf)), (sa, .inl (G.2.1 1, 1000, .inl sf)), (xr, .inr (1, [.ref xa, .int xsz])), (xa, .inl (G.2.1 0, 1000, .inl xf))] := hD
          refine lv_goto (tgt := 56) hx hb d_Tree_part_51 (by decide) ?_
          exact ret r_15 () (Nat.le_of_ble_eq_true rfl) (Nat.le_of_ble_eq_true rfl) d_Tree_part_56 rfl trivial (hP.sub [0, 1, 2, 3, 4, 5, 6] rfl) (hD.sub [0, 1, 2, 3, 4, 5, 6] (by decide) rfl) hS
      · refine lv_aload_n hx hb d_Tree_part_26 rfl (lv_at hl 0 rfl) ?_
        refine lv_iload_n hx hb d_Tree_part_27 rfl (lv_at hl 1 rfl) ?_
        refine lv_iload_n hx hb d_Tree_part_28 rfl (lv_at hl 2 rfl) ?_
        refine gc_i (wr := []) (gc_V (wc := [(t, .inr (2, [.ref ka, .ref na, .ref ga, .ref sa, .ref xr, .int size])), (ka, .inl (G.2.1 0, 1000, .inl kf)), (na, .inl (G.2.1 1, 1000, .inl nf)), (ga, .inl (G.2.1 1, 1000, .inl gf)), (sa, .inl (G.2.1 1, 1000, .inl sf)), (xr, .inr (1, [.ref xa, .int xsz])), (xa, .inl (G.2.1 0, 1000, .inl xf))]) (As := [.int i, .int k]) (rest := []) ⟨hx, hb, hml, hown, hw⟩ (c_Tree_nameNode l G t ka na ga sa xr xa kf nf gf sf size xsz xf i k hs hxs H.size) (cwV 2 hw (good_V m_409 m_411 ms_28 m_3 m_412) rfl rfl rfl hy_Tree_nameNode ⟨Nat.le_of_ble_eq_true rfl, Nat.le_of_ble_eq_true rfl⟩) hE hP hD hS hA (va_recv hE.1 hP (ci := 2) (q0 := 0) rfl rfl) [0, 1, 2, 3, 4, 5, 6] rfl (by decide) rfl hl rfl (Nat.le_of_ble_eq_true rfl) d_Tree_part_29 ⟨Nat.le_of_ble_eq_true rfl, Nat.le_of_ble_eq_true rfl⟩) hP hD hS hA [0, 1, 2, 3, 4, 5, 6] [] rfl rfl (by decide) (by decide) (fun r_18 u_19 H locs hw_20 hP hD hS => ?_)
        have hP : va_P G.1 vwCl [(t, .inr (2, [.ref ka, .ref na, .ref ga, .ref sa, .ref xr, .int size])), (ka, .inl (G.2.1 0, 1000, .inl kf)), (na, .inl (G.2.1 1, 1000, .inl nf)), (ga, .inl (G.2.1 1, 1000, .inl gf)), (sa, .inl (G.2.1 1, 1000, .inl sf)), (xr, .inr (1, [.ref xa, .int xsz])), (xa, .inl (G.2.1 0, 1000, .inl xf))] H := hP
        have hD : va_D A [(t, .inr (2, [.ref ka, .ref na, .ref ga, .ref sa, .ref xr, .int size])), (ka, .inl (G.2.1 0, 1000, .inl kf)), (na, .inl (G.2.1 1, 1000, .inl nf)), (ga, .inl (G.2.1 1, 1000, .inl gf)), (sa, .inl (G.2.1 1, 1000, .inl sf)), (xr, .inr (1, [.ref xa, .int xsz])), (xa, .inl (G.2.1 0, 1000, .inl xf))] := hD
        refine lv_iconst (v := 1) hx hb d_Tree_part_32 (by decide) ?_
        refine lv_iadd hx hb d_Tree_part_33 ?_
        refine lv_topi (fun y_21 ey_21 => ?_)
        exact ret y_21 () (Nat.le_of_ble_eq_true rfl) (Nat.le_of_ble_eq_true rfl) d_Tree_part_34 rfl trivial (hP.sub [0, 1, 2, 3, 4, 5, 6] rfl) (hD.sub [0, 1, 2, 3, 4, 5, 6] (by decide) rfl) hS
    · refine lv_bipush (v := (-2)) hx hb d_Tree_part_13 (by decide) ?_
      exact ret (-2) () (Nat.le_of_ble_eq_true rfl) (Nat.le_of_ble_eq_true rfl) d_Tree_part_15 rfl trivial (hP.sub [0, 1, 2, 3, 4, 5, 6] rfl) (hD.sub [0, 1, 2, 3, 4, 5, 6] (by decide) rfl) hS
def rm_Tree_valueNamed : Room := { frames := 2, cells := 0, slots := 0, locals := 46 }
set_option maxHeartbeats 4000000 in
set_option maxRecDepth 100000 in
theorem c_Tree_valueNamed (l : Launch) (G : GG) (t : Nat) (ka : Nat) (na : Nat) (ga : Nat) (sa : Nat) (xr : Nat) (xa : Nat) (kf : Nat → Int32) (nf : Nat → Int32) (gf : Nat → Int32) (sf : Nat → Int32) (size : Int32) (xsz : Int32) (xf : Nat → Int32) (r1 : Nat) (a1 : Nat) (N1 : Nat) (sz1 : Int32) (f1 : Nat → Int32) (i : Int32) (j : Int32) (n : Int32) (hs : RowOk 1000 size) (hxs : RowOk 1000 xsz) (hN1 : N1 ≤ 2000) (hok1 : RowOk N1 sz1) : MI l y_Tree_valueNamed b_Tree_valueNamed 8 .int rm_Tree_valueNamed G [.ref t, .int i, .ref r1, .int j, .int n] [(t, .inr (2, [.ref ka, .ref na, .ref ga, .ref sa, .ref xr, .int size])), (ka, .inl (G.2.1 0, 1000, .inl kf)), (na, .inl (G.2.1 1, 1000, .inl nf)), (ga, .inl (G.2.1 1, 1000, .inl gf)), (sa, .inl (G.2.1 1, 1000, .inl sf)), (xr, .inr (1, [.ref xa, .int xsz])), (xa, .inl (G.2.1 0, 1000, .inl xf)), (r1, .inr (1, [.ref a1, .int sz1])), (a1, .inl (G.2.1 0, N1, .inl f1))] (fun (v : Int32) (u : Unit) => True) (fun (u : Unit) => [(t, .inr (2, [.ref ka, .ref na, .ref ga, .ref sa, .ref xr, .int size])), (ka, .inl (G.2.1 0, 1000, .inl kf)), (na, .inl (G.2.1 1, 1000, .inl nf)), (ga, .inl (G.2.1 1, 1000, .inl gf)), (sa, .inl (G.2.1 1, 1000, .inl sf)), (xr, .inr (1, [.ref xa, .int xsz])), (xa, .inl (G.2.1 0, 1000, .inl xf)), (r1, .inr (1, [.ref a1, .int sz1])), (a1, .inl (G.2.1 0, N1, .inl f1))]) 0 0 := by
  refine MI.of (cc := b_Tree_valueNamed) (maxL := 8) (ty := .int) (C := R_Tree) (by decide +kernel) rfl (Nat.le_of_ble_eq_true rfl) ?_
  intro p e s m args below meth c A Q H ls hx hb hml hown hw hE hA hP hD hS ret hl
  have hl : lv_has ls 8 [(0, .ref t), (1, .int i), (2, .ref r1), (3, .int j), (4, .int n)] := hl
  have J_29 : ∀ (fu : Nat) (x7_29 : Int32) (x6_29 : Int32) (x5_29 : Int32), (x5_29.toInt - x7_29.toInt).toNat < fu → ∀ (H : Heap) (locs : List Loc), va_P G.1 vwCl [(r1, .inr (1, [.ref a1, .int sz1])), (a1, .inl (G.2.1 0, N1, .inl f1)), (t, .inr (2, [.ref ka, .ref na, .ref ga, .ref sa, .ref xr, .int size])), (ka, .inl (G.2.1 0, 1000, .inl kf)), (na, .inl (G.2.1 1, 1000, .inl nf)), (ga, .inl (G.2.1 1, 1000, .inl gf)), (sa, .inl (G.2.1 1, 1000, .inl sf)), (xr, .inr (1, [.ref xa, .int xsz])), (xa, .inl (G.2.1 0, 1000, .inl xf))] H → va_D A [(r1, .inr (1, [.ref a1, .int sz1])), (a1, .inl (G.2.1 0, N1, .inl f1)), (t, .inr (2, [.ref ka, .ref na, .ref ga, .ref sa, .ref xr, .int size])), (ka, .inl (G.2.1 0, 1000, .inl kf)), (na, .inl (G.2.1 1, 1000, .inl nf)), (ga, .inl (G.2.1 1, 1000, .inl gf)), (sa, .inl (G.2.1 1, 1000, .inl sf)), (xr, .inr (1, [.ref xa, .int xsz])), (xa, .inl (G.2.1 0, 1000, .inl xf))] → va_S A s.heap H locs → ∀ ls : Array Slot, lv_has ls 8 [(7, .int x7_29), (6, .int x6_29), (5, .int x5_29), (0, .ref t), (1, .int i), (2, .ref r1), (3, .int j), (4, .int n)] → W p l e rm_Tree_valueNamed s m args below meth c H locs 0 0 Q (F0 m 29 ls []) := by
    intro fu
    induction fu with
    | zero =>
      intro x7_29 x6_29 x5_29 hm
      exact absurd hm (Nat.not_lt_zero _)
    | succ fu ih_29 =>
      intro x7_29 x6_29 x5_29 hm_29 H locs hP hD hS ls hl
      have J_72 : ∀ (hk0_72 : ¬ x5_29 ≤ x7_29) (H : Heap) (locs : List Loc), va_P G.1 vwCl [(r1, .inr (1, [.ref a1, .int sz1])), (a1, .inl (G.2.1 0, N1, .inl f1)), (t, .inr (2, [.ref ka, .ref na, .ref ga, .ref sa, .ref xr, .int size])), (ka, .inl (G.2.1 0, 1000, .inl kf)), (na, .inl (G.2.1 1, 1000, .inl nf)), (ga, .inl (G.2.1 1, 1000, .inl gf)), (sa, .inl (G.2.1 1, 1000, .inl sf)), (xr, .inr (1, [.ref xa, .int xsz])), (xa, .inl (G.2.1 0, 1000, .inl xf))] H → va_D A [(r1, .inr (1, [.ref a1, .int sz1])), (a1, .inl (G.2.1 0, N1, .inl f1)), (t, .inr (2, [.ref ka, .ref na, .ref ga, .ref sa, .ref xr, .int size])), (ka, .inl (G.2.1 0, 1000, .inl kf)), (na, .inl (G.2.1 1, 1000, .inl nf)), (ga, .inl (G.2.1 1, 1000, .inl gf)), (sa, .inl (G.2.1 1, 1000, .inl sf)), (xr, .inr (1, [.ref xa, .int xsz])), (xa, .inl (G.2.1 0, 1000, .inl xf))] → va_S A s.heap H locs → ∀ ls : Array Slot, lv_has ls 8 [(7, .int x7_29), (6, .int x6_29), (5, .int x5_29), (0, .ref t), (1, .int i), (2, .ref r1), (3, .int j), (4, .int n)] → W p l e rm_Tree_valueNamed s m args below meth c H locs 0 0 Q (F0 m 72 ls []) := by
        intro hk0_72 H locs hP hD hS ls hl
        refine lv_aload_n hx hb d_Tree_valueNamed_72 rfl (lv_at hl 3 rfl) ?_
        refine lv_iload hx hb d_Tree_valueNamed_73 (lv_at hl 1 rfl) ?_
        refine lv_iconst (v := 1) hx hb d_Tree_valueNamed_75 (by decide) ?_
        refine lv_iadd hx hb d_Tree_valueNamed_76 ?_
        refine lv_topi (fun y_1 ey_1 => ?_)
        refine gc_i (wr := [(r1, .inr (1, [.ref a1, .int sz1])), (a1, .inl (G.2.1 0, N1, .inl f1))]) (gc_V (wc := [(t, .inr (2, [.ref ka, .ref na, .ref ga, .ref sa, .ref xr, .int size])), (ka, .inl (G.2.1 0, 1000, .inl kf)), (na, .inl (G.2.1 1, 1000, .inl nf)), (ga, .inl (G.2.1 1, 1000, .inl gf)), (sa, .inl (G.2.1 1, 1000, .inl sf)), (xr, .inr (1, [.ref xa, .int xsz])), (xa, .inl (G.2.1 0, 1000, .inl xf))]) (As := [.int y_1]) (rest := []) ⟨hx, hb, hml, hown, hw⟩ (c_Tree_after l G t ka na ga sa xr xa kf nf gf sf size xsz xf y_1 hs hxs H.size) (cwV 1 hw (good_V m_215 m_216 m_217 m_3 m_218) rfl rfl rfl hy_Tree_after ⟨Nat.le_of_ble_eq_true rfl, Nat.le_of_ble_eq_true rfl⟩) hE hP hD hS hA (va_recv hE.1 hP (ci := 2) (q0 := 2) rfl rfl) [2, 3, 4, 5, 6, 7, 8] rfl (by decide) rfl hl rfl (Nat.le_of_ble_eq_true rfl) d_Tree_valueNamed_77 ⟨Nat.le_of_ble_eq_true rfl, Nat.le_of_ble_eq_true rfl⟩) hP hD hS hA [2, 3, 4, 5, 6, 7, 8] [0, 1] rfl rfl (by decide) (by decide) (fun r_2 u_3 H locs hw_4 hP hD hS => ?_)
        have hP : va_P G.1 vwCl [(r1, .inr (1, [.ref a1, .int sz1])), (a1, .inl (G.2.1 0, N1, .inl f1)), (t, .inr (2, [.ref ka, .ref na, .ref ga, .ref sa, .ref xr, .int size])), (ka, .inl (G.2.1 0, 1000, .inl kf)), (na, .inl (G.2.1 1, 1000, .inl nf)), (ga, .inl (G.2.1 1, 1000, .inl gf)), (sa, .inl (G.2.1 1, 1000, .inl sf)), (xr, .inr (1, [.ref xa, .int xsz])), (xa, .inl (G.2.1 0, 1000, .inl xf))] H := hP
        have hD : va_D A [(r1, .inr (1, [.ref a1, .int sz1])), (a1, .inl (G.2.1 0, N1, .inl f1)), (t, .inr (2, [.ref ka, .ref na, .ref ga, .ref sa, .ref xr, .int size])), (ka, .inl (G.2.1 0, 1000, .inl kf)), (na, .inl (G.2.1 1, 1000, .inl nf)), (ga, .inl (G.2.1 1, 1000, .inl gf)), (sa, .inl (G.2.1 1, 1000, .inl sf)), (xr, .inr (1, [.ref xa, .int xsz])), (xa, .inl (G.2.1 0, 1000, .inl xf))] := hD
        refine lv_istore (lv' := [(6, .int r_2), (7, .int x7_29), (5, .int x5_29), (0, .ref t), (1, .int i), (2, .ref r1), (3, .int j), (4, .int n)]) hx hb d_Tree_valueNamed_80 hl (by decide) rfl (fun ls hl => ?_)
        obtain ⟨y_5, ey_5⟩ : ∃ y : Int32, y = x7_29 + 1 := ⟨_, rfl⟩
        refine lv_iinc (v := y_5) (lv' := [(7, .int y_5), (6, .int r_2), (5, .int x5_29), (0, .ref t), (1, .int i), (2, .ref r1), (3, .int j), (4, .int n)]) hx hb d_Tree_valueNamed_82 hl (k := 1) rfl (by rw [ey_5]; rfl) (by decide) rfl (fun ls hl => ?_)
        refine lv_goto (tgt := 29) hx hb d_Tree_valueNamed_85 (by decide) ?_
        exact ih_29 y_5 r_2 x5_29 (ms_up (by assumption) (by assumption) hm_29) _ _ (hP.sub [0, 1, 2, 3, 4, 5, 6, 7, 8] rfl) (hD.sub [0, 1, 2, 3, 4, 5, 6, 7, 8] (by decide) rfl) hS _ (lv_sub hl [0, 1, 2, 3, 4, 5, 6, 7] rfl)
      refine lv_iload hx hb d_Tree_valueNamed_29 (lv_at hl 0 rfl) ?_
      refine lv_iload hx hb d_Tree_valueNamed_31 (lv_at hl 2 rfl) ?_
      refine lv_icmp_ge (tgt := 88) hx hb d_Tree_valueNamed_33 (by decide) (fun c_6 => ?_) (fun c_6 => ?_)
      · refine lv_bipush (v := (-2)) hx hb d_Tree_valueNamed_88 (by decide) ?_
        exact ret (-2) () (Nat.le_of_ble_eq_true rfl) (Nat.le_of_ble_eq_true rfl) d_Tree_valueNamed_90 rfl trivial (hP.sub [2, 3, 4, 5, 6, 7, 8, 0, 1] rfl) (hD.sub [2, 3, 4, 5, 6, 7, 8, 0, 1] (by decide) rfl) hS
      · refine lv_aload_n hx hb d_Tree_valueNamed_36 rfl (lv_at hl 3 rfl) ?_
        refine lv_iload hx hb d_Tree_valueNamed_37 (lv_at hl 1 rfl) ?_
        refine gc_i (wr := [(r1, .inr (1, [.ref a1, .int sz1])), (a1, .inl (G.2.1 0, N1, .inl f1))]) (gc_V (wc := [(t, .inr (2, [.ref ka, .ref na, .ref ga, .ref sa, .ref xr, .int size])), (ka, .inl (G.2.1 0, 1000, .inl kf)), (na, .inl (G.2.1 1, 1000, .inl nf)), (ga, .inl (G.2.1 1, 1000, .inl gf)), (sa, .inl (G.2.1 1, 1000, .inl sf)), (xr, .inr (1, [.ref xa, .int xsz])), (xa, .inl (G.2.1 0, 1000, .inl xf))]) (As := [.int x6_29]) (rest := []) ⟨hx, hb, hml, hown, hw⟩ (c_Tree_number l G t ka na ga sa xr xa kf nf gf sf size xsz xf x6_29 hs hxs H.size) (cwV 1 hw (good_V m_203 m_204 m_205 m_3 m_206) rfl rfl rfl hy_Tree_number ⟨Nat.le_of_ble_eq_true rfl, Nat.le_of_ble_eq_true rfl⟩) hE hP hD hS hA (va_recv hE.1 hP (ci := 2) (q0 := 2) rfl rfl) [2, 3, 4, 5, 6, 7, 8] rfl (by decide) rfl hl rfl (Nat.le_of_ble_eq_true rfl) d_Tree_valueNamed_39 ⟨Nat.le_of_ble_eq_true rfl, Nat.le_of_ble_eq_true rfl⟩) hP hD hS hA [2, 3, 4, 5, 6, 7, 8] [0, 1] rfl rfl (by decide) (by decide) (fun r_7 u_8 H locs hw_9 hP hD hS => ?_)
        try dsimp only at hw_9
        have h_10 := hw_9
        subst h_10
        have hP : va_P G.1 vwCl [(r1, .inr (1, [.ref a1, .int sz1])), (a1, .inl (G.2.1 0, N1, .inl f1)), (t, .inr (2, [.ref ka, .ref na, .ref ga, .ref sa, .ref xr, .int size])), (ka, .inl (G.2.1 0, 1000, .inl kf)), (na, .inl (G.2.1 1, 1000, .inl nf)), (ga, .inl (G.2.1 1, 1000, .inl gf)), (sa, .inl (G.2.1 1, 1000, .inl sf)), (xr, .inr (1, [.ref xa, .int xsz])), (xa, .inl (G.2.1 0, 1000, .inl xf))] H := hP
        have hD : va_D A [(r1, .inr (1, [.ref a1, .int sz1])), (a1, .inl (G.2.1 0, N1, .inl f1)), (t, .inr (2, [.ref ka, .ref na, .ref ga, .ref sa, .ref xr, .int size])), (ka, .inl (G.2.1 0, 1000, .inl kf)), (na, .inl (G.2.1 1, 1000, .inl nf)), (ga, .inl (G.2.1 1, 1000, .inl gf)), (sa, .inl (G.2.1 1, 1000, .inl sf)), (xr, .inr (1, [.ref xa, .int xsz])), (xa, .inl (G.2.1 0, 1000, .inl xf))] := hD
        refine lv_iload hx hb d_Tree_valueNamed_42 (lv_at hl 7 rfl) ?_
        refine lv_icmp_ne (tgt := 72) hx hb d_Tree_valueNamed_44 (by decide) (fun c_11 => ?_) (fun c_11 => ?_)
        · exact J_72 (by first | assumption | trivial | (try dsimp only; omega)) _ _ (hP.sub [0, 1, 2, 3, 4, 5, 6, 7, 8] rfl) (hD.sub [0, 1, 2, 3, 4, 5, 6, 7, 8] (by decide) rfl) hS _ (lv_sub hl [0, 1, 2, 3, 4, 5, 6, 7] rfl)
        · refine lv_aload_n hx hb d_Tree_valueNamed_47 rfl (lv_at hl 3 rfl) ?_
          refine va_get (D := G.1) (ci := 2) (v := .ref xr) (C := R_Tree) (T := F_Tree) (N := 6) hx hb hw i_Tree hown hE.1 hP 2 rfl rfl 4 (by decide) (hw _ m_49) (fun _ h9 => h9) rfl d_Tree_valueNamed_48 ?_
          refine lv_aload_n hx hb d_Tree_valueNamed_51 rfl (lv_at hl 3 rfl) ?_
          refine lv_iload hx hb d_Tree_valueNamed_52 (lv_at hl 1 rfl) ?_
          refine gc_i (wr := [(r1, .inr (1, [.ref a1, .int sz1])), (a1, .inl (G.2.1 0, N1, .inl f1))]) (gc_V (wc := [(t, .inr (2, [.ref ka, .ref na, .ref ga, .ref sa, .ref xr, .int size])), (ka, .inl (G.2.1 0, 1000, .inl kf)), (na, .inl (G.2.1 1, 1000, .inl nf)), (ga, .inl (G.2.1 1, 1000, .inl gf)), (sa, .inl (G.2.1 1, 1000, .inl sf)), (xr, .inr (1, [.ref xa, .int xsz])), (xa, .inl (G.2.1 0, 1000, .inl xf))]) (As := [.int x6_29]) (rest := [.ref xr]) ⟨hx, hb, hml, hown, hw⟩ (c_Tree_other l G t ka na ga sa xr xa kf nf gf sf size xsz xf x6_29 hs hxs H.size) (cwV 1 hw (good_V m_207 m_208 m_209 m_3 m_210) rfl rfl rfl hy_Tree_other ⟨Nat.le_of_ble_eq_true rfl, Nat.le_of_ble_eq_true rfl⟩) hE hP hD hS hA (va_recv hE.1 hP (ci := 2) (q0 := 2) rfl rfl) [2, 3, 4, 5, 6, 7, 8] rfl (by decide) rfl hl rfl (Nat.le_of_ble_eq_true rfl) d_Tree_valueNamed_54 ⟨Nat.le_of_ble_eq_true rfl, Nat.le_of_ble_eq_true rfl⟩) hP hD hS hA [2, 3, 4, 5, 6, 7, 8] [0, 1] rfl rfl (by decide) (by decide) (fun r_12 u_13 H locs hw_14 hP hD hS => ?_)
          have hP : va_P G.1 vwCl [(r1, .inr (1, [.ref a1, .int sz1])), (a1, .inl (G.2.1 0, N1, .inl f1)), (t, .inr (2, [.ref ka, .ref na, .ref ga, .ref sa, .ref xr, .int size])), (ka, .inl (G.2.1 0, 1000, .inl kf)), (na, .inl (G.2.1 1, 1000, .inl nf)), (ga, .inl (G.2.1 1, 1000, .inl gf)), (sa, .inl (G.2.1 1, 1000, .inl sf)), (xr, .inr (1, [.ref xa, .int xsz])), (xa, .inl (G.2.1 0, 1000, .inl xf))] H := hP
          have hD : va_D A [(r1, .inr (1, [.ref a1, .int sz1])), (a1, .inl (G.2.1 0, N1, .inl f1)), (t, .inr (2, [.ref ka, .ref na, .ref ga, .ref sa, .ref xr, .int size])), (ka, .inl (G.2.1 0, 1000, .inl kf)), (na, .inl (G.2.1 1, 1000, .inl nf)), (ga, .inl (G.2.1 1, 1000, .inl gf)), (sa, .inl (G.2.1 1, 1000, .inl sf)), (xr, .inr (1, [.ref xa, .int xsz])), (xa, .inl (G.2.1 0, 1000, .inl xf))] := hD
          refine lv_aload_n hx hb d_Tree_valueNamed_57 rfl (lv_at hl 5 rfl) ?_
          refine lv_iload_n hx hb d_Tree_valueNamed_58 rfl (lv_at hl 6 rfl) ?_
          refine lv_iload hx hb d_Tree_valueNamed_59 (lv_at hl 7 rfl) ?_
          refine gc_i (wr := [(t, .inr (2, [.ref ka, .ref na, .ref ga, .ref sa, .ref xr, .int size])), (ka, .inl (G.2.1 0, 1000, .inl kf)), (na, .inl (G.2.1 1, 1000, .inl nf)), (ga, .inl (G.2.1 1, 1000, .inl gf)), (sa, .inl (G.2.1 1, 1000, .inl sf))]) (gc_V (wc := [(xr, .inr (1, [.ref xa, .int xsz])), (xa, .inl (G.2.1 0, 1000, .inl xf)), (r1, .inr (1, [.ref a1, .int sz1])), (a1, .inl (G.2.1 0, N1, .inl f1))]) (As := [.int r_12, .ref r1, .int j, .int n]) (rest := []) ⟨hx, hb, hml, hown, hw⟩ (c_Row_hasAt l G xr xa 1000 xsz xf r1 a1 N1 sz1 f1 r_12 j n (by decide) hxs hN1 hok1 H.size) (cwV 4 hw (good_V m_211 m_212 m_213 m_2 m_214) rfl rfl rfl hy_Row_hasAt ⟨Nat.le_of_ble_eq_true rfl, Nat.le_of_ble_eq_true rfl⟩) hE hP hD hS hA (va_recv hE.1 hP (ci := 1) (q0 := 7) rfl rfl) [7, 8, 0, 1] rfl (by decide) rfl hl rfl (Nat.le_of_ble_eq_true rfl) d_Tree_valueNamed_61 ⟨Nat.le_of_ble_eq_true rfl, Nat.le_of_ble_eq_true rfl⟩) hP hD hS hA [7, 8, 0, 1] [2, 3, 4, 5, 6] rfl rfl (by decide) (by decide) (fun r_15 u_16 H locs hw_17 hP hD hS => ?_)
          try dsimp only at hw_17
          have h_18 := hw_17
          have hP : va_P G.1 vwCl [(t, .inr (2, [.ref ka, .ref na, .ref ga, .ref sa, .ref xr, .int size])), (ka, .inl (G.2.1 0, 1000, .inl kf)), (na, .inl (G.2.1 1, 1000, .inl nf)), (ga, .inl (G.2.1 1, 1000, .inl gf)), (sa, .inl (G.2.1 1, 1000, .inl sf)), (xr, .inr (1, [.ref xa, .int xsz])), (xa, .inl (G.2.1 0, 1000, .inl xf)), (r1, .inr (1, [.ref a1, .int sz1])), (a1, .inl (G.2.1 0, N1, .inl f1))] H := hP
          have hD : va_D A [(t, .inr (2, [.ref ka, .ref na, .ref ga, .ref sa, .ref xr, .int size])), (ka, .inl (G.2.1 0, 1000, .inl kf)), (na, .inl (G.2.1 1, 1000, .inl nf)), (ga, .inl (G.2.1 1, 1000, .inl gf)), (sa, .inl (G.2.1 1, 1000, .inl sf)), (xr, .inr (1, [.ref xa, .int xsz])), (xa, .inl (G.2.1 0, 1000, .inl xf)), (r1, .inr (1, [.ref a1, .int sz1])), (a1, .inl (G.2.1 0, N1, .inl f1))] := hD
          refine lv_if_eq (tgt := 72) hx hb d_Tree_valueNamed_64 (by decide) (fun c_19 => ?_) (fun c_19 => ?_)
          · exact J_72 (by first | assumption | trivial | (try dsimp only; omega)) _ _ (hP.sub [7, 8, 0, 1, 2, 3, 4, 5, 6] rfl) (hD.sub [7, 8, 0, 1, 2, 3, 4, 5, 6] (by decide) rfl) hS _ (lv_sub hl [0, 1, 2, 3, 4, 5, 6, 7] rfl)
          · refine lv_iload hx hb d_Tree_valueNamed_67 (lv_at hl 1 rfl) ?_
            refine lv_iconst (v := 1) hx hb d_Tree_valueNamed_69 (by decide) ?_
            refine lv_iadd hx hb d_Tree_valueNamed_70 ?_
            refine lv_topi (fun y_20 ey_20 => ?_)
            exact ret y_20 () (Nat.le_of_ble_eq_true rfl) (Nat.le_of_ble_eq_true rfl) d_Tree_valueNamed_71 rfl trivial (hP.sub [0, 1, 2, 3, 4, 5, 6, 7, 8] rfl) (hD.sub [0, 1, 2, 3, 4, 5, 6, 7, 8] (by decide) rfl) hS
  have J_19 : ∀ (k0_19 : Int32) (H : Heap) (locs : List Loc), va_P G.1 vwCl [(r1, .inr (1, [.ref a1, .int sz1])), (a1, .inl (G.2.1 0, N1, .inl f1)), (t, .inr (2, [.ref ka, .ref na, .ref ga, .ref sa, .ref xr, .int size])), (ka, .inl (G.2.1 0, 1000, .inl kf)), (na, .inl (G.2.1 1, 1000, .inl nf)), (ga, .inl (G.2.1 1, 1000, .inl gf)), (sa, .inl (G.2.1 1, 1000, .inl sf)), (xr, .inr (1, [.ref xa, .int xsz])), (xa, .inl (G.2.1 0, 1000, .inl xf))] H → va_D A [(r1, .inr (1, [.ref a1, .int sz1])), (a1, .inl (G.2.1 0, N1, .inl f1)), (t, .inr (2, [.ref ka, .ref na, .ref ga, .ref sa, .ref xr, .int size])), (ka, .inl (G.2.1 0, 1000, .inl kf)), (na, .inl (G.2.1 1, 1000, .inl nf)), (ga, .inl (G.2.1 1, 1000, .inl gf)), (sa, .inl (G.2.1 1, 1000, .inl sf)), (xr, .inr (1, [.ref xa, .int xsz])), (xa, .inl (G.2.1 0, 1000, .inl xf))] → va_S A s.heap H locs → ∀ ls : Array Slot, lv_has ls 8 [(0, .ref t), (1, .int i), (2, .ref r1), (3, .int j), (4, .int n)] → W p l e rm_Tree_valueNamed s m args below meth c H locs 0 0 Q (F0 m 19 ls [.int k0_19]) := by
    intro k0_19 H locs hP hD hS ls hl
    refine lv_istore (lv' := [(5, .int k0_19), (0, .ref t), (1, .int i), (2, .ref r1), (3, .int j), (4, .int n)]) hx hb d_Tree_valueNamed_19 hl (by decide) rfl (fun ls hl => ?_)
    refine lv_iload_n hx hb d_Tree_valueNamed_21 rfl (lv_at hl 2 rfl) ?_
    refine lv_iconst (v := 1) hx hb d_Tree_valueNamed_22 (by decide) ?_
    refine lv_iadd hx hb d_Tree_valueNamed_23 ?_
    refine lv_topi (fun y_21 ey_21 => ?_)
    refine lv_istore (lv' := [(6, .int y_21), (5, .int k0_19), (0, .ref t), (1, .int i), (2, .ref r1), (3, .int j), (4, .int n)]) hx hb d_Tree_valueNamed_24 hl (by decide) rfl (fun ls hl => ?_)
    refine lv_iconst (v := 0) hx hb d_Tree_valueNamed_26 (by decide) ?_
    refine lv_istore (lv' := [(7, .int 0), (6, .int y_21), (5, .int k0_19), (0, .ref t), (1, .int i), (2, .ref r1), (3, .int j), (4, .int n)]) hx hb d_Tree_valueNamed_27 hl (by decide) rfl (fun ls hl => ?_)
    exact J_29 _ 0 y_21 k0_19 (Nat.lt_succ_self _) _ _ (hP.sub [0, 1, 2, 3, 4, 5, 6, 7, 8] rfl) (hD.sub [0, 1, 2, 3, 4, 5, 6, 7, 8] (by decide) rfl) hS _ (lv_sub hl [0, 1, 2, 3, 4, 5, 6, 7] rfl)
  refine lv_aload_n hx hb d_Tree_valueNamed_0 rfl (lv_at hl 0 rfl) ?_
  refine lv_iload_n hx hb d_Tree_valueNamed_1 rfl (lv_at hl 1 rfl) ?_
  refine gc_i (wr := [(r1, .inr (1, [.ref a1, .int sz1])), (a1, .inl (G.2.1 0, N1, .inl f1))]) (gc_V (wc := [(t, .inr (2, [.ref ka, .ref na, .ref ga, .ref sa, .ref xr, .int size])), (ka, .inl (G.2.1 0, 1000, .inl kf)), (na, .inl (G.2.1 1, 1000, .inl nf)), (ga, .inl (G.2.1 1, 1000, .inl gf)), (sa, .inl (G.2.1 1, 1000, .inl sf)), (xr, .inr (1, [.ref xa, .int xsz])), (xa, .inl (G.2.1 0, 1000, .inl xf))]) (As := [.int i]) (rest := []) ⟨hx, hb, hml, hown, hw⟩ (c_Tree_kind l G t ka na ga sa xr xa kf nf gf sf size xsz xf i hs hxs H.size) (cwV 1 hw (good_V m_195 m_196 m_197 m_3 m_198) rfl rfl rfl hy_Tree_kind ⟨Nat.le_of_ble_eq_true rfl, Nat.le_of_ble_eq_true rfl⟩) hE hP hD hS hA (va_recv hE.1 hP (ci := 2) (q0 := 0) rfl rfl) [0, 1, 2, 3, 4, 5, 6] rfl (by decide) rfl hl rfl (Nat.le_of_ble_eq_true rfl) d_Tree_valueNamed_2 ⟨Nat.le_of_ble_eq_true rfl, Nat.le_of_ble_eq_true rfl⟩) hP hD hS hA [0, 1, 2, 3, 4, 5, 6] [7, 8] rfl rfl (by decide) (by decide) (fun r_22 u_23 H locs hw_24 hP hD hS => ?_)
  have hP : va_P G.1 vwCl [(r1, .inr (1, [.ref a1, .int sz1])), (a1, .inl (G.2.1 0, N1, .inl f1)), (t, .inr (2, [.ref ka, .ref na, .ref ga, .ref sa, .ref xr, .int size])), (ka, .inl (G.2.1 0, 1000, .inl kf)), (na, .inl (G.2.1 1, 1000, .inl nf)), (ga, .inl (G.2.1 1, 1000, .inl gf)), (sa, .inl (G.2.1 1, 1000, .inl sf)), (xr, .inr (1, [.ref xa, .int xsz])), (xa, .inl (G.2.1 0, 1000, .inl xf))] H := hP
  have hD : va_D A [(r1, .inr (1, [.ref a1, .int sz1])), (a1, .inl (G.2.1 0, N1, .inl f1)), (t, .inr (2, [.ref ka, .ref na, .ref ga, .ref sa, .ref xr, .int size])), (ka, .inl (G.2.1 0, 1000, .inl kf)), (na, .inl (G.2.1 1, 1000, .inl nf)), (ga, .inl (G.2.1 1, 1000, .inl gf)), (sa, .inl (G.2.1 1, 1000, .inl sf)), (xr, .inr (1, [.ref xa, .int xsz])), (xa, .inl (G.2.1 0, 1000, .inl xf))] := hD
  refine lv_bipush (v := 7) hx hb d_Tree_valueNamed_5 (by decide) ?_
  refine lv_icmp_ne (tgt := 18) hx hb d_Tree_valueNamed_7 (by decide) (fun c_25 => ?_) (fun c_25 => ?_)
  · refine lv_iconst (v := 0) hx hb d_Tree_valueNamed_18 (by decide) ?_
    exact J_19 0 _ _ (hP.sub [0, 1, 2, 3, 4, 5, 6, 7, 8] rfl) (hD.sub [0, 1, 2, 3, 4, 5, 6, 7, 8] (by decide) rfl) hS _ (lv_sub hl [0, 1, 2, 3, 4] rfl)
  · refine lv_aload_n hx hb d_Tree_valueNamed_10 rfl (lv_at hl 0 rfl) ?_
    refine lv_iload_n hx hb d_Tree_valueNamed_11 rfl (lv_at hl 1 rfl) ?_
    refine gc_i (wr := [(r1, .inr (1, [.ref a1, .int sz1])), (a1, .inl (G.2.1 0, N1, .inl f1))]) (gc_V (wc := [(t, .inr (2, [.ref ka, .ref na, .ref ga, .ref sa, .ref xr, .int size])), (ka, .inl (G.2.1 0, 1000, .inl kf)), (na, .inl (G.2.1 1, 1000, .inl nf)), (ga, .inl (G.2.1 1, 1000, .inl gf)), (sa, .inl (G.2.1 1, 1000, .inl sf)), (xr, .inr (1, [.ref xa, .int xsz])), (xa, .inl (G.2.1 0, 1000, .inl xf))]) (As := [.int i]) (rest := []) ⟨hx, hb, hml, hown, hw⟩ (c_Tree_number l G t ka na ga sa xr xa kf nf gf sf size xsz xf i hs hxs H.size) (cwV 1 hw (good_V m_203 m_204 m_205 m_3 m_206) rfl rfl rfl hy_Tree_number ⟨Nat.le_of_ble_eq_true rfl, Nat.le_of_ble_eq_true rfl⟩) hE hP hD hS hA (va_recv hE.1 hP (ci := 2) (q0 := 2) rfl rfl) [2, 3, 4, 5, 6, 7, 8] rfl (by decide) rfl hl rfl (Nat.le_of_ble_eq_true rfl) d_Tree_valueNamed_12 ⟨Nat.le_of_ble_eq_true rfl, Nat.le_of_ble_eq_true rfl⟩) hP hD hS hA [2, 3, 4, 5, 6, 7, 8] [0, 1] rfl rfl (by decide) (by decide) (fun r_26 u_27 H locs hw_28 hP hD hS => ?_)
    try dsimp only at hw_28
    have h_29 := hw_28
    subst h_29
    have hP : va_P G.1 vwCl [(r1, .inr (1, [.ref a1, .int sz1])), (a1, .inl (G.2.1 0, N1, .inl f1)), (t, .inr (2, [.ref ka, .ref na, .ref ga, .ref sa, .ref xr, .int size])), (ka, .inl (G.2.1 0, 1000, .inl kf)), (na, .inl (G.2.1 1, 1000, .inl nf)), (ga, .inl (G.2.1 1, 1000, .inl gf)), (sa, .inl (G.2.1 1, 1000, .inl sf)), (xr, .inr (1, [.ref xa, .int xsz])), (xa, .inl (G.2.1 0, 1000, .inl xf))] H := hP
    have hD : va_D A [(r1, .inr (1, [.ref a1, .int sz1])), (a1, .inl (G.2.1 0, N1, .inl f1)), (t, .inr (2, [.ref ka, .ref na, .ref ga, .ref sa, .ref xr, .int size])), (ka, .inl (G.2.1 0, 1000, .inl kf)), (na, .inl (G.2.1 1, 1000, .inl nf)), (ga, .inl (G.2.1 1, 1000, .inl gf)), (sa, .inl (G.2.1 1, 1000, .inl sf)), (xr, .inr (1, [.ref xa, .int xsz])), (xa, .inl (G.2.1 0, 1000, .inl xf))] := hD
    refine lv_goto (tgt := 19) hx hb d_Tree_valueNamed_15 (by decide) ?_
    exact J_19 (tr_num size nf i) _ _ (hP.sub [0, 1, 2, 3, 4, 5, 6, 7, 8] rfl) (hD.sub [0, 1, 2, 3, 4, 5, 6, 7, 8] (by decide) rfl) hS _ (lv_sub hl [0, 1, 2, 3, 4] rfl)
def rm_Tree_nodeWithText : Room := { frames := 3, cells := 0, slots := 0, locals := 66 }
set_option maxHeartbeats 4000000 in
set_option maxRecDepth 100000 in
theorem c_Tree_nodeWithText (l : Launch) (G : GG) (t : Nat) (ka : Nat) (na : Nat) (ga : Nat) (sa : Nat) (xr : Nat) (xa : Nat) (kf : Nat → Int32) (nf : Nat → Int32) (gf : Nat → Int32) (sf : Nat → Int32) (size : Int32) (xsz : Int32) (xf : Nat → Int32) (i : Int32) (k : Int32) (hs : RowOk 1000 size) (hxs : RowOk 1000 xsz) : MI l y_Tree_nodeWithText b_Tree_nodeWithText 4 .int rm_Tree_nodeWithText G [.ref t, .int i, .int k] [(t, .inr (2, [.ref ka, .ref na, .ref ga, .ref sa, .ref xr, .int size])), (ka, .inl (G.2.1 0, 1000, .inl kf)), (na, .inl (G.2.1 1, 1000, .inl nf)), (ga, .inl (G.2.1 1, 1000, .inl gf)), (sa, .inl (G.2.1 1, 1000, .inl sf)), (xr, .inr (1, [.ref xa, .int xsz])), (xa, .inl (G.2.1 0, 1000, .inl xf))] (fun (v : Int32) (u : Unit) => True) (fun (u : Unit) => [(t, .inr (2, [.ref ka, .ref na, .ref ga, .ref sa, .ref xr, .int size])), (ka, .inl (G.2.1 0, 1000, .inl kf)), (na, .inl (G.2.1 1, 1000, .inl nf)), (ga, .inl (G.2.1 1, 1000, .inl gf)), (sa, .inl (G.2.1 1, 1000, .inl sf)), (xr, .inr (1, [.ref xa, .int xsz])), (xa, .inl (G.2.1 0, 1000, .inl xf))]) 0 0 := by
  refine MI.of (cc := b_Tree_nodeWithText) (maxL := 4) (ty := .int) (C := R_Tree) (by decide +kernel) rfl (Nat.le_of_ble_eq_true rfl) ?_
  intro p e s m args below meth c A Q H ls hx hb hml hown hw hE hA hP hD hS ret hl
  have hl : lv_has ls 4 [(0, .ref t), (1, .int i), (2, .int k)] := hl
  refine lv_aload_n hx hb d_Tree_nodeWithText_0 rfl (lv_at hl 0 rfl) ?_
  refine lv_iload_n hx hb d_Tree_nodeWithText_1 rfl (lv_at hl 1 rfl) ?_
  refine gc_i (wr := []) (gc_V (wc := [(t, .inr (2, [.ref ka, .ref na, .ref ga, .ref sa, .ref xr, .int size])), (ka, .inl (G.2.1 0, 1000, .inl kf)), (na, .inl (G.2.1 1, 1000, .inl nf)), (ga, .inl (G.2.1 1, 1000, .inl gf)), (sa, .inl (G.2.1 1, 1000, .inl sf)), (xr, .inr (1, [.ref xa, .int xsz])), (xa, .inl (G.2.1 0, 1000, .inl xf))]) (As := [.int i]) (rest := []) ⟨hx, hb, hml, hown, hw⟩ (c_Tree_kind l G t ka na ga sa xr xa kf nf gf sf size xsz xf i hs hxs H.size) (cwV 1 hw (good_V m_195 m_196 m_197 m_3 m_198) rfl rfl rfl hy_Tree_kind ⟨Nat.le_of_ble_eq_true rfl, Nat.le_of_ble_eq_true rfl⟩) hE hP hD hS hA (va_recv hE.1 hP (ci := 2) (q0 := 0) rfl rfl) [0, 1, 2, 3, 4, 5, 6] rfl (by decide) rfl hl rfl (Nat.le_of_ble_eq_true rfl) d_Tree_nodeWithText_2 ⟨Nat.le_of_ble_eq_true rfl, Nat.le_of_ble_eq_true rfl⟩) hP hD hS hA [0, 1, 2, 3, 4, 5, 6] [] rfl rfl (by decide) (by decide) (fun r_1 u_2 H locs hw_3 hP hD hS => ?_)
  have hP : va_P G.1 vwCl [(t, .inr (2, [.ref ka, .ref na, .ref ga, .ref sa, .ref xr, .int size])), (ka, .inl (G.2.1 0, 1000, .inl kf)), (na, .inl (G.2.1 1, 1000, .inl nf)), (ga, .inl (G.2.1 1, 1000, .inl gf)), (sa, .inl (G.2.1 1, 1000, .inl sf)), (xr, .inr (1, [.ref xa, .int xsz])), (xa, .inl (G.2.1 0, 1000, .inl xf))] H := hP
  have hD : va_D A [(t, .inr (2, [.ref ka, .ref na, .ref ga, .ref sa, .ref xr, .int size])), (ka, .inl (G.2.1 0, 1000, .inl kf)), (na, .inl (G.2.1 1, 1000, .inl nf)), (ga, .inl (G.2.1 1, 1000, .inl gf)), (sa, .inl (G.2.1 1, 1000, .inl sf)), (xr, .inr (1, [.ref xa, .int xsz])), (xa, .inl (G.2.1 0, 1000, .inl xf))] := hD
  refine lv_istore_n (lv' := [(3, .int r_1), (0, .ref t), (1, .int i), (2, .int k)]) hx hb d_Tree_nodeWithText_5 rfl hl (by decide) rfl (fun ls hl => ?_)
  refine lv_iload_n hx hb d_Tree_nodeWithText_6 rfl (lv_at hl 0 rfl) ?_
  refine lv_iconst (v := 4) hx hb d_Tree_nodeWithText_7 (by decide) ?_
  refine lv_icmp_eq (tgt := 16) hx hb d_Tree_nodeWithText_8 (by decide) (fun c_4 => ?_) (fun c_4 => ?_)
  · refine lv_iload_n hx hb d_Tree_nodeWithText_16 rfl (lv_at hl 2 rfl) ?_
    exact ret i () (Nat.le_of_ble_eq_true rfl) (Nat.le_of_ble_eq_true rfl) d_Tree_nodeWithText_17 rfl trivial (hP.sub [0, 1, 2, 3, 4, 5, 6] rfl) (hD.sub [0, 1, 2, 3, 4, 5, 6] (by decide) rfl) hS
  · refine lv_iload_n hx hb d_Tree_nodeWithText_11 rfl (lv_at hl 0 rfl) ?_
    refine lv_iconst (v := 5) hx hb d_Tree_nodeWithText_12 (by decide) ?_
    refine lv_icmp_ne (tgt := 18) hx hb d_Tree_nodeWithText_13 (by decide) (fun c_5 => ?_) (fun c_5 => ?_)
    · refine lv_iload_n hx hb d_Tree_nodeWithText_18 rfl (lv_at hl 0 rfl) ?_
      refine lv_bipush (v := 7) hx hb d_Tree_nodeWithText_19 (by decide) ?_
      refine lv_icmp_ne (tgt := 46) hx hb d_Tree_nodeWithText_21 (by decide) (fun c_6 => ?_) (fun c_6 => ?_)
      · refine lv_bipush (v := (-2)) hx hb d_Tree_nodeWithText_46 (by decide) ?_
        exact ret (-2) () (Nat.le_of_ble_eq_true rfl) (Nat.le_of_ble_eq_true rfl) d_Tree_nodeWithText_48 rfl trivial (hP.sub [0, 1, 2, 3, 4, 5, 6] rfl) (hD.sub [0, 1, 2, 3, 4, 5, 6] (by decide) rfl) hS
      · refine lv_iload_n hx hb d_Tree_nodeWithText_24 rfl (lv_at hl 3 rfl) ?_
        refine lv_if_lt (tgt := 46) hx hb d_Tree_nodeWithText_25 (by decide) (fun c_7 => ?_) (fun c_7 => ?_)
        · refine lv_bipush (v := (-2)) hx hb d_Tree_nodeWithText_46 (by decide) ?_
          exact ret (-2) () (Nat.le_of_ble_eq_true rfl) (Nat.le_of_ble_eq_true rfl) d_Tree_nodeWithText_48 rfl trivial (hP.sub [0, 1, 2, 3, 4, 5, 6] rfl) (hD.sub [0, 1, 2, 3, 4, 5, 6] (by decide) rfl) hS
        · refine lv_iload_n hx hb d_Tree_nodeWithText_28 rfl (lv_at hl 3 rfl) ?_
          refine lv_aload_n hx hb d_Tree_nodeWithText_29 rfl (lv_at hl 1 rfl) ?_
          refine lv_iload_n hx hb d_Tree_nodeWithText_30 rfl (lv_at hl 2 rfl) ?_
          refine gc_i (wr := []) (gc_V (wc := [(t, .inr (2, [.ref ka, .ref na, .ref ga, .ref sa, .ref xr, .int size])), (ka, .inl (G.2.1 0, 1000, .inl kf)), (na, .inl (G.2.1 1, 1000, .inl nf)), (ga, .inl (G.2.1 1, 1000, .inl gf)), (sa, .inl (G.2.1 1, 1000, .inl sf)), (xr, .inr (1, [.ref xa, .int xsz])), (xa, .inl (G.2.1 0, 1000, .inl xf))]) (As := [.int i]) (rest := [.int k]) ⟨hx, hb, hml, hown, hw⟩ (c_Tree_number l G t ka na ga sa xr xa kf nf gf sf size xsz xf i hs hxs H.size) (cwV 1 hw (good_V m_203 m_204 m_205 m_3 m_206) rfl rfl rfl hy_Tree_number ⟨Nat.le_of_ble_eq_true rfl, Nat.le_of_ble_eq_true rfl⟩) hE hP hD hS hA (va_recv hE.1 hP (ci := 2) (q0 := 0) rfl rfl) [0, 1, 2, 3, 4, 5, 6] rfl (by decide) rfl hl rfl (Nat.le_of_ble_eq_true rfl) d_Tree_nodeWithText_31 ⟨Nat.le_of_ble_eq_true rfl, Nat.le_of_ble_eq_true rfl⟩) hP hD hS hA [0, 1, 2, 3, 4, 5, 6] [] rfl rfl (by decide) (by decide) (fun r_8 u_9 H locs hw_10 hP hD hS => ?_)
          try dsimp only at hw_10
          have h_11 := hw_10
          subst h_11
          have hP : va_P G.1 vwCl [(t, .inr (2, [.ref ka, .ref na, .ref ga, .ref sa, .ref xr, .int size])), (ka, .inl (G.2.1 0, 1000, .inl kf)), (na, .inl (G.2.1 1, 1000, .inl nf)), (ga, .inl (G.2.1 1, 1000, .inl gf)), (sa, .inl (G.2.1 1, 1000, .inl sf)), (xr, .inr (1, [.ref xa, .int xsz])), (xa, .inl (G.2.1 0, 1000, .inl xf))] H := hP
          have hD : va_D A [(t, .inr (2, [.ref ka, .ref na, .ref ga, .ref sa, .ref xr, .int size])), (ka, .inl (G.2.1 0, 1000, .inl kf)), (na, .inl (G.2.1 1, 1000, .inl nf)), (ga, .inl (G.2.1 1, 1000, .inl gf)), (sa, .inl (G.2.1 1, 1000, .inl sf)), (xr, .inr (1, [.ref xa, .int xsz])), (xa, .inl (G.2.1 0, 1000, .inl xf))] := hD
          refine lv_icmp_ge (tgt := 46) hx hb d_Tree_nodeWithText_34 (by decide) (fun c_12 => ?_) (fun c_12 => ?_)
          · refine lv_bipush (v := (-2)) hx hb d_Tree_nodeWithText_46 (by decide) ?_
            exact ret (-2) () (Nat.le_of_ble_eq_true rfl) (Nat.le_of_ble_eq_true rfl) d_Tree_nodeWithText_48 rfl trivial (hP.sub [0, 1, 2, 3, 4, 5, 6] rfl) (hD.sub [0, 1, 2, 3, 4, 5, 6] (by decide) rfl) hS
          · refine lv_aload_n hx hb d_Tree_nodeWithText_37 rfl (lv_at hl 1 rfl) ?_
            refine lv_iload_n hx hb d_Tree_nodeWithText_38 rfl (lv_at hl 2 rfl) ?_
            refine lv_iload_n hx hb d_Tree_nodeWithText_39 rfl (lv_at hl 3 rfl) ?_
            refine gc_i (wr := []) (gc_V (wc := [(t, .inr (2, [.ref ka, .ref na, .ref ga, .ref sa, .ref xr, .int size])), (ka, .inl (G.2.1 0, 1000, .inl kf)), (na, .inl (G.2.1 1, 1000, .inl nf)), (ga, .inl (G.2.1 1, 1000, .inl gf)), (sa, .inl (G.2.1 1, 1000, .inl sf)), (xr, .inr (1, [.ref xa, .int xsz])), (xa, .inl (G.2.1 0, 1000, .inl xf))]) (As := [.int i, .int k]) (rest := []) ⟨hx, hb, hml, hown, hw⟩ (c_Tree_nameNode l G t ka na ga sa xr xa kf nf gf sf size xsz xf i k hs hxs H.size) (cwV 2 hw (good_V m_409 m_411 ms_28 m_3 m_412) rfl rfl rfl hy_Tree_nameNode ⟨Nat.le_of_ble_eq_true rfl, Nat.le_of_ble_eq_true rfl⟩) hE hP hD hS hA (va_recv hE.1 hP (ci := 2) (q0 := 0) rfl rfl) [0, 1, 2, 3, 4, 5, 6] rfl (by decide) rfl hl rfl (Nat.le_of_ble_eq_true rfl) d_Tree_nodeWithText_40 ⟨Nat.le_of_ble_eq_true rfl, Nat.le_of_ble_eq_true rfl⟩) hP hD hS hA [0, 1, 2, 3, 4, 5, 6] [] rfl rfl (by decide) (by decide) (fun r_13 u_14 H locs hw_15 hP hD hS => ?_)
            have hP : va_P G.1 vwCl [(t, .inr (2, [.ref ka, .ref na, .ref ga, .ref sa, .ref xr, .int size])), (ka, .inl (G.2.1 0, 1000, .inl kf)), (na, .inl (G.2.1 1, 1000, .inl nf)), (ga, .inl (G.2.1 1, 1000, .inl gf)), (sa, .inl (G.2.1 1, 1000, .inl sf)), (xr, .inr (1, [.ref xa, .int xsz])), (xa, .inl (G.2.1 0, 1000, .inl xf))] H := hP
            have hD : va_D A [(t, .inr (2, [.ref ka, .ref na, .ref ga, .ref sa, .ref xr, .int size])), (ka, .inl (G.2.1 0, 1000, .inl kf)), (na, .inl (G.2.1 1, 1000, .inl nf)), (ga, .inl (G.2.1 1, 1000, .inl gf)), (sa, .inl (G.2.1 1, 1000, .inl sf)), (xr, .inr (1, [.ref xa, .int xsz])), (xa, .inl (G.2.1 0, 1000, .inl xf))] := hD
            refine lv_goto (tgt := 48) hx hb d_Tree_nodeWithText_43 (by decide) ?_
            exact ret r_13 () (Nat.le_of_ble_eq_true rfl) (Nat.le_of_ble_eq_true rfl) d_Tree_nodeWithText_48 rfl trivial (hP.sub [0, 1, 2, 3, 4, 5, 6] rfl) (hD.sub [0, 1, 2, 3, 4, 5, 6] (by decide) rfl) hS
    · refine lv_iload_n hx hb d_Tree_nodeWithText_16 rfl (lv_at hl 2 rfl) ?_
      exact ret i () (Nat.le_of_ble_eq_true rfl) (Nat.le_of_ble_eq_true rfl) d_Tree_nodeWithText_17 rfl trivial (hP.sub [0, 1, 2, 3, 4, 5, 6] rfl) (hD.sub [0, 1, 2, 3, 4, 5, 6] (by decide) rfl) hS
def rm_Tree_countValues : Room := { frames := 2, cells := 0, slots := 0, locals := 42 }
set_option maxHeartbeats 4000000 in
set_option maxRecDepth 100000 in
theorem c_Tree_countValues (l : Launch) (G : GG) (t : Nat) (ka : Nat) (na : Nat) (ga : Nat) (sa : Nat) (xr : Nat) (xa : Nat) (kf : Nat → Int32) (nf : Nat → Int32) (gf : Nat → Int32) (sf : Nat → Int32) (size : Int32) (xsz : Int32) (xf : Nat → Int32) (i : Int32) (hs : RowOk 1000 size) (hxs : RowOk 1000 xsz) : MI l y_Tree_countValues b_Tree_countValues 5 .int rm_Tree_countValues G [.ref t, .int i] [(t, .inr (2, [.ref ka, .ref na, .ref ga, .ref sa, .ref xr, .int size])), (ka, .inl (G.2.1 0, 1000, .inl kf)), (na, .inl (G.2.1 1, 1000, .inl nf)), (ga, .inl (G.2.1 1, 1000, .inl gf)), (sa, .inl (G.2.1 1, 1000, .inl sf)), (xr, .inr (1, [.ref xa, .int xsz])), (xa, .inl (G.2.1 0, 1000, .inl xf))] (fun (v : Int32) (u : Unit) => True) (fun (u : Unit) => [(t, .inr (2, [.ref ka, .ref na, .ref ga, .ref sa, .ref xr, .int size])), (ka, .inl (G.2.1 0, 1000, .inl kf)), (na, .inl (G.2.1 1, 1000, .inl nf)), (ga, .inl (G.2.1 1, 1000, .inl gf)), (sa, .inl (G.2.1 1, 1000, .inl sf)), (xr, .inr (1, [.ref xa, .int xsz])), (xa, .inl (G.2.1 0, 1000, .inl xf))]) 0 0 := by
  refine MI.of (cc := b_Tree_countValues) (maxL := 5) (ty := .int) (C := R_Tree) (by decide +kernel) rfl (Nat.le_of_ble_eq_true rfl) ?_
  intro p e s m args below meth c A Q H ls hx hb hml hown hw hE hA hP hD hS ret hl
  have hl : lv_has ls 5 [(0, .ref t), (1, .int i)] := hl
  have J_11 : ∀ (fu : Nat) (x4_11 : Int32) (x3_11 : Int32) (x2_11 : Int32), (x3_11.toInt - x4_11.toInt).toNat < fu → ∀ (H : Heap) (locs : List Loc), va_P G.1 vwCl [(t, .inr (2, [.ref ka, .ref na, .ref ga, .ref sa, .ref xr, .int size])), (ka, .inl (G.2.1 0, 1000, .inl kf)), (na, .inl (G.2.1 1, 1000, .inl nf)), (ga, .inl (G.2.1 1, 1000, .inl gf)), (sa, .inl (G.2.1 1, 1000, .inl sf)), (xr, .inr (1, [.ref xa, .int xsz])), (xa, .inl (G.2.1 0, 1000, .inl xf))] H → va_D A [(t, .inr (2, [.ref ka, .ref na, .ref ga, .ref sa, .ref xr, .int size])), (ka, .inl (G.2.1 0, 1000, .inl kf)), (na, .inl (G.2.1 1, 1000, .inl nf)), (ga, .inl (G.2.1 1, 1000, .inl gf)), (sa, .inl (G.2.1 1, 1000, .inl sf)), (xr, .inr (1, [.ref xa, .int xsz])), (xa, .inl (G.2.1 0, 1000, .inl xf))] → va_S A s.heap H locs → ∀ ls : Array Slot, lv_has ls 5 [(4, .int x4_11), (3, .int x3_11), (2, .int x2_11), (0, .ref t), (1, .int i)] → W p l e rm_Tree_countValues s m args below meth c H locs 0 0 Q (F0 m 11 ls []) := by
    intro fu
    induction fu with
    | zero =>
      intro x4_11 x3_11 x2_11 hm
      exact absurd hm (Nat.not_lt_zero _)
    | succ fu ih_11 =>
      intro x4_11 x3_11 x2_11 hm_11 H locs hP hD hS ls hl
      have J_41 : ∀ (k0_41 : Int32) (hk0_41 : ¬ x3_11 ≤ x4_11) (H : Heap) (locs : List Loc), va_P G.1 vwCl [(t, .inr (2, [.ref ka, .ref na, .ref ga, .ref sa, .ref xr, .int size])), (ka, .inl (G.2.1 0, 1000, .inl kf)), (na, .inl (G.2.1 1, 1000, .inl nf)), (ga, .inl (G.2.1 1, 1000, .inl gf)), (sa, .inl (G.2.1 1, 1000, .inl sf)), (xr, .inr (1, [.ref xa, .int xsz])), (xa, .inl (G.2.1 0, 1000, .inl xf))] H → va_D A [(t, .inr (2, [.ref ka, .ref na, .ref ga, .ref sa, .ref xr, .int size])), (ka, .inl (G.2.1 0, 1000, .inl kf)), (na, .inl (G.2.1 1, 1000, .inl nf)), (ga, .inl (G.2.1 1, 1000, .inl gf)), (sa, .inl (G.2.1 1, 1000, .inl sf)), (xr, .inr (1, [.ref xa, .int xsz])), (xa, .inl (G.2.1 0, 1000, .inl xf))] → va_S A s.heap H locs → ∀ ls : Array Slot, lv_has ls 5 [(4, .int x4_11), (3, .int x3_11), (2, .int x2_11), (0, .ref t), (1, .int i)] → W p l e rm_Tree_countValues s m args below meth c H locs 0 0 Q (F0 m 41 ls [.int k0_41, .int x2_11]) := by
        intro k0_41 hk0_41 H locs hP hD hS ls hl
        refine lv_iadd hx hb d_Tree_countValues_41 ?_
        refine lv_topi (fun y_1 ey_1 => ?_)
        refine lv_istore_n (lv' := [(2, .int y_1), (4, .int x4_11), (3, .int x3_11), (0, .ref t), (1, .int i)]) hx hb d_Tree_countValues_42 rfl hl (by decide) rfl (fun ls hl => ?_)
        obtain ⟨y_2, ey_2⟩ : ∃ y : Int32, y = x4_11 + 1 := ⟨_, rfl⟩
        refine lv_iinc (v := y_2) (lv' := [(4, .int y_2), (2, .int y_1), (3, .int x3_11), (0, .ref t), (1, .int i)]) hx hb d_Tree_countValues_43 hl (k := 1) rfl (by rw [ey_2]; rfl) (by decide) rfl (fun ls hl => ?_)
        refine lv_goto (tgt := 11) hx hb d_Tree_countValues_46 (by decide) ?_
        exact ih_11 y_2 x3_11 y_1 (ms_up (by assumption) (by assumption) hm_11) _ _ (hP.sub [0, 1, 2, 3, 4, 5, 6] rfl) (hD.sub [0, 1, 2, 3, 4, 5, 6] (by decide) rfl) hS _ (lv_sub hl [0, 2, 1, 3, 4] rfl)
      refine lv_iload hx hb d_Tree_countValues_11 (lv_at hl 0 rfl) ?_
      refine lv_iload_n hx hb d_Tree_countValues_13 rfl (lv_at hl 1 rfl) ?_
      refine lv_icmp_ge (tgt := 49) hx hb d_Tree_countValues_14 (by decide) (fun c_3 => ?_) (fun c_3 => ?_)
      · refine lv_iload_n hx hb d_Tree_countValues_49 rfl (lv_at hl 2 rfl) ?_
        exact ret x2_11 () (Nat.le_of_ble_eq_true rfl) (Nat.le_of_ble_eq_true rfl) d_Tree_countValues_50 rfl trivial (hP.sub [0, 1, 2, 3, 4, 5, 6] rfl) (hD.sub [0, 1, 2, 3, 4, 5, 6] (by decide) rfl) hS
      · refine lv_iload_n hx hb d_Tree_countValues_17 rfl (lv_at hl 2 rfl) ?_
        refine lv_aload_n hx hb d_Tree_countValues_18 rfl (lv_at hl 3 rfl) ?_
        refine lv_iload hx hb d_Tree_countValues_19 (lv_at hl 0 rfl) ?_
        refine gc_i (wr := []) (gc_V (wc := [(t, .inr (2, [.ref ka, .ref na, .ref ga, .ref sa, .ref xr, .int size])), (ka, .inl (G.2.1 0, 1000, .inl kf)), (na, .inl (G.2.1 1, 1000, .inl nf)), (ga, .inl (G.2.1 1, 1000, .inl gf)), (sa, .inl (G.2.1 1, 1000, .inl sf)), (xr, .inr (1, [.ref xa, .int xsz])), (xa, .inl (G.2.1 0, 1000, .inl xf))]) (As := [.int x4_11]) (rest := [.int x2_11]) ⟨hx, hb, hml, hown, hw⟩ (c_Tree_kind l G t ka na ga sa xr xa kf nf gf sf size xsz xf x4_11 hs hxs H.size) (cwV 1 hw (good_V m_195 m_196 m_197 m_3 m_198) rfl rfl rfl hy_Tree_kind ⟨Nat.le_of_ble_eq_true rfl, Nat.le_of_ble_eq_true rfl⟩) hE hP hD hS hA (va_recv hE.1 hP (ci := 2) (q0 := 0) rfl rfl) [0, 1, 2, 3, 4, 5, 6] rfl (by decide) rfl hl rfl (Nat.le_of_ble_eq_true rfl) d_Tree_countValues_21 ⟨Nat.le_of_ble_eq_true rfl, Nat.le_of_ble_eq_true rfl⟩) hP hD hS hA [0, 1, 2, 3, 4, 5, 6] [] rfl rfl (by decide) (by decide) (fun r_4 u_5 H locs hw_6 hP hD hS => ?_)
        have hP : va_P G.1 vwCl [(t, .inr (2, [.ref ka, .ref na, .ref ga, .ref sa, .ref xr, .int size])), (ka, .inl (G.2.1 0, 1000, .inl kf)), (na, .inl (G.2.1 1, 1000, .inl nf)), (ga, .inl (G.2.1 1, 1000, .inl gf)), (sa, .inl (G.2.1 1, 1000, .inl sf)), (xr, .inr (1, [.ref xa, .int xsz])), (xa, .inl (G.2.1 0, 1000, .inl xf))] H := hP
        have hD : va_D A [(t, .inr (2, [.ref ka, .ref na, .ref ga, .ref sa, .ref xr, .int size])), (ka, .inl (G.2.1 0, 1000, .inl kf)), (na, .inl (G.2.1 1, 1000, .inl nf)), (ga, .inl (G.2.1 1, 1000, .inl gf)), (sa, .inl (G.2.1 1, 1000, .inl sf)), (xr, .inr (1, [.ref xa, .int xsz])), (xa, .inl (G.2.1 0, 1000, .inl xf))] := hD
        refine lv_bipush (v := 7) hx hb d_Tree_countValues_24 (by decide) ?_
        refine lv_icmp_ne (tgt := 40) hx hb d_Tree_countValues_26 (by decide) (fun c_7 => ?_) (fun c_7 => ?_)
        · refine lv_iconst (v := 1) hx hb d_Tree_countValues_40 (by decide) ?_
          exact J_41 1 (by first | assumption | trivial | (try dsimp only; omega)) _ _ (hP.sub [0, 1, 2, 3, 4, 5, 6] rfl) (hD.sub [0, 1, 2, 3, 4, 5, 6] (by decide) rfl) hS _ (lv_sub hl [0, 1, 2, 3, 4] rfl)
        · refine lv_iconst (v := 1) hx hb d_Tree_countValues_29 (by decide) ?_
          refine lv_aload_n hx hb d_Tree_countValues_30 rfl (lv_at hl 3 rfl) ?_
          refine lv_iload hx hb d_Tree_countValues_31 (lv_at hl 0 rfl) ?_
          refine gc_i (wr := []) (gc_V (wc := [(t, .inr (2, [.ref ka, .ref na, .ref ga, .ref sa, .ref xr, .int size])), (ka, .inl (G.2.1 0, 1000, .inl kf)), (na, .inl (G.2.1 1, 1000, .inl nf)), (ga, .inl (G.2.1 1, 1000, .inl gf)), (sa, .inl (G.2.1 1, 1000, .inl sf)), (xr, .inr (1, [.ref xa, .int xsz])), (xa, .inl (G.2.1 0, 1000, .inl xf))]) (As := [.int x4_11]) (rest := [.int 1, .int x2_11]) ⟨hx, hb, hml, hown, hw⟩ (c_Tree_number l G t ka na ga sa xr xa kf nf gf sf size xsz xf x4_11 hs hxs H.size) (cwV 1 hw (good_V m_203 m_204 m_205 m_3 m_206) rfl rfl rfl hy_Tree_number ⟨Nat.le_of_ble_eq_true rfl, Nat.le_of_ble_eq_true rfl⟩) hE hP hD hS hA (va_recv hE.1 hP (ci := 2) (q0 := 0) rfl rfl) [0, 1, 2, 3, 4, 5, 6] rfl (by decide) rfl hl rfl (Nat.le_of_ble_eq_true rfl) d_Tree_countValues_33 ⟨Nat.le_of_ble_eq_true rfl, Nat.le_of_ble_eq_true rfl⟩) hP hD hS hA [0, 1, 2, 3, 4, 5, 6] [] rfl rfl (by decide) (by decide) (fun r_8 u_9 H locs hw_10 hP hD hS => ?_)
          try dsimp only at hw_10
          have h_11 := hw_10
          subst h_11
          have hP : va_P G.1 vwCl [(t, .inr (2, [.ref ka, .ref na, .ref ga, .ref sa, .ref xr, .int size])), (ka, .inl (G.2.1 0, 1000, .inl kf)), (na, .inl (G.2.1 1, 1000, .inl nf)), (ga, .inl (G.2.1 1, 1000, .inl gf)), (sa, .inl (G.2.1 1, 1000, .inl sf)), (xr, .inr (1, [.ref xa, .int xsz])), (xa, .inl (G.2.1 0, 1000, .inl xf))] H := hP
          have hD : va_D A [(t, .inr (2, [.ref ka, .ref na, .ref ga, .ref sa, .ref xr, .int size])), (ka, .inl (G.2.1 0, 1000, .inl kf)), (na, .inl (G.2.1 1, 1000, .inl nf)), (ga, .inl (G.2.1 1, 1000, .inl gf)), (sa, .inl (G.2.1 1, 1000, .inl sf)), (xr, .inr (1, [.ref xa, .int xsz])), (xa, .inl (G.2.1 0, 1000, .inl xf))] := hD
          refine lv_isub hx hb d_Tree_countValues_36 ?_
          refine lv_topi (fun y_12 ey_12 => ?_)
          refine lv_goto (tgt := 41) hx hb d_Tree_countValues_37 (by decide) ?_
          exact J_41 y_12 (by first | assumption | trivial | (try dsimp only; omega)) _ _ (hP.sub [0, 1, 2, 3, 4, 5, 6] rfl) (hD.sub [0, 1, 2, 3, 4, 5, 6] (by decide) rfl) hS _ (lv_sub hl [0, 1, 2, 3, 4] rfl)
  refine lv_iconst (v := 0) hx hb d_Tree_countValues_0 (by decide) ?_
  refine lv_istore_n (lv' := [(2, .int 0), (0, .ref t), (1, .int i)]) hx hb d_Tree_countValues_1 rfl hl (by decide) rfl (fun ls hl => ?_)
  refine lv_aload_n hx hb d_Tree_countValues_2 rfl (lv_at hl 1 rfl) ?_
  refine lv_iload_n hx hb d_Tree_countValues_3 rfl (lv_at hl 2 rfl) ?_
  refine gc_i (wr := []) (gc_V (wc := [(t, .inr (2, [.ref ka, .ref na, .ref ga, .ref sa, .ref xr, .int size])), (ka, .inl (G.2.1 0, 1000, .inl kf)), (na, .inl (G.2.1 1, 1000, .inl nf)), (ga, .inl (G.2.1 1, 1000, .inl gf)), (sa, .inl (G.2.1 1, 1000, .inl sf)), (xr, .inr (1, [.ref xa, .int xsz])), (xa, .inl (G.2.1 0, 1000, .inl xf))]) (As := [.int i]) (rest := []) ⟨hx, hb, hml, hown, hw⟩ (c_Tree_after l G t ka na ga sa xr xa kf nf gf sf size xsz xf i hs hxs H.size) (cwV 1 hw (good_V m_215 m_216 m_217 m_3 m_218) rfl rfl rfl hy_Tree_after ⟨Nat.le_of_ble_eq_true rfl, Nat.le_of_ble_eq_true rfl⟩) hE hP hD hS hA (va_recv hE.1 hP (ci := 2) (q0 := 0) rfl rfl) [0, 1, 2, 3, 4, 5, 6] rfl (by decide) rfl hl rfl (Nat.le_of_ble_eq_true rfl) d_Tree_countValues_4 ⟨Nat.le_of_ble_eq_true rfl, Nat.le_of_ble_eq_true rfl⟩) hP hD hS hA [0, 1, 2, 3, 4, 5, 6] [] rfl rfl (by decide) (by decide) (fun r_13 u_14 H locs hw_15 hP hD hS => ?_)
  have hP : va_P G.1 vwCl [(t, .inr (2, [.ref ka, .ref na, .ref ga, .ref sa, .ref xr, .int size])), (ka, .inl (G.2.1 0, 1000, .inl kf)), (na, .inl (G.2.1 1, 1000, .inl nf)), (ga, .inl (G.2.1 1, 1000, .inl gf)), (sa, .inl (G.2.1 1, 1000, .inl sf)), (xr, .inr (1, [.ref xa, .int xsz])), (xa, .inl (G.2.1 0, 1000, .inl xf))] H := hP
  have hD : va_D A [(t, .inr (2, [.ref ka, .ref na, .ref ga, .ref sa, .ref xr, .int size])), (ka, .inl (G.2.1 0, 1000, .inl kf)), (na, .inl (G.2.1 1, 1000, .inl nf)), (ga, .inl (G.2.1 1, 1000, .inl gf)), (sa, .inl (G.2.1 1, 1000, .inl sf)), (xr, .inr (1, [.ref xa, .int xsz])), (xa, .inl (G.2.1 0, 1000, .inl xf))] := hD
  refine lv_istore_n (lv' := [(3, .int r_13), (2, .int 0), (0, .ref t), (1, .int i)]) hx hb d_Tree_countValues_7 rfl hl (by decide) rfl (fun ls hl => ?_)
  refine lv_iload_n hx hb d_Tree_countValues_8 rfl (lv_at hl 3 rfl) ?_
  refine lv_istore (lv' := [(4, .int i), (3, .int r_13), (2, .int 0), (0, .ref t), (1, .int i)]) hx hb d_Tree_countValues_9 hl (by decide) rfl (fun ls hl => ?_)
  exact J_11 _ i r_13 0 (Nat.lt_succ_self _) _ _ (hP.sub [0, 1, 2, 3, 4, 5, 6] rfl) (hD.sub [0, 1, 2, 3, 4, 5, 6] (by decide) rfl) hS _ (lv_sub hl [0, 1, 2, 3, 4] rfl)
end
section
def rm_Reader_isRegular : Room := { frames := 0, cells := 0, slots := 0, locals := 0 }
set_option maxHeartbeats 4000000 in
set_option maxRecDepth 100000 in
theorem c_Reader_isRegular (l : Launch) (G : GG) (b : Int32) : MI l y_Reader_isRegular b_Reader_isRegular 1 .boolean rm_Reader_isRegular G [.int b] [] (fun (v : Int32) (u : Unit) => (v = 0 ∨ v = 1)) (fun (u : Unit) => []) 0 0 := by
  refine MI.of (cc := b_Reader_isRegular) (maxL := 1) (ty := .boolean) (C := R_Reader) (by decide +kernel) rfl (Nat.le_of_ble_eq_true rfl) ?_
  intro p e s m args below meth c A Q H ls hx hb hml hown hw hE hA hP hD hS ret hl
  have hl : lv_has ls 1 [(0, .int b)] := hl
  refine lv_iload_n hx hb d_Reader_isRegular_0 rfl (lv_at hl 0 rfl) ?_
  by_cases w_1 : b = 40
  · rw [w_1]
    refine lv_lookup (tgt := 68) (off := 67) hx hb d_Reader_isRegular_1 (by decide) (by decide) (by decide) ?_
    refine lv_iconst (v := 0) hx hb d_Reader_isRegular_68 (by decide) ?_
    exact ret 0 () (Nat.le_of_ble_eq_true rfl) (Nat.le_of_ble_eq_true rfl) d_Reader_isRegular_69 rfl (by first | assumption | decide) (hP.sub [] rfl) (hD.sub [] (by decide) rfl) hS
  by_cases w_2 : b = 41
  · rw [w_2]
    refine lv_lookup (tgt := 68) (off := 67) hx hb d_Reader_isRegular_1 (by decide) (by decide) (by decide) ?_
    refine lv_iconst (v := 0) hx hb d_Reader_isRegular_68 (by decide) ?_
    exact ret 0 () (Nat.le_of_ble_eq_true rfl) (Nat.le_of_ble_eq_true rfl) d_Reader_isRegular_69 rfl (by first | assumption | decide) (hP.sub [] rfl) (hD.sub [] (by decide) rfl) hS
  by_cases w_3 : b = 47
  · rw [w_3]
    refine lv_lookup (tgt := 68) (off := 67) hx hb d_Reader_isRegular_1 (by decide) (by decide) (by decide) ?_
    refine lv_iconst (v := 0) hx hb d_Reader_isRegular_68 (by decide) ?_
    exact ret 0 () (Nat.le_of_ble_eq_true rfl) (Nat.le_of_ble_eq_true rfl) d_Reader_isRegular_69 rfl (by first | assumption | decide) (hP.sub [] rfl) (hD.sub [] (by decide) rfl) hS
  by_cases w_4 : b = 60
  · rw [w_4]
    refine lv_lookup (tgt := 68) (off := 67) hx hb d_Reader_isRegular_1 (by decide) (by decide) (by decide) ?_
    refine lv_iconst (v := 0) hx hb d_Reader_isRegular_68 (by decide) ?_
    exact ret 0 () (Nat.le_of_ble_eq_true rfl) (Nat.le_of_ble_eq_true rfl) d_Reader_isRegular_69 rfl (by first | assumption | decide) (hP.sub [] rfl) (hD.sub [] (by decide) rfl) hS
  by_cases w_5 : b = 62
  · rw [w_5]
    refine lv_lookup (tgt := 68) (off := 67) hx hb d_Reader_isRegular_1 (by decide) (by decide) (by decide) ?_
    refine lv_iconst (v := 0) hx hb d_Reader_isRegular_68 (by decide) ?_
    exact ret 0 () (Nat.le_of_ble_eq_true rfl) (Nat.le_of_ble_eq_true rfl) d_Reader_isRegular_69 rfl (by first | assumption | decide) (hP.sub [] rfl) (hD.sub [] (by decide) rfl) hS
  by_cases w_6 : b = 91
  · rw [w_6]
    refine lv_lookup (tgt := 68) (off := 67) hx hb d_Reader_isRegular_1 (by decide) (by decide) (by decide) ?_
    refine lv_iconst (v := 0) hx hb d_Reader_isRegular_68 (by decide) ?_
    exact ret 0 () (Nat.le_of_ble_eq_true rfl) (Nat.le_of_ble_eq_true rfl) d_Reader_isRegular_69 rfl (by first | assumption | decide) (hP.sub [] rfl) (hD.sub [] (by decide) rfl) hS
  by_cases w_7 : b = 93
  · rw [w_7]
    refine lv_lookup (tgt := 68) (off := 67) hx hb d_Reader_isRegular_1 (by decide) (by decide) (by decide) ?_
    refine lv_iconst (v := 0) hx hb d_Reader_isRegular_68 (by decide) ?_
    exact ret 0 () (Nat.le_of_ble_eq_true rfl) (Nat.le_of_ble_eq_true rfl) d_Reader_isRegular_69 rfl (by first | assumption | decide) (hP.sub [] rfl) (hD.sub [] (by decide) rfl) hS
  refine lv_lookup (tgt := 70) (off := 69) hx hb d_Reader_isRegular_1 (by decide) (by show Op.lookupswitch.offset [(40, 67), (41, 67), (47, 67), (60, 67), (62, 67), (91, 67), (93, 67)] 69 _ = _; rw [lv_osw w_1 (by decide), lv_osw w_2 (by decide), lv_osw w_3 (by decide), lv_osw w_4 (by decide), lv_osw w_5 (by decide), lv_osw w_6 (by decide), lv_osw w_7 (by decide)]; rfl) (by decide) ?_
  refine lv_iload_n hx hb d_Reader_isRegular_70 rfl (lv_at hl 0 rfl) ?_
  refine lv_bipush (v := 33) hx hb d_Reader_isRegular_71 (by decide) ?_
  refine lv_icmp_lt (tgt := 86) hx hb d_Reader_isRegular_73 (by decide) (fun c_8 => ?_) (fun c_8 => ?_)
  · refine lv_iconst (v := 0) hx hb d_Reader_isRegular_86 (by decide) ?_
    exact ret 0 () (Nat.le_of_ble_eq_true rfl) (Nat.le_of_ble_eq_true rfl) d_Reader_isRegular_87 rfl (by first | assumption | decide) (hP.sub [] rfl) (hD.sub [] (by decide) rfl) hS
  · refine lv_iload_n hx hb d_Reader_isRegular_76 rfl (lv_at hl 0 rfl) ?_
    refine lv_bipush (v := 126) hx hb d_Reader_isRegular_77 (by decide) ?_
    refine lv_icmp_gt (tgt := 86) hx hb d_Reader_isRegular_79 (by decide) (fun c_9 => ?_) (fun c_9 => ?_)
    · refine lv_iconst (v := 0) hx hb d_Reader_isRegular_86 (by decide) ?_
      exact ret 0 () (Nat.le_of_ble_eq_true rfl) (Nat.le_of_ble_eq_true rfl) d_Reader_isRegular_87 rfl (by first | assumption | decide) (hP.sub [] rfl) (hD.sub [] (by decide) rfl) hS
    · refine lv_iconst (v := 1) hx hb d_Reader_isRegular_82 (by decide) ?_
      refine lv_goto (tgt := 87) hx hb d_Reader_isRegular_83 (by decide) ?_
      exact ret 1 () (Nat.le_of_ble_eq_true rfl) (Nat.le_of_ble_eq_true rfl) d_Reader_isRegular_87 rfl (by first | assumption | decide) (hP.sub [] rfl) (hD.sub [] (by decide) rfl) hS
def rm_Reader_isWhite : Room := { frames := 0, cells := 0, slots := 0, locals := 0 }
set_option maxHeartbeats 4000000 in
set_option maxRecDepth 100000 in
theorem c_Reader_isWhite (l : Launch) (G : GG) (b : Int32) : MI l y_Reader_isWhite b_Reader_isWhite 1 .boolean rm_Reader_isWhite G [.int b] [] (fun (v : Int32) (u : Unit) => (v = 0 ∨ v = 1)) (fun (u : Unit) => []) 0 0 := by
  refine MI.of (cc := b_Reader_isWhite) (maxL := 1) (ty := .boolean) (C := R_Reader) (by decide +kernel) rfl (Nat.le_of_ble_eq_true rfl) ?_
  intro p e s m args below meth c A Q H ls hx hb hml hown hw hE hA hP hD hS ret hl
  have hl : lv_has ls 1 [(0, .int b)] := hl
  have J_18 : ∀ (H : Heap) (locs : List Loc), va_P G.1 vwCl [] H → va_D A [] → va_S A s.heap H locs → ∀ ls : Array Slot, lv_has ls 1 [(0, .int b)] → W p l e rm_Reader_isWhite s m args below meth c H locs 0 0 Q (F0 m 18 ls []) := by
    intro H locs hP hD hS ls hl
    refine lv_iconst (v := 1) hx hb d_Reader_isWhite_18 (by decide) ?_
    refine lv_goto (tgt := 23) hx hb d_Reader_isWhite_19 (by decide) ?_
    exact ret 1 () (Nat.le_of_ble_eq_true rfl) (Nat.le_of_ble_eq_true rfl) d_Reader_isWhite_23 rfl (by first | assumption | decide) (hP.sub [] rfl) (hD.sub [] (by decide) rfl) hS
  refine lv_iload_n hx hb d_Reader_isWhite_0 rfl (lv_at hl 0 rfl) ?_
  refine lv_bipush (v := 32) hx hb d_Reader_isWhite_1 (by decide) ?_
  refine lv_icmp_eq (tgt := 18) hx hb d_Reader_isWhite_3 (by decide) (fun c_1 => ?_) (fun c_1 => ?_)
  · exact J_18 _ _ (hP.sub [] rfl) (hD.sub [] (by decide) rfl) hS _ (lv_sub hl [0] rfl)
  · refine lv_iload_n hx hb d_Reader_isWhite_6 rfl (lv_at hl 0 rfl) ?_
    refine lv_bipush (v := 10) hx hb d_Reader_isWhite_7 (by decide) ?_
    refine lv_icmp_eq (tgt := 18) hx hb d_Reader_isWhite_9 (by decide) (fun c_2 => ?_) (fun c_2 => ?_)
    · exact J_18 _ _ (hP.sub [] rfl) (hD.sub [] (by decide) rfl) hS _ (lv_sub hl [0] rfl)
    · refine lv_iload_n hx hb d_Reader_isWhite_12 rfl (lv_at hl 0 rfl) ?_
      refine lv_bipush (v := 13) hx hb d_Reader_isWhite_13 (by decide) ?_
      refine lv_icmp_ne (tgt := 22) hx hb d_Reader_isWhite_15 (by decide) (fun c_3 => ?_) (fun c_3 => ?_)
      · refine lv_iconst (v := 0) hx hb d_Reader_isWhite_22 (by decide) ?_
        exact ret 0 () (Nat.le_of_ble_eq_true rfl) (Nat.le_of_ble_eq_true rfl) d_Reader_isWhite_23 rfl (by first | assumption | decide) (hP.sub [] rfl) (hD.sub [] (by decide) rfl) hS
      · exact J_18 _ _ (hP.sub [] rfl) (hD.sub [] (by decide) rfl) hS _ (lv_sub hl [0] rfl)
def rm_Reader_afterWhite : Room := { frames := 1, cells := 0, slots := 0, locals := 21 }
set_option maxHeartbeats 4000000 in
set_option maxRecDepth 100000 in
theorem c_Reader_afterWhite (l : Launch) (G : GG) (rd : Nat) (t : Nat) (at0 : Int32) (tr : Nat) (ta : Nat) (tsz : Int32) (tf : Nat → Int32) (i : Int32) (htp : RowOk 1000 tsz) : MI l y_Reader_afterWhite b_Reader_afterWhite 3 .int rm_Reader_afterWhite G [.ref rd, .int i] [(rd, .inr (3, [.ref tr, .ref t, .int at0])), (tr, .inr (1, [.ref ta, .int tsz])), (ta, .inl (G.2.1 0, 1000, .inl tf))] (fun (v : Int32) (u : Unit) => True) (fun (u : Unit) => [(rd, .inr (3, [.ref tr, .ref t, .int at0])), (tr, .inr (1, [.ref ta, .int tsz])), (ta, .inl (G.2.1 0, 1000, .inl tf))]) 0 0 := by
  refine MI.of (cc := b_Reader_afterWhite) (maxL := 3) (ty := .int) (C := R_Reader) (by decide +kernel) rfl (Nat.le_of_ble_eq_true rfl) ?_
  intro p e s m args below meth c A Q H ls hx hb hml hown hw hE hA hP hD hS ret hl
  have hl : lv_has ls 3 [(0, .ref rd), (1, .int i)] := hl
  have J_2 : ∀ (fu : Nat) (x2_2 : Int32), (tsz.toInt - x2_2.toInt).toNat < fu → ∀ (H : Heap) (locs : List Loc), va_P G.1 vwCl [(rd, .inr (3, [.ref tr, .ref t, .int at0])), (tr, .inr (1, [.ref ta, .int tsz])), (ta, .inl (G.2.1 0, 1000, .inl tf))] H → va_D A [(rd, .inr (3, [.ref tr, .ref t, .int at0])), (tr, .inr (1, [.ref ta, .int tsz])), (ta, .inl (G.2.1 0, 1000, .inl tf))] → va_S A s.heap H locs → ∀ ls : Array Slot, lv_has ls 3 [(2, .int x2_2), (0, .ref rd), (1, .int i)] → W p l e rm_Reader_afterWhite s m args below meth c H locs 0 0 Q (F0 m 2 ls []) := by
    intro fu
    induction fu with
    | zero =>
      intro x2_2 hm
      exact absurd hm (Nat.not_lt_zero _)
    | succ fu ih_2 =>
      intro x2_2 hm_2 H locs hP hD hS ls hl
      refine lv_iload_n hx hb d_Reader_afterWhite_2 rfl (lv_at hl 0 rfl) ?_
      refine lv_aload_n hx hb d_Reader_afterWhite_3 rfl (lv_at hl 1 rfl) ?_
      refine va_get (D := G.1) (ci := 3) (v := .ref tr) (C := R_Reader) (T := F_Reader) (N := 3) hx hb hw i_Reader hown hE.1 hP 0 rfl rfl 0 (by decide) (hw _ m_115) (fun _ h9 => h9) rfl d_Reader_afterWhite_4 ?_
      refine gc_i (wr := [(rd, .inr (3, [.ref tr, .ref t, .int at0]))]) (gc_V (wc := [(tr, .inr (1, [.ref ta, .int tsz])), (ta, .inl (G.2.1 0, 1000, .inl tf))]) (As := []) (rest := [.int x2_2]) ⟨hx, hb, hml, hown, hw⟩ (c_Row_size l G tr ta 1000 tsz tf (by decide) htp H.size) (cwV 0 hw (good_V m_142 m_86 m_87 m_2 m_88) rfl rfl rfl hy_Row_size ⟨Nat.le_of_ble_eq_true rfl, Nat.le_of_ble_eq_true rfl⟩) hE hP hD hS hA (va_recv hE.1 hP (ci := 1) (q0 := 1) rfl rfl) [1, 2] rfl (by decide) rfl hl rfl (Nat.le_of_ble_eq_true rfl) d_Reader_afterWhite_7 ⟨Nat.le_of_ble_eq_true rfl, Nat.le_of_ble_eq_true rfl⟩) hP hD hS hA [1, 2] [0] rfl rfl (by decide) (by decide) (fun r_1 u_2 H locs hw_3 hP hD hS => ?_)
      try dsimp only at hw_3
      have h_4 := hw_3
      subst h_4
      have hP : va_P G.1 vwCl [(rd, .inr (3, [.ref tr, .ref t, .int at0])), (tr, .inr (1, [.ref ta, .int tsz])), (ta, .inl (G.2.1 0, 1000, .inl tf))] H := hP
      have hD : va_D A [(rd, .inr (3, [.ref tr, .ref t, .int at0])), (tr, .inr (1, [.ref ta, .int tsz])), (ta, .inl (G.2.1 0, 1000, .inl tf))] := hD
      refine lv_icmp_ge (tgt := 33) hx hb d_Reader_afterWhite_10 (by decide) (fun c_5 => ?_) (fun c_5 => ?_)
      · refine lv_iload_n hx hb d_Reader_afterWhite_33 rfl (lv_at hl 0 rfl) ?_
        exact ret x2_2 () (Nat.le_of_ble_eq_true rfl) (Nat.le_of_ble_eq_true rfl) d_Reader_afterWhite_34 rfl trivial (hP.sub [0, 1, 2] rfl) (hD.sub [0, 1, 2] (by decide) rfl) hS
      · refine lv_aload_n hx hb d_Reader_afterWhite_13 rfl (lv_at hl 1 rfl) ?_
        refine va_get (D := G.1) (ci := 3) (v := .ref tr) (C := R_Reader) (T := F_Reader) (N := 3) hx hb hw i_Reader hown hE.1 hP 0 rfl rfl 0 (by decide) (hw _ m_115) (fun _ h9 => h9) rfl d_Reader_afterWhite_14 ?_
        refine lv_iload_n hx hb d_Reader_afterWhite_17 rfl (lv_at hl 0 rfl) ?_
        refine gc_i (wr := [(rd, .inr (3, [.ref tr, .ref t, .int at0]))]) (gc_V (wc := [(tr, .inr (1, [.ref ta, .int tsz])), (ta, .inl (G.2.1 0, 1000, .inl tf))]) (As := [.int x2_2]) (rest := []) ⟨hx, hb, hml, hown, hw⟩ (c_Row_get l G tr ta 1000 tsz tf x2_2 (by decide) htp H.size) (cwV 1 hw (good_V m_143 m_144 m_145 m_2 m_146) rfl rfl rfl hy_Row_get ⟨Nat.le_of_ble_eq_true rfl, Nat.le_of_ble_eq_true rfl⟩) hE hP hD hS hA (va_recv hE.1 hP (ci := 1) (q0 := 1) rfl rfl) [1, 2] rfl (by decide) rfl hl rfl (Nat.le_of_ble_eq_true rfl) d_Reader_afterWhite_18 ⟨Nat.le_of_ble_eq_true rfl, Nat.le_of_ble_eq_true rfl⟩) hP hD hS hA [1, 2] [0] rfl rfl (by decide) (by decide) (fun r_6 u_7 H locs hw_8 hP hD hS => ?_)
        have hP : va_P G.1 vwCl [(rd, .inr (3, [.ref tr, .ref t, .int at0])), (tr, .inr (1, [.ref ta, .int tsz])), (ta, .inl (G.2.1 0, 1000, .inl tf))] H := hP
        have hD : va_D A [(rd, .inr (3, [.ref tr, .ref t, .int at0])), (tr, .inr (1, [.ref ta, .int tsz])), (ta, .inl (G.2.1 0, 1000, .inl tf))] := hD
        refine gc_i (wr := [(rd, .inr (3, [.ref tr, .ref t, .int at0])), (tr, .inr (1, [.ref ta, .int tsz])), (ta, .inl (G.2.1 0, 1000, .inl tf))]) (gc_S (wc := []) (As := [.int r_6]) (rest := []) ⟨hx, hb, hml, hown, hw⟩ (c_Reader_isWhite l G r_6 H.size) (va_cwS 1 hw (good_S m_147 m_148 m_5 m_149) rfl rfl rfl hy_Reader_isWhite.2 ⟨Nat.le_of_ble_eq_true rfl, Nat.le_of_ble_eq_true rfl⟩) hE hP hD hS hA [] rfl (by decide) rfl hl rfl (Nat.le_of_ble_eq_true rfl) d_Reader_afterWhite_21 ⟨Nat.le_of_ble_eq_true rfl, Nat.le_of_ble_eq_true rfl⟩) hP hD hS hA [] [0, 1, 2] rfl rfl (by decide) (by decide) (fun r_9 u_10 H locs hw_11 hP hD hS => ?_)
        try dsimp only at hw_11
        have h_12 := hw_11
        have hP : va_P G.1 vwCl [(rd, .inr (3, [.ref tr, .ref t, .int at0])), (tr, .inr (1, [.ref ta, .int tsz])), (ta, .inl (G.2.1 0, 1000, .inl tf))] H := hP
        have hD : va_D A [(rd, .inr (3, [.ref tr, .ref t, .int at0])), (tr, .inr (1, [.ref ta, .int tsz])), (ta, .inl (G.2.1 0, 1000, .inl tf))] := hD
        refine lv_if_eq (tgt := 33) hx hb d_Reader_afterWhite_24 (by decide) (fun c_13 => ?_) (fun c_13 => ?_)
        · refine lv_iload_n hx hb d_Reader_afterWhite_33 rfl (lv_at hl 0 rfl) ?_
          exact ret x2_2 () (Nat.le_of_ble_eq_true rfl) (Nat.le_of_ble_eq_true rfl) d_Reader_afterWhite_34 rfl trivial (hP.sub [0, 1, 2] rfl) (hD.sub [0, 1, 2] (by decide) rfl) hS
        · obtain ⟨y_14, ey_14⟩ : ∃ y : Int32, y = x2_2 + 1 := ⟨_, rfl⟩
          refine lv_iinc (v := y_14) (lv' := [(2, .int y_14), (0, .ref rd), (1, .int i)]) hx hb d_Reader_afterWhite_27 hl (k := 0) rfl (by rw [ey_14]; rfl) (by decide) rfl (fun ls hl => ?_)
          refine lv_goto (tgt := 2) hx hb d_Reader_afterWhite_30 (by decide) ?_
          exact ih_2 y_14 (ms_up (by assumption) (by assumption) hm_2) _ _ (hP.sub [0, 1, 2] rfl) (hD.sub [0, 1, 2] (by decide) rfl) hS _ (lv_sub hl [0, 1, 2] rfl)
  refine lv_iload_n hx hb d_Reader_afterWhite_0 rfl (lv_at hl 1 rfl) ?_
  refine lv_istore_n (lv' := [(2, .int i), (0, .ref rd), (1, .int i)]) hx hb d_Reader_afterWhite_1 rfl hl (by decide) rfl (fun ls hl => ?_)
  exact J_2 _ i (Nat.lt_succ_self _) _ _ (hP.sub [0, 1, 2] rfl) (hD.sub [0, 1, 2] (by decide) rfl) hS _ (lv_sub hl [0, 1, 2] rfl)
def rm_Reader_wordLength : Room := { frames := 1, cells := 0, slots := 0, locals := 21 }
set_option maxHeartbeats 4000000 in
set_option maxRecDepth 100000 in
theorem c_Reader_wordLength (l : Launch) (G : GG) (rd : Nat) (t : Nat) (at0 : Int32) (tr : Nat) (ta : Nat) (tsz : Int32) (tf : Nat → Int32) (i : Int32) (htp : RowOk 1000 tsz) : MI l y_Reader_wordLength b_Reader_wordLength 3 .int rm_Reader_wordLength G [.ref rd, .int i] [(rd, .inr (3, [.ref tr, .ref t, .int at0])), (tr, .inr (1, [.ref ta, .int tsz])), (ta, .inl (G.2.1 0, 1000, .inl tf))] (fun (v : Int32) (u : Unit) => True) (fun (u : Unit) => [(rd, .inr (3, [.ref tr, .ref t, .int at0])), (tr, .inr (1, [.ref ta, .int tsz])), (ta, .inl (G.2.1 0, 1000, .inl tf))]) 0 0 := by
  refine MI.of (cc := b_Reader_wordLength) (maxL := 3) (ty := .int) (C := R_Reader) (by decide +kernel) rfl (Nat.le_of_ble_eq_true rfl) ?_
  intro p e s m args below meth c A Q H ls hx hb hml hown hw hE hA hP hD hS ret hl
  have hl : lv_has ls 3 [(0, .ref rd), (1, .int i)] := hl
  have J_2 : ∀ (fu : Nat) (x2_2 : Int32), (tsz.toInt - x2_2.toInt).toNat < fu → ∀ (H : Heap) (locs : List Loc), va_P G.1 vwCl [(rd, .inr (3, [.ref tr, .ref t, .int at0])), (tr, .inr (1, [.ref ta, .int tsz])), (ta, .inl (G.2.1 0, 1000, .inl tf))] H → va_D A [(rd, .inr (3, [.ref tr, .ref t, .int at0])), (tr, .inr (1, [.ref ta, .int tsz])), (ta, .inl (G.2.1 0, 1000, .inl tf))] → va_S A s.heap H locs → ∀ ls : Array Slot, lv_has ls 3 [(2, .int x2_2), (0, .ref rd), (1, .int i)] → W p l e rm_Reader_wordLength s m args below meth c H locs 0 0 Q (F0 m 2 ls []) := by
    intro fu
    induction fu with
    | zero =>
      intro x2_2 hm
      exact absurd hm (Nat.not_lt_zero _)
    | succ fu ih_2 =>
      intro x2_2 hm_2 H locs hP hD hS ls hl
      refine lv_iload_n hx hb d_Reader_wordLength_2 rfl (lv_at hl 0 rfl) ?_
      refine lv_aload_n hx hb d_Reader_wordLength_3 rfl (lv_at hl 1 rfl) ?_
      refine va_get (D := G.1) (ci := 3) (v := .ref tr) (C := R_Reader) (T := F_Reader) (N := 3) hx hb hw i_Reader hown hE.1 hP 0 rfl rfl 0 (by decide) (hw _ m_115) (fun _ h9 => h9) rfl d_Reader_wordLength_4 ?_
      refine gc_i (wr := [(rd, .inr (3, [.ref tr, .ref t, .int at0]))]) (gc_V (wc := [(tr, .inr (1, [.ref ta, .int tsz])), (ta, .inl (G.2.1 0, 1000, .inl tf))]) (As := []) (rest := [.int x2_2]) ⟨hx, hb, hml, hown, hw⟩ (c_Row_size l G tr ta 1000 tsz tf (by decide) htp H.size) (cwV 0 hw (good_V m_142 m_86 m_87 m_2 m_88) rfl rfl rfl hy_Row_size ⟨Nat.le_of_ble_eq_true rfl, Nat.le_of_ble_eq_true rfl⟩) hE hP hD hS hA (va_recv hE.1 hP (ci := 1) (q0 := 1) rfl rfl) [1, 2] rfl (by decide) rfl hl rfl (Nat.le_of_ble_eq_true rfl) d_Reader_wordLength_7 ⟨Nat.le_of_ble_eq_true rfl, Nat.le_of_ble_eq_true rfl⟩) hP hD hS hA [1, 2] [0] rfl rfl (by decide) (by decide) (fun r_1 u_2 H locs hw_3 hP hD hS => ?_)
      try dsimp only at hw_3
      have h_4 := hw_3
      subst h_4
      have hP : va_P G.1 vwCl [(rd, .inr (3, [.ref tr, .ref t, .int at0])), (tr, .inr (1, [.ref ta, .int tsz])), (ta, .inl (G.2.1 0, 1000, .inl tf))] H := hP
      have hD : va_D A [(rd, .inr (3, [.ref tr, .ref t, .int at0])), (tr, .inr (1, [.ref ta, .int tsz])), (ta, .inl (G.2.1 0, 1000, .inl tf))] := hD
      refine lv_icmp_ge (tgt := 33) hx hb d_Reader_wordLength_10 (by decide) (fun c_5 => ?_) (fun c_5 => ?_)
      · refine lv_iload_n hx hb d_Reader_wordLength_33 rfl (lv_at hl 0 rfl) ?_
        refine lv_iload_n hx hb d_Reader_wordLength_34 rfl (lv_at hl 2 rfl) ?_
        refine lv_isub hx hb d_Reader_wordLength_35 ?_
        refine lv_topi (fun y_6 ey_6 => ?_)
        exact ret y_6 () (Nat.le_of_ble_eq_true rfl) (Nat.le_of_ble_eq_true rfl) d_Reader_wordLength_36 rfl trivial (hP.sub [0, 1, 2] rfl) (hD.sub [0, 1, 2] (by decide) rfl) hS
      · refine lv_aload_n hx hb d_Reader_wordLength_13 rfl (lv_at hl 1 rfl) ?_
        refine va_get (D := G.1) (ci := 3) (v := .ref tr) (C := R_Reader) (T := F_Reader) (N := 3) hx hb hw i_Reader hown hE.1 hP 0 rfl rfl 0 (by decide) (hw _ m_115) (fun _ h9 => h9) rfl d_Reader_wordLength_14 ?_
        refine lv_iload_n hx hb d_Reader_wordLength_17 rfl (lv_at hl 0 rfl) ?_
        refine gc_i (wr := [(rd, .inr (3, [.ref tr, .ref t, .int at0]))]) (gc_V (wc := [(tr, .inr (1, [.ref ta, .int tsz])), (ta, .inl (G.2.1 0, 1000, .inl tf))]) (As := [.int x2_2]) (rest := []) ⟨hx, hb, hml, hown, hw⟩ (c_Row_get l G tr ta 1000 tsz tf x2_2 (by decide) htp H.size) (cwV 1 hw (good_V m_143 m_144 m_145 m_2 m_146) rfl rfl rfl hy_Row_get ⟨Nat.le_of_ble_eq_true rfl, Nat.le_of_ble_eq_true rfl⟩) hE hP hD hS hA (va_recv hE.1 hP (ci := 1) (q0 := 1) rfl rfl) [1, 2] rfl (by decide) rfl hl rfl (Nat.le_of_ble_eq_true rfl) d_Reader_wordLength_18 ⟨Nat.le_of_ble_eq_true rfl, Nat.le_of_ble_eq_true rfl⟩) hP hD hS hA [1, 2] [0] rfl rfl (by decide) (by decide) (fun r_7 u_8 H locs hw_9 hP hD hS => ?_)
        have hP : va_P G.1 vwCl [(rd, .inr (3, [.ref tr, .ref t, .int at0])), (tr, .inr (1, [.ref ta, .int tsz])), (ta, .inl (G.2.1 0, 1000, .inl tf))] H := hP
        have hD : va_D A [(rd, .inr (3, [.ref tr, .ref t, .int at0])), (tr, .inr (1, [.ref ta, .int tsz])), (ta, .inl (G.2.1 0, 1000, .inl tf))] := hD
        refine gc_i (wr := [(rd, .inr (3, [.ref tr, .ref t, .int at0])), (tr, .inr (1, [.ref ta, .int tsz])), (ta, .inl (G.2.1 0, 1000, .inl tf))]) (gc_S (wc := []) (As := [.int r_7]) (rest := []) ⟨hx, hb, hml, hown, hw⟩ (c_Reader_isRegular l G r_7 H.size) (va_cwS 1 hw (good_S m_158 m_159 m_5 m_160) rfl rfl rfl hy_Reader_isRegular.2 ⟨Nat.le_of_ble_eq_true rfl, Nat.le_of_ble_eq_true rfl⟩) hE hP hD hS hA [] rfl (by decide) rfl hl rfl (Nat.le_of_ble_eq_true rfl) d_Reader_wordLength_21 ⟨Nat.le_of_ble_eq_true rfl, Nat.le_of_ble_eq_true rfl⟩) hP hD hS hA [] [0, 1, 2] rfl rfl (by decide) (by decide) (fun r_10 u_11 H locs hw_12 hP hD hS => ?_)
        try dsimp only at hw_12
        have h_13 := hw_12
        have hP : va_P G.1 vwCl [(rd, .inr (3, [.ref tr, .ref t, .int at0])), (tr, .inr (1, [.ref ta, .int tsz])), (ta, .inl (G.2.1 0, 1000, .inl tf))] H := hP
        have hD : va_D A [(rd, .inr (3, [.ref tr, .ref t, .int at0])), (tr, .inr (1, [.ref ta, .int tsz])), (ta, .inl (G.2.1 0, 1000, .inl tf))] := hD
        refine lv_if_eq (tgt := 33) hx hb d_Reader_wordLength_24 (by decide) (fun c_14 => ?_) (fun c_14 => ?_)
        · refine lv_iload_n hx hb d_Reader_wordLength_33 rfl (lv_at hl 0 rfl) ?_
          refine lv_iload_n hx hb d_Reader_wordLength_34 rfl (lv_at hl 2 rfl) ?_
          refine lv_isub hx hb d_Reader_wordLength_35 ?_
          refine lv_topi (fun y_15 ey_15 => ?_)
          exact ret y_15 () (Nat.le_of_ble_eq_true rfl) (Nat.le_of_ble_eq_true rfl) d_Reader_wordLength_36 rfl trivial (hP.sub [0, 1, 2] rfl) (hD.sub [0, 1, 2] (by decide) rfl) hS
        · obtain ⟨y_16, ey_16⟩ : ∃ y : Int32, y = x2_2 + 1 := ⟨_, rfl⟩
          refine lv_iinc (v := y_16) (lv' := [(2, .int y_16), (0, .ref rd), (1, .int i)]) hx hb d_Reader_wordLength_27 hl (k := 0) rfl (by rw [ey_16]; rfl) (by decide) rfl (fun ls hl => ?_)
          refine lv_goto (tgt := 2) hx hb d_Reader_wordLength_30 (by decide) ?_
          exact ih_2 y_16 (ms_up (by assumption) (by assumption) hm_2) _ _ (hP.sub [0, 1, 2] rfl) (hD.sub [0, 1, 2] (by decide) rfl) hS _ (lv_sub hl [0, 1, 2] rfl)
  refine lv_iload_n hx hb d_Reader_wordLength_0 rfl (lv_at hl 1 rfl) ?_
  refine lv_istore_n (lv' := [(2, .int i), (0, .ref rd), (1, .int i)]) hx hb d_Reader_wordLength_1 rfl hl (by decide) rfl (fun ls hl => ?_)
  exact J_2 _ i (Nat.lt_succ_self _) _ _ (hP.sub [0, 1, 2] rfl) (hD.sub [0, 1, 2] (by decide) rfl) hS _ (lv_sub hl [0, 1, 2] rfl)
def rm_Reader_octalDigit : Room := { frames := 1, cells := 0, slots := 0, locals := 21 }
set_option maxHeartbeats 4000000 in
set_option maxRecDepth 100000 in
theorem c_Reader_octalDigit (l : Launch) (G : GG) (rd : Nat) (t : Nat) (at0 : Int32) (tr : Nat) (ta : Nat) (tsz : Int32) (tf : Nat → Int32) (i : Int32) (htp : RowOk 1000 tsz) : MI l y_Reader_octalDigit b_Reader_octalDigit 3 .int rm_Reader_octalDigit G [.ref rd, .int i] [(rd, .inr (3, [.ref tr, .ref t, .int at0])), (tr, .inr (1, [.ref ta, .int tsz])), (ta, .inl (G.2.1 0, 1000, .inl tf))] (fun (v : Int32) (u : Unit) => True) (fun (u : Unit) => [(rd, .inr (3, [.ref tr, .ref t, .int at0])), (tr, .inr (1, [.ref ta, .int tsz])), (ta, .inl (G.2.1 0, 1000, .inl tf))]) 0 0 := by
  refine MI.of (cc := b_Reader_octalDigit) (maxL := 3) (ty := .int) (C := R_Reader) (by decide +kernel) rfl (Nat.le_of_ble_eq_true rfl) ?_
  intro p e s m args below meth c A Q H ls hx hb hml hown hw hE hA hP hD hS ret hl
  have hl : lv_has ls 3 [(0, .ref rd), (1, .int i)] := hl
  refine lv_aload_n hx hb d_Reader_octalDigit_0 rfl (lv_at hl 0 rfl) ?_
  refine va_get (D := G.1) (ci := 3) (v := .ref tr) (C := R_Reader) (T := F_Reader) (N := 3) hx hb hw i_Reader hown hE.1 hP 0 rfl rfl 0 (by decide) (hw _ m_115) (fun _ h9 => h9) rfl d_Reader_octalDigit_1 ?_
  refine lv_iload_n hx hb d_Reader_octalDigit_4 rfl (lv_at hl 1 rfl) ?_
  refine gc_i (wr := [(rd, .inr (3, [.ref tr, .ref t, .int at0]))]) (gc_V (wc := [(tr, .inr (1, [.ref ta, .int tsz])), (ta, .inl (G.2.1 0, 1000, .inl tf))]) (As := [.int i]) (rest := []) ⟨hx, hb, hml, hown, hw⟩ (c_Row_get l G tr ta 1000 tsz tf i (by decide) htp H.size) (cwV 1 hw (good_V m_143 m_144 m_145 m_2 m_146) rfl rfl rfl hy_Row_get ⟨Nat.le_of_ble_eq_true rfl, Nat.le_of_ble_eq_true rfl⟩) hE hP hD hS hA (va_recv hE.1 hP (ci := 1) (q0 := 1) rfl rfl) [1, 2] rfl (by decide) rfl hl rfl (Nat.le_of_ble_eq_true rfl) d_Reader_octalDigit_5 ⟨Nat.le_of_ble_eq_true rfl, Nat.le_of_ble_eq_true rfl⟩) hP hD hS hA [1, 2] [0] rfl rfl (by decide) (by decide) (fun r_1 u_2 H locs hw_3 hP hD hS => ?_)
  have hP : va_P G.1 vwCl [(rd, .inr (3, [.ref tr, .ref t, .int at0])), (tr, .inr (1, [.ref ta, .int tsz])), (ta, .inl (G.2.1 0, 1000, .inl tf))] H := hP
  have hD : va_D A [(rd, .inr (3, [.ref tr, .ref t, .int at0])), (tr, .inr (1, [.ref ta, .int tsz])), (ta, .inl (G.2.1 0, 1000, .inl tf))] := hD
  refine lv_istore_n (lv' := [(2, .int r_1), (0, .ref rd), (1, .int i)]) hx hb d_Reader_octalDigit_8 rfl hl (by decide) rfl (fun ls hl => ?_)
  refine lv_iload_n hx hb d_Reader_octalDigit_9 rfl (lv_at hl 0 rfl) ?_
  refine lv_bipush (v := 48) hx hb d_Reader_octalDigit_10 (by decide) ?_
  refine lv_icmp_lt (tgt := 28) hx hb d_Reader_octalDigit_12 (by decide) (fun c_4 => ?_) (fun c_4 => ?_)
  · refine lv_iconst (v := (-1)) hx hb d_Reader_octalDigit_28 (by decide) ?_
    exact ret (-1) () (Nat.le_of_ble_eq_true rfl) (Nat.le_of_ble_eq_true rfl) d_Reader_octalDigit_29 rfl trivial (hP.sub [0, 1, 2] rfl) (hD.sub [0, 1, 2] (by decide) rfl) hS
  · refine lv_iload_n hx hb d_Reader_octalDigit_15 rfl (lv_at hl 0 rfl) ?_
    refine lv_bipush (v := 55) hx hb d_Reader_octalDigit_16 (by decide) ?_
    refine lv_icmp_gt (tgt := 28) hx hb d_Reader_octalDigit_18 (by decide) (fun c_5 => ?_) (fun c_5 => ?_)
    · refine lv_iconst (v := (-1)) hx hb d_Reader_octalDigit_28 (by decide) ?_
      exact ret (-1) () (Nat.le_of_ble_eq_true rfl) (Nat.le_of_ble_eq_true rfl) d_Reader_octalDigit_29 rfl trivial (hP.sub [0, 1, 2] rfl) (hD.sub [0, 1, 2] (by decide) rfl) hS
    · refine lv_iload_n hx hb d_Reader_octalDigit_21 rfl (lv_at hl 0 rfl) ?_
      refine lv_bipush (v := 48) hx hb d_Reader_octalDigit_22 (by decide) ?_
      refine lv_isub hx hb d_Reader_octalDigit_24 ?_
      refine lv_topi (fun y_6 ey_6 => ?_)
      refine lv_goto (tgt := 29) hx hb d_Reader_octalDigit_25 (by decide) ?_
      exact ret y_6 () (Nat.le_of_ble_eq_true rfl) (Nat.le_of_ble_eq_true rfl) d_Reader_octalDigit_29 rfl trivial (hP.sub [0, 1, 2] rfl) (hD.sub [0, 1, 2] (by decide) rfl) hS
def rm_Reader_hexDigit : Room := { frames := 1, cells := 0, slots := 0, locals := 21 }
set_option maxHeartbeats 4000000 in
set_option maxRecDepth 100000 in
theorem c_Reader_hexDigit (l : Launch) (G : GG) (rd : Nat) (t : Nat) (at0 : Int32) (tr : Nat) (ta : Nat) (tsz : Int32) (tf : Nat → Int32) (i : Int32) (htp : RowOk 1000 tsz) : MI l y_Reader_hexDigit b_Reader_hexDigit 3 .int rm_Reader_hexDigit G [.ref rd, .int i] [(rd, .inr (3, [.ref tr, .ref t, .int at0])), (tr, .inr (1, [.ref ta, .int tsz])), (ta, .inl (G.2.1 0, 1000, .inl tf))] (fun (v : Int32) (u : Unit) => True) (fun (u : Unit) => [(rd, .inr (3, [.ref tr, .ref t, .int at0])), (tr, .inr (1, [.ref ta, .int tsz])), (ta, .inl (G.2.1 0, 1000, .inl tf))]) 0 0 := by
  refine MI.of (cc := b_Reader_hexDigit) (maxL := 3) (ty := .int) (C := R_Reader) (by decide +kernel) rfl (Nat.le_of_ble_eq_true rfl) ?_
  intro p e s m args below meth c A Q H ls hx hb hml hown hw hE hA hP hD hS ret hl
  have hl : lv_has ls 3 [(0, .ref rd), (1, .int i)] := hl
  have J_46 : ∀ (x2_46 : Int32) (H : Heap) (locs : List Loc), va_P G.1 vwCl [(rd, .inr (3, [.ref tr, .ref t, .int at0])), (tr, .inr (1, [.ref ta, .int tsz])), (ta, .inl (G.2.1 0, 1000, .inl tf))] H → va_D A [(rd, .inr (3, [.ref tr, .ref t, .int at0])), (tr, .inr (1, [.ref ta, .int tsz])), (ta, .inl (G.2.1 0, 1000, .inl tf))] → va_S A s.heap H locs → ∀ ls : Array Slot, lv_has ls 3 [(2, .int x2_46), (0, .ref rd), (1, .int i)] → W p l e rm_Reader_hexDigit s m args below meth c H locs 0 0 Q (F0 m 46 ls []) := by
    intro x2_46 H locs hP hD hS ls hl
    refine lv_iload_n hx hb d_Reader_hexDigit_46 rfl (lv_at hl 0 rfl) ?_
    refine lv_bipush (v := 65) hx hb d_Reader_hexDigit_47 (by decide) ?_
    refine lv_icmp_lt (tgt := 68) hx hb d_Reader_hexDigit_49 (by decide) (fun c_1 => ?_) (fun c_1 => ?_)
    · refine lv_iconst (v := (-1)) hx hb d_Reader_hexDigit_68 (by decide) ?_
      exact ret (-1) () (Nat.le_of_ble_eq_true rfl) (Nat.le_of_ble_eq_true rfl) d_Reader_hexDigit_69 rfl trivial (hP.sub [0, 1, 2] rfl) (hD.sub [0, 1, 2] (by decide) rfl) hS
    · refine lv_iload_n hx hb d_Reader_hexDigit_52 rfl (lv_at hl 0 rfl) ?_
      refine lv_bipush (v := 70) hx hb d_Reader_hexDigit_53 (by decide) ?_
      refine lv_icmp_gt (tgt := 68) hx hb d_Reader_hexDigit_55 (by decide) (fun c_2 => ?_) (fun c_2 => ?_)
      · refine lv_iconst (v := (-1)) hx hb d_Reader_hexDigit_68 (by decide) ?_
        exact ret (-1) () (Nat.le_of_ble_eq_true rfl) (Nat.le_of_ble_eq_true rfl) d_Reader_hexDigit_69 rfl trivial (hP.sub [0, 1, 2] rfl) (hD.sub [0, 1, 2] (by decide) rfl) hS
      · refine lv_iload_n hx hb d_Reader_hexDigit_58 rfl (lv_at hl 0 rfl) ?_
        refine lv_bipush (v := 65) hx hb d_Reader_hexDigit_59 (by decide) ?_
        refine lv_isub hx hb d_Reader_hexDigit_61 ?_
        refine lv_topi (fun y_3 ey_3 => ?_)
        refine lv_bipush (v := 10) hx hb d_Reader_hexDigit_62 (by decide) ?_
        refine lv_iadd hx hb d_Reader_hexDigit_64 ?_
        refine lv_topi (fun y_4 ey_4 => ?_)
        refine lv_goto (tgt := 69) hx hb d_Reader_hexDigit_65 (by decide) ?_
        exact ret y_4 () (Nat.le_of_ble_eq_true rfl) (Nat.le_of_ble_eq_true rfl) d_Reader_hexDigit_69 rfl trivial (hP.sub [0, 1, 2] rfl) (hD.sub [0, 1, 2] (by decide) rfl) hS
  have J_26 : ∀ (x2_26 : Int32) (H : Heap) (locs : List Loc), va_P G.1 vwCl [(rd, .inr (3, [.ref tr, .ref t, .int at0])), (tr, .inr (1, [.ref ta, .int tsz])), (ta, .inl (G.2.1 0, 1000, .inl tf))] H → va_D A [(rd, .inr (3, [.ref tr, .ref t, .int at0])), (tr, .inr (1, [.ref ta, .int tsz])), (ta, .inl (G.2.1 0, 1000, .inl tf))] → va_S A s.heap H locs → ∀ ls : Array Slot, lv_has ls 3 [(2, .int x2_26), (0, .ref rd), (1, .int i)] → W p l e rm_Reader_hexDigit s m args below meth c H locs 0 0 Q (F0 m 26 ls []) := by
    intro x2_26 H locs hP hD hS ls hl
    refine lv_iload_n hx hb d_Reader_hexDigit_26 rfl (lv_at hl 0 rfl) ?_
    refine lv_bipush (v := 97) hx hb d_Reader_hexDigit_27 (by decide) ?_
    refine lv_icmp_lt (tgt := 46) hx hb d_Reader_hexDigit_29 (by decide) (fun c_5 => ?_) (fun c_5 => ?_)
    · exact J_46 x2_26 _ _ (hP.sub [0, 1, 2] rfl) (hD.sub [0, 1, 2] (by decide) rfl) hS _ (lv_sub hl [0, 1, 2] rfl)
    · refine lv_iload_n hx hb d_Reader_hexDigit_32 rfl (lv_at hl 0 rfl) ?_
      refine lv_bipush (v := 102) hx hb d_Reader_hexDigit_33 (by decide) ?_
      refine lv_icmp_gt (tgt := 46) hx hb d_Reader_hexDigit_35 (by decide) (fun c_6 => ?_) (fun c_6 => ?_)
      · exact J_46 x2_26 _ _ (hP.sub [0, 1, 2] rfl) (hD.sub [0, 1, 2] (by decide) rfl) hS _ (lv_sub hl [0, 1, 2] rfl)
      · refine lv_iload_n hx hb d_Reader_hexDigit_38 rfl (lv_at hl 0 rfl) ?_
        refine lv_bipush (v := 97) hx hb d_Reader_hexDigit_39 (by decide) ?_
        refine lv_isub hx hb d_Reader_hexDigit_41 ?_
        refine lv_topi (fun y_7 ey_7 => ?_)
        refine lv_bipush (v := 10) hx hb d_Reader_hexDigit_42 (by decide) ?_
        refine lv_iadd hx hb d_Reader_hexDigit_44 ?_
        refine lv_topi (fun y_8 ey_8 => ?_)
        exact ret y_8 () (Nat.le_of_ble_eq_true rfl) (Nat.le_of_ble_eq_true rfl) d_Reader_hexDigit_45 rfl trivial (hP.sub [0, 1, 2] rfl) (hD.sub [0, 1, 2] (by decide) rfl) hS
  refine lv_aload_n hx hb d_Reader_hexDigit_0 rfl (lv_at hl 0 rfl) ?_
  refine va_get (D := G.1) (ci := 3) (v := .ref tr) (C := R_Reader) (T := F_Reader) (N := 3) hx hb hw i_Reader hown hE.1 hP 0 rfl rfl 0 (by decide) (hw _ m_115) (fun _ h9 => h9) rfl d_Reader_hexDigit_1 ?_
  refine lv_iload_n hx hb d_Reader_hexDigit_4 rfl (lv_at hl 1 rfl) ?_
  refine gc_i (wr := [(rd, .inr (3, [.ref tr, .ref t, .int at0]))]) (gc_V (wc := [(tr, .inr (1, [.ref ta, .int tsz])), (ta, .inl (G.2.1 0, 1000, .inl tf))]) (As := [.int i]) (rest := []) ⟨hx, hb, hml, hown, hw⟩ (c_Row_get l G tr ta 1000 tsz tf i (by decide) htp H.size) (cwV 1 hw (good_V m_143 m_144 m_145 m_2 m_146) rfl rfl rfl hy_Row_get ⟨Nat.le_of_ble_eq_true rfl, Nat.le_of_ble_eq_true rfl⟩) hE hP hD hS hA (va_recv hE.1 hP (ci := 1) (q0 := 1) rfl rfl) [1, 2] rfl (by decide) rfl hl rfl (Nat.le_of_ble_eq_true rfl) d_Reader_hexDigit_5 ⟨Nat.le_of_ble_eq_true rfl, Nat.le_of_ble_eq_true rfl⟩) hP hD hS hA [1, 2] [0] rfl rfl (by decide) (by decide) (fun r_9 u_10 H locs hw_11 hP hD hS => ?_)
  have hP : va_P G.1 vwCl [(rd, .inr (3, [.ref tr, .ref t, .int at0])), (tr, .inr (1, [.ref ta, .int tsz])), (ta, .inl (G.2.1 0, 1000, .inl tf))] H := hP
  have hD : va_D A [(rd, .inr (3, [.ref tr, .ref t, .int at0])), (tr, .inr (1, [.ref ta, .int tsz])), (ta, .inl (G.2.1 0, 1000, .inl tf))] := hD
  refine lv_istore_n (lv' := [(2, .int r_9), (0, .ref rd), (1, .int i)]) hx hb d_Reader_hexDigit_8 rfl hl (by decide) rfl (fun ls hl => ?_)
  refine lv_iload_n hx hb d_Reader_hexDigit_9 rfl (lv_at hl 0 rfl) ?_
  refine lv_bipush (v := 48) hx hb d_Reader_hexDigit_10 (by decide) ?_
  refine lv_icmp_lt (tgt := 26) hx hb d_Reader_hexDigit_12 (by decide) (fun c_12 => ?_) (fun c_12 => ?_)
  · exact J_26 r_9 _ _ (hP.sub [0, 1, 2] rfl) (hD.sub [0, 1, 2] (by decide) rfl) hS _ (lv_sub hl [0, 1, 2] rfl)
  · refine lv_iload_n hx hb d_Reader_hexDigit_15 rfl (lv_at hl 0 rfl) ?_
    refine lv_bipush (v := 57) hx hb d_Reader_hexDigit_16 (by decide) ?_
    refine lv_icmp_gt (tgt := 26) hx hb d_Reader_hexDigit_18 (by decide) (fun c_13 => ?_) (fun c_13 => ?_)
    · exact J_26 r_9 _ _ (hP.sub [0, 1, 2] rfl) (hD.sub [0, 1, 2] (by decide) rfl) hS _ (lv_sub hl [0, 1, 2] rfl)
    · refine lv_iload_n hx hb d_Reader_hexDigit_21 rfl (lv_at hl 0 rfl) ?_
      refine lv_bipush (v := 48) hx hb d_Reader_hexDigit_22 (by decide) ?_
      refine lv_isub hx hb d_Reader_hexDigit_24 ?_
      refine lv_topi (fun y_14 ey_14 => ?_)
      exact ret y_14 () (Nat.le_of_ble_eq_true rfl) (Nat.le_of_ble_eq_true rfl) d_Reader_hexDigit_25 rfl trivial (hP.sub [0, 1, 2] rfl) (hD.sub [0, 1, 2] (by decide) rfl) hS
def rm_Reader_isWord : Room := { frames := 4, cells := 0, slots := 0, locals := 85 }
set_option maxHeartbeats 4000000 in
set_option maxRecDepth 100000 in
theorem c_Reader_isWord (l : Launch) (G : GG) (rd : Nat) (t : Nat) (at0 : Int32) (tr : Nat) (ta : Nat) (tsz : Int32) (tf : Nat → Int32) (k : Nat) (n : Int32) (htp : RowOk 1000 tsz) (hk : k < nS) : MI l y_Reader_isWord b_Reader_isWord 4 .boolean rm_Reader_isWord G [.ref rd, .ref (G.2.2.1 k), .int n] [(rd, .inr (3, [.ref tr, .ref t, .int at0])), (tr, .inr (1, [.ref ta, .int tsz])), (ta, .inl (G.2.1 0, 1000, .inl tf))] (fun (v : Int32) (u : Unit) => (v = 0 ∨ v = 1)) (fun (u : Unit) => [(rd, .inr (3, [.ref tr, .ref t, .int at0])), (tr, .inr (1, [.ref ta, .int tsz])), (ta, .inl (G.2.1 0, 1000, .inl tf))]) 0 0 := by
  refine MI.of (cc := b_Reader_isWord) (maxL := 4) (ty := .boolean) (C := R_Reader) (by decide +kernel) rfl (Nat.le_of_ble_eq_true rfl) ?_
  intro p e s m args below meth c A Q H ls hx hb hml hown hw hE hA hP hD hS ret hl
  have hl : lv_has ls 4 [(0, .ref rd), (1, .ref (G.2.2.1 k)), (2, .int n)] := hl
  have J_12 : ∀ (fu : Nat) (x3_12 : Int32) (hk0_12 : 0 ≤ x3_12.toInt) (hk1_12 : n = nI (lenS.getD k 0)), (n.toInt - x3_12.toInt).toNat < fu → ∀ (H : Heap) (locs : List Loc), va_P G.1 vwCl [(rd, .inr (3, [.ref tr, .ref t, .int at0])), (tr, .inr (1, [.ref ta, .int tsz])), (ta, .inl (G.2.1 0, 1000, .inl tf))] H → va_D A [(rd, .inr (3, [.ref tr, .ref t, .int at0])), (tr, .inr (1, [.ref ta, .int tsz])), (ta, .inl (G.2.1 0, 1000, .inl tf))] → va_S A s.heap H locs → ∀ ls : Array Slot, lv_has ls 4 [(3, .int x3_12), (0, .ref rd), (1, .ref (G.2.2.1 k)), (2, .int n)] → W p l e rm_Reader_isWord s m args below meth c H locs 0 0 Q (F0 m 12 ls []) := by
    intro fu
    induction fu with
    | zero =>
      intro x3_12 hk0_12 hk1_12 hm
      exact absurd hm (Nat.not_lt_zero _)
    | succ fu ih_12 =>
      intro x3_12 hk0_12 hk1_12 hm_12 H locs hP hD hS ls hl
      refine lv_iload_n hx hb d_Reader_isWord_12 rfl (lv_at hl 0 rfl) ?_
      refine lv_iload_n hx hb d_Reader_isWord_13 rfl (lv_at hl 3 rfl) ?_
      refine lv_icmp_ge (tgt := 46) hx hb d_Reader_isWord_14 (by decide) (fun c_1 => ?_) (fun c_1 => ?_)
      · refine lv_iconst (v := 1) hx hb d_Reader_isWord_46 (by decide) ?_
        exact ret 1 () (Nat.le_of_ble_eq_true rfl) (Nat.le_of_ble_eq_true rfl) d_Reader_isWord_47 rfl (by first | assumption | decide) (hP.sub [0, 1, 2] rfl) (hD.sub [0, 1, 2] (by decide) rfl) hS
      · refine lv_aload_n hx hb d_Reader_isWord_17 rfl (lv_at hl 1 rfl) ?_
        refine va_get (D := G.1) (ci := 3) (v := .ref tr) (C := R_Reader) (T := F_Reader) (N := 3) hx hb hw i_Reader hown hE.1 hP 0 rfl rfl 0 (by decide) (hw _ m_115) (fun _ h9 => h9) rfl d_Reader_isWord_18 ?_
        refine lv_aload_n hx hb d_Reader_isWord_21 rfl (lv_at hl 1 rfl) ?_
        refine va_get (D := G.1) (ci := 3) (v := .int at0) (C := R_Reader) (T := F_Reader) (N := 3) hx hb hw i_Reader hown hE.1 hP 0 rfl rfl 2 (by decide) (hw _ m_117) (fun _ h9 => h9) rfl d_Reader_isWord_22 ?_
        refine lv_iload_n hx hb d_Reader_isWord_25 rfl (lv_at hl 0 rfl) ?_
        refine lv_iadd hx hb d_Reader_isWord_26 ?_
        refine lv_topi (fun y_2 ey_2 => ?_)
        refine gc_i (wr := [(rd, .inr (3, [.ref tr, .ref t, .int at0]))]) (gc_V (wc := [(tr, .inr (1, [.ref ta, .int tsz])), (ta, .inl (G.2.1 0, 1000, .inl tf))]) (As := [.int y_2]) (rest := []) ⟨hx, hb, hml, hown, hw⟩ (c_Row_get l G tr ta 1000 tsz tf y_2 (by decide) htp H.size) (cwV 1 hw (good_V m_143 m_144 m_145 m_2 m_146) rfl rfl rfl hy_Row_get ⟨Nat.le_of_ble_eq_true rfl, Nat.le_of_ble_eq_true rfl⟩) hE hP hD hS hA (va_recv hE.1 hP (ci := 1) (q0 := 1) rfl rfl) [1, 2] rfl (by decide) rfl hl rfl (Nat.le_of_ble_eq_true rfl) d_Reader_isWord_27 ⟨Nat.le_of_ble_eq_true rfl, Nat.le_of_ble_eq_true rfl⟩) hP hD hS hA [1, 2] [0] rfl rfl (by decide) (by decide) (fun r_3 u_4 H locs hw_5 hP hD hS => ?_)
        have hP : va_P G.1 vwCl [(rd, .inr (3, [.ref tr, .ref t, .int at0])), (tr, .inr (1, [.ref ta, .int tsz])), (ta, .inl (G.2.1 0, 1000, .inl tf))] H := hP
        have hD : va_D A [(rd, .inr (3, [.ref tr, .ref t, .int at0])), (tr, .inr (1, [.ref ta, .int tsz])), (ta, .inl (G.2.1 0, 1000, .inl tf))] := hD
        refine lv_aload_n hx hb d_Reader_isWord_30 rfl (lv_at hl 2 rfl) ?_
        refine lv_iload_n hx hb d_Reader_isWord_31 rfl (lv_at hl 0 rfl) ?_
        refine gc_i (wr := [(rd, .inr (3, [.ref tr, .ref t, .int at0])), (tr, .inr (1, [.ref ta, .int tsz])), (ta, .inl (G.2.1 0, 1000, .inl tf))]) (gc_V (wc := []) (As := [.int x3_12]) (rest := [.int r_3]) ⟨hx, hb, hml, hown, hw⟩ (c_Str_charAt l G k x3_12 hk (⟨hk0_12, by rw [← hk1_12]; exact z_nle (by assumption)⟩) H.size) (cwV 1 hw (good_V m_275 m_276 m_277 m_6 m_278) rfl rfl rfl hy_Str_charAt ⟨Nat.le_of_ble_eq_true rfl, Nat.le_of_ble_eq_true rfl⟩) hE hP hD hS hA (vk_recv (hE.2.1 k hk).1 (i := 0) (by decide) hS) [] rfl (by decide) rfl hl rfl (Nat.le_of_ble_eq_true rfl) d_Reader_isWord_32 ⟨Nat.le_of_ble_eq_true rfl, Nat.le_of_ble_eq_true rfl⟩) hP hD hS hA [] [0, 1, 2] rfl rfl (by decide) (by decide) (fun r_6 u_7 H locs hw_8 hP hD hS => ?_)
        have hP : va_P G.1 vwCl [(rd, .inr (3, [.ref tr, .ref t, .int at0])), (tr, .inr (1, [.ref ta, .int tsz])), (ta, .inl (G.2.1 0, 1000, .inl tf))] H := hP
        have hD : va_D A [(rd, .inr (3, [.ref tr, .ref t, .int at0])), (tr, .inr (1, [.ref ta, .int tsz])), (ta, .inl (G.2.1 0, 1000, .inl tf))] := hD
        refine lv_icmp_eq (tgt := 40) hx hb d_Reader_isWord_35 (by decide) (fun c_9 => ?_) (fun c_9 => ?_)
        · obtain ⟨y_10, ey_10⟩ : ∃ y : Int32, y = x3_12 + 1 := ⟨_, rfl⟩
          refine lv_iinc (v := y_10) (lv' := [(3, .int y_10), (0, .ref rd), (1, .ref (G.2.2.1 k)), (2, .int n)]) hx hb d_Reader_isWord_40 hl (k := 0) rfl (by rw [ey_10]; rfl) (by decide) rfl (fun ls hl => ?_)
          refine lv_goto (tgt := 12) hx hb d_Reader_isWord_43 (by decide) ?_
          exact ih_12 y_10 (by exact up_0 hk0_12 (by assumption) (by assumption)) hk1_12 (ms_up (by assumption) (by assumption) hm_12) _ _ (hP.sub [0, 1, 2] rfl) (hD.sub [0, 1, 2] (by decide) rfl) hS _ (lv_sub hl [0, 1, 2, 3] rfl)
        · refine lv_iconst (v := 0) hx hb d_Reader_isWord_38 (by decide) ?_
          exact ret 0 () (Nat.le_of_ble_eq_true rfl) (Nat.le_of_ble_eq_true rfl) d_Reader_isWord_39 rfl (by first | assumption | decide) (hP.sub [0, 1, 2] rfl) (hD.sub [0, 1, 2] (by decide) rfl) hS
  refine lv_iload_n hx hb d_Reader_isWord_0 rfl (lv_at hl 2 rfl) ?_
  refine lv_aload_n hx hb d_Reader_isWord_1 rfl (lv_at hl 1 rfl) ?_
  refine gc_i (wr := [(rd, .inr (3, [.ref tr, .ref t, .int at0])), (tr, .inr (1, [.ref ta, .int tsz])), (ta, .inl (G.2.1 0, 1000, .inl tf))]) (gc_V (wc := []) (As := []) (rest := [.int n]) ⟨hx, hb, hml, hown, hw⟩ (c_Str_length l G k hk H.size) (cwV 0 hw (good_V m_265 m_266 m_267 m_6 m_268) rfl rfl rfl hy_Str_length ⟨Nat.le_of_ble_eq_true rfl, Nat.le_of_ble_eq_true rfl⟩) hE hP hD hS hA (vk_recv (hE.2.1 k hk).1 (i := 0) (by decide) hS) [] rfl (by decide) rfl hl rfl (Nat.le_of_ble_eq_true rfl) d_Reader_isWord_2 ⟨Nat.le_of_ble_eq_true rfl, Nat.le_of_ble_eq_true rfl⟩) hP hD hS hA [] [0, 1, 2] rfl rfl (by decide) (by decide) (fun r_11 u_12 H locs hw_13 hP hD hS => ?_)
  try dsimp only at hw_13
  have h_14 := hw_13
  subst h_14
  have hP : va_P G.1 vwCl [(rd, .inr (3, [.ref tr, .ref t, .int at0])), (tr, .inr (1, [.ref ta, .int tsz])), (ta, .inl (G.2.1 0, 1000, .inl tf))] H := hP
  have hD : va_D A [(rd, .inr (3, [.ref tr, .ref t, .int at0])), (tr, .inr (1, [.ref ta, .int tsz])), (ta, .inl (G.2.1 0, 1000, .inl tf))] := hD
  refine lv_icmp_eq (tgt := 10) hx hb d_Reader_isWord_5 (by decide) (fun c_15 => ?_) (fun c_15 => ?_)
  · refine lv_iconst (v := 0) hx hb d_Reader_isWord_10 (by decide) ?_
    refine lv_istore_n (lv' := [(3, .int 0), (0, .ref rd), (1, .ref (G.2.2.1 k)), (2, .int n)]) hx hb d_Reader_isWord_11 rfl hl (by decide) rfl (fun ls hl => ?_)
    exact J_12 _ 0 (by decide) (by first | assumption | trivial | (try dsimp only; omega)) (Nat.lt_succ_self _) _ _ (hP.sub [0, 1, 2] rfl) (hD.sub [0, 1, 2] (by decide) rfl) hS _ (lv_sub hl [0, 1, 2, 3] rfl)
  · refine lv_iconst (v := 0) hx hb d_Reader_isWord_8 (by decide) ?_
    exact ret 0 () (Nat.le_of_ble_eq_true rfl) (Nat.le_of_ble_eq_true rfl) d_Reader_isWord_9 rfl (by first | assumption | decide) (hP.sub [0, 1, 2] rfl) (hD.sub [0, 1, 2] (by decide) rfl) hS
def rm_Reader_kindOfWord : Room := { frames := 5, cells := 0, slots := 0, locals := 108 }
set_option maxHeartbeats 4000000 in
set_option maxRecDepth 100000 in
theorem c_Reader_kindOfWord (l : Launch) (G : GG) (rd : Nat) (t : Nat) (at0 : Int32) (tr : Nat) (ta : Nat) (tsz : Int32) (tf : Nat → Int32) (n : Int32) (htp : RowOk 1000 tsz) : MI l y_Reader_kindOfWord b_Reader_kindOfWord 2 .int rm_Reader_kindOfWord G [.ref rd, .int n] [(rd, .inr (3, [.ref tr, .ref t, .int at0])), (tr, .inr (1, [.ref ta, .int tsz])), (ta, .inl (G.2.1 0, 1000, .inl tf))] (fun (v : Int32) (u : Unit) => True) (fun (u : Unit) => [(rd, .inr (3, [.ref tr, .ref t, .int at0])), (tr, .inr (1, [.ref ta, .int tsz])), (ta, .inl (G.2.1 0, 1000, .inl tf))]) 0 0 := by
  refine MI.of (cc := b_Reader_kindOfWord) (maxL := 2) (ty := .int) (C := R_Reader) (by decide +kernel) rfl (Nat.le_of_ble_eq_true rfl) ?_
  intro p e s m args below meth c A Q H ls hx hb hml hown hw hE hA hP hD hS ret hl
  have hl : lv_has ls 2 [(0, .ref rd), (1, .int n)] := hl
  refine lv_aload_n hx hb d_Reader_kindOfWord_0 rfl (lv_at hl 0 rfl) ?_
  refine va_ldcS (q := (G.2.2.1 0)) hx hb hown (hE.2.1 0 (by decide)).2 d_Reader_kindOfWord_1 ?_
  refine lv_iload_n hx hb d_Reader_kindOfWord_3 rfl (lv_at hl 1 rfl) ?_
  refine gc_i (wr := []) (gc_V (wc := [(rd, .inr (3, [.ref tr, .ref t, .int at0])), (tr, .inr (1, [.ref ta, .int tsz])), (ta, .inl (G.2.1 0, 1000, .inl tf))]) (As := [.ref (G.2.2.1 0), .int n]) (rest := []) ⟨hx, hb, hml, hown, hw⟩ (c_Reader_isWord l G rd t at0 tr ta tsz tf 0 n htp (by decide) H.size) (cwV 2 hw (good_V m_261 m_263 ms_18 m_5 m_264) rfl rfl rfl hy_Reader_isWord ⟨Nat.le_of_ble_eq_true rfl, Nat.le_of_ble_eq_true rfl⟩) hE hP hD hS hA (va_recv hE.1 hP (ci := 3) (q0 := 0) rfl rfl) [0, 1, 2] rfl (by decide) rfl hl rfl (Nat.le_of_ble_eq_true rfl) d_Reader_kindOfWord_4 ⟨Nat.le_of_ble_eq_true rfl, Nat.le_of_ble_eq_true rfl⟩) hP hD hS hA [0, 1, 2] [] rfl rfl (by decide) (by decide) (fun r_1 u_2 H locs hw_3 hP hD hS => ?_)
  try dsimp only at hw_3
  have h_4 := hw_3
  have hP : va_P G.1 vwCl [(rd, .inr (3, [.ref tr, .ref t, .int at0])), (tr, .inr (1, [.ref ta, .int tsz])), (ta, .inl (G.2.1 0, 1000, .inl tf))] H := hP
  have hD : va_D A [(rd, .inr (3, [.ref tr, .ref t, .int at0])), (tr, .inr (1, [.ref ta, .int tsz])), (ta, .inl (G.2.1 0, 1000, .inl tf))] := hD
  refine lv_if_eq (tgt := 12) hx hb d_Reader_kindOfWord_7 (by decide) (fun c_5 => ?_) (fun c_5 => ?_)
  · refine lv_aload_n hx hb d_Reader_kindOfWord_12 rfl (lv_at hl 0 rfl) ?_
    refine va_ldcS (q := (G.2.2.1 1)) hx hb hown (hE.2.1 1 (by decide)).2 d_Reader_kindOfWord_13 ?_
    refine lv_iload_n hx hb d_Reader_kindOfWord_15 rfl (lv_at hl 1 rfl) ?_
    refine gc_i (wr := []) (gc_V (wc := [(rd, .inr (3, [.ref tr, .ref t, .int at0])), (tr, .inr (1, [.ref ta, .int tsz])), (ta, .inl (G.2.1 0, 1000, .inl tf))]) (As := [.ref (G.2.2.1 1), .int n]) (rest := []) ⟨hx, hb, hml, hown, hw⟩ (c_Reader_isWord l G rd t at0 tr ta tsz tf 1 n htp (by decide) H.size) (cwV 2 hw (good_V m_261 m_263 ms_18 m_5 m_264) rfl rfl rfl hy_Reader_isWord ⟨Nat.le_of_ble_eq_true rfl, Nat.le_of_ble_eq_true rfl⟩) hE hP hD hS hA (va_recv hE.1 hP (ci := 3) (q0 := 0) rfl rfl) [0, 1, 2] rfl (by decide) rfl hl rfl (Nat.le_of_ble_eq_true rfl) d_Reader_kindOfWord_16 ⟨Nat.le_of_ble_eq_true rfl, Nat.le_of_ble_eq_true rfl⟩) hP hD hS hA [0, 1, 2] [] rfl rfl (by decide) (by decide) (fun r_6 u_7 H locs hw_8 hP hD hS => ?_)
    try dsimp only at hw_8
    have h_9 := hw_8
    have hP : va_P G.1 vwCl [(rd, .inr (3, [.ref tr, .ref t, .int at0])), (tr, .inr (1, [.ref ta, .int tsz])), (ta, .inl (G.2.1 0, 1000, .inl tf))] H := hP
    have hD : va_D A [(rd, .inr (3, [.ref tr, .ref t, .int at0])), (tr, .inr (1, [.ref ta, .int tsz])), (ta, .inl (G.2.1 0, 1000, .inl tf))] := hD
    refine lv_if_eq (tgt := 24) hx hb d_Reader_kindOfWord_19 (by decide) (fun c_10 => ?_) (fun c_10 => ?_)
    · refine lv_aload_n hx hb d_Reader_kindOfWord_24 rfl (lv_at hl 0 rfl) ?_
      refine va_ldcS (q := (G.2.2.1 2)) hx hb hown (hE.2.1 2 (by decide)).2 d_Reader_kindOfWord_25 ?_
      refine lv_iload_n hx hb d_Reader_kindOfWord_27 rfl (lv_at hl 1 rfl) ?_
      refine gc_i (wr := []) (gc_V (wc := [(rd, .inr (3, [.ref tr, .ref t, .int at0])), (tr, .inr (1, [.ref ta, .int tsz])), (ta, .inl (G.2.1 0, 1000, .inl tf))]) (As := [.ref (G.2.2.1 2), .int n]) (rest := []) ⟨hx, hb, hml, hown, hw⟩ (c_Reader_isWord l G rd t at0 tr ta tsz tf 2 n htp (by decide) H.size) (cwV 2 hw (good_V m_261 m_263 ms_18 m_5 m_264) rfl rfl rfl hy_Reader_isWord ⟨Nat.le_of_ble_eq_true rfl, Nat.le_of_ble_eq_true rfl⟩) hE hP hD hS hA (va_recv hE.1 hP (ci := 3) (q0 := 0) rfl rfl) [0, 1, 2] rfl (by decide) rfl hl rfl (Nat.le_of_ble_eq_true rfl) d_Reader_kindOfWord_28 ⟨Nat.le_of_ble_eq_true rfl, Nat.le_of_ble_eq_true rfl⟩) hP hD hS hA [0, 1, 2] [] rfl rfl (by decide) (by decide) (fun r_11 u_12 H locs hw_13 hP hD hS => ?_)
      try dsimp only at hw_13
      have h_14 := hw_13
      have hP : va_P G.1 vwCl [(rd, .inr (3, [.ref tr, .ref t, .int at0])), (tr, .inr (1, [.ref ta, .int tsz])), (ta, .inl (G.2.1 0, 1000, .inl tf))] H := hP
      have hD : va_D A [(rd, .inr (3, [.ref tr, .ref t, .int at0])), (tr, .inr (1, [.ref ta, .int tsz])), (ta, .inl (G.2.1 0, 1000, .inl tf))] := hD
      refine lv_if_eq (tgt := 38) hx hb d_Reader_kindOfWord_31 (by decide) (fun c_15 => ?_) (fun c_15 => ?_)
      · refine lv_bipush (v := (-2)) hx hb d_Reader_kindOfWord_38 (by decide) ?_
        exact ret (-2) () (Nat.le_of_ble_eq_true rfl) (Nat.le_of_ble_eq_true rfl) d_Reader_kindOfWord_40 rfl trivial (hP.sub [0, 1, 2] rfl) (hD.sub [0, 1, 2] (by decide) rfl) hS
      · refine lv_iconst (v := 2) hx hb d_Reader_kindOfWord_34 (by decide) ?_
        refine lv_goto (tgt := 40) hx hb d_Reader_kindOfWord_35 (by decide) ?_
        exact ret 2 () (Nat.le_of_ble_eq_true rfl) (Nat.le_of_ble_eq_true rfl) d_Reader_kindOfWord_40 rfl trivial (hP.sub [0, 1, 2] rfl) (hD.sub [0, 1, 2] (by decide) rfl) hS
    · refine lv_iconst (v := 1) hx hb d_Reader_kindOfWord_22 (by decide) ?_
      exact ret 1 () (Nat.le_of_ble_eq_true rfl) (Nat.le_of_ble_eq_true rfl) d_Reader_kindOfWord_23 rfl trivial (hP.sub [0, 1, 2] rfl) (hD.sub [0, 1, 2] (by decide) rfl) hS
  · refine lv_iconst (v := 0) hx hb d_Reader_kindOfWord_10 (by decide) ?_
    exact ret 0 () (Nat.le_of_ble_eq_true rfl) (Nat.le_of_ble_eq_true rfl) d_Reader_kindOfWord_11 rfl trivial (hP.sub [0, 1, 2] rfl) (hD.sub [0, 1, 2] (by decide) rfl) hS
def rm_Reader_isInt : Room := { frames := 1, cells := 0, slots := 0, locals := 21 }
set_option maxHeartbeats 4000000 in
set_option maxRecDepth 100000 in
theorem c_Reader_isInt (l : Launch) (G : GG) (rd : Nat) (t : Nat) (at0 : Int32) (tr : Nat) (ta : Nat) (tsz : Int32) (tf : Nat → Int32) (i : Int32) (n : Int32) (htp : RowOk 1000 tsz) : MI l y_Reader_isInt b_Reader_isInt 7 .boolean rm_Reader_isInt G [.ref rd, .int i, .int n] [(rd, .inr (3, [.ref tr, .ref t, .int at0])), (tr, .inr (1, [.ref ta, .int tsz])), (ta, .inl (G.2.1 0, 1000, .inl tf))] (fun (v : Int32) (u : Unit) => (v = 0 ∨ v = 1)) (fun (u : Unit) => [(rd, .inr (3, [.ref tr, .ref t, .int at0])), (tr, .inr (1, [.ref ta, .int tsz])), (ta, .inl (G.2.1 0, 1000, .inl tf))]) 0 0 := by
  refine MI.of (cc := b_Reader_isInt) (maxL := 7) (ty := .boolean) (C := R_Reader) (by decide +kernel) rfl (Nat.le_of_ble_eq_true rfl) ?_
  intro p e s m args below meth c A Q H ls hx hb hml hown hw hE hA hP hD hS ret hl
  have hl : lv_has ls 7 [(0, .ref rd), (1, .int i), (2, .int n)] := hl
  have J_42 : ∀ (fu : Nat) (x5_42 : Int32) (x4_42 : Int32) (x3_42 : Int32), (n.toInt - x5_42.toInt).toNat < fu → ∀ (H : Heap) (locs : List Loc), va_P G.1 vwCl [(rd, .inr (3, [.ref tr, .ref t, .int at0])), (tr, .inr (1, [.ref ta, .int tsz])), (ta, .inl (G.2.1 0, 1000, .inl tf))] H → va_D A [(rd, .inr (3, [.ref tr, .ref t, .int at0])), (tr, .inr (1, [.ref ta, .int tsz])), (ta, .inl (G.2.1 0, 1000, .inl tf))] → va_S A s.heap H locs → ∀ ls : Array Slot, lv_has ls 7 [(5, .int x5_42), (4, .int x4_42), (3, .int x3_42), (0, .ref rd), (1, .int i), (2, .int n)] → W p l e rm_Reader_isInt s m args below meth c H locs 0 0 Q (F0 m 42 ls []) := by
    intro fu
    induction fu with
    | zero =>
      intro x5_42 x4_42 x3_42 hm
      exact absurd hm (Nat.not_lt_zero _)
    | succ fu ih_42 =>
      intro x5_42 x4_42 x3_42 hm_42 H locs hP hD hS ls hl
      refine lv_iload hx hb d_Reader_isInt_42 (lv_at hl 0 rfl) ?_
      refine lv_iload_n hx hb d_Reader_isInt_44 rfl (lv_at hl 5 rfl) ?_
      refine lv_icmp_ge (tgt := 83) hx hb d_Reader_isInt_45 (by decide) (fun c_1 => ?_) (fun c_1 => ?_)
      · refine lv_iconst (v := 1) hx hb d_Reader_isInt_83 (by decide) ?_
        exact ret 1 () (Nat.le_of_ble_eq_true rfl) (Nat.le_of_ble_eq_true rfl) d_Reader_isInt_84 rfl (by first | assumption | decide) (hP.sub [0, 1, 2] rfl) (hD.sub [0, 1, 2] (by decide) rfl) hS
      · refine lv_aload_n hx hb d_Reader_isInt_48 rfl (lv_at hl 3 rfl) ?_
        refine va_get (D := G.1) (ci := 3) (v := .ref tr) (C := R_Reader) (T := F_Reader) (N := 3) hx hb hw i_Reader hown hE.1 hP 0 rfl rfl 0 (by decide) (hw _ m_115) (fun _ h9 => h9) rfl d_Reader_isInt_49 ?_
        refine lv_iload_n hx hb d_Reader_isInt_52 rfl (lv_at hl 4 rfl) ?_
        refine lv_iload hx hb d_Reader_isInt_53 (lv_at hl 0 rfl) ?_
        refine lv_iadd hx hb d_Reader_isInt_55 ?_
        refine lv_topi (fun y_2 ey_2 => ?_)
        refine gc_i (wr := [(rd, .inr (3, [.ref tr, .ref t, .int at0]))]) (gc_V (wc := [(tr, .inr (1, [.ref ta, .int tsz])), (ta, .inl (G.2.1 0, 1000, .inl tf))]) (As := [.int y_2]) (rest := []) ⟨hx, hb, hml, hown, hw⟩ (c_Row_get l G tr ta 1000 tsz tf y_2 (by decide) htp H.size) (cwV 1 hw (good_V m_143 m_144 m_145 m_2 m_146) rfl rfl rfl hy_Row_get ⟨Nat.le_of_ble_eq_true rfl, Nat.le_of_ble_eq_true rfl⟩) hE hP hD hS hA (va_recv hE.1 hP (ci := 1) (q0 := 1) rfl rfl) [1, 2] rfl (by decide) rfl hl rfl (Nat.le_of_ble_eq_true rfl) d_Reader_isInt_56 ⟨Nat.le_of_ble_eq_true rfl, Nat.le_of_ble_eq_true rfl⟩) hP hD hS hA [1, 2] [0] rfl rfl (by decide) (by decide) (fun r_3 u_4 H locs hw_5 hP hD hS => ?_)
        have hP : va_P G.1 vwCl [(rd, .inr (3, [.ref tr, .ref t, .int at0])), (tr, .inr (1, [.ref ta, .int tsz])), (ta, .inl (G.2.1 0, 1000, .inl tf))] H := hP
        have hD : va_D A [(rd, .inr (3, [.ref tr, .ref t, .int at0])), (tr, .inr (1, [.ref ta, .int tsz])), (ta, .inl (G.2.1 0, 1000, .inl tf))] := hD
        refine lv_istore (lv' := [(6, .int r_3), (5, .int x5_42), (4, .int x4_42), (3, .int x3_42), (0, .ref rd), (1, .int i), (2, .int n)]) hx hb d_Reader_isInt_59 hl (by decide) rfl (fun ls hl => ?_)
        refine lv_iload hx hb d_Reader_isInt_61 (lv_at hl 0 rfl) ?_
        refine lv_bipush (v := 48) hx hb d_Reader_isInt_63 (by decide) ?_
        refine lv_icmp_lt (tgt := 75) hx hb d_Reader_isInt_65 (by decide) (fun c_6 => ?_) (fun c_6 => ?_)
        · refine lv_iconst (v := 0) hx hb d_Reader_isInt_75 (by decide) ?_
          exact ret 0 () (Nat.le_of_ble_eq_true rfl) (Nat.le_of_ble_eq_true rfl) d_Reader_isInt_76 rfl (by first | assumption | decide) (hP.sub [0, 1, 2] rfl) (hD.sub [0, 1, 2] (by decide) rfl) hS
        · refine lv_iload hx hb d_Reader_isInt_68 (lv_at hl 0 rfl) ?_
          refine lv_bipush (v := 57) hx hb d_Reader_isInt_70 (by decide) ?_
          refine lv_icmp_le (tgt := 77) hx hb d_Reader_isInt_72 (by decide) (fun c_7 => ?_) (fun c_7 => ?_)
          · obtain ⟨y_8, ey_8⟩ : ∃ y : Int32, y = x5_42 + 1 := ⟨_, rfl⟩
            refine lv_iinc (v := y_8) (lv' := [(5, .int y_8), (6, .int r_3), (4, .int x4_42), (3, .int x3_42), (0, .ref rd), (1, .int i), (2, .int n)]) hx hb d_Reader_isInt_77 hl (k := 1) rfl (by rw [ey_8]; rfl) (by decide) rfl (fun ls hl => ?_)
            refine lv_goto (tgt := 42) hx hb d_Reader_isInt_80 (by decide) ?_
            exact ih_42 y_8 x4_42 x3_42 (ms_up (by assumption) (by assumption) hm_42) _ _ (hP.sub [0, 1, 2] rfl) (hD.sub [0, 1, 2] (by decide) rfl) hS _ (lv_sub hl [0, 2, 3, 4, 5, 6] rfl)
          · refine lv_iconst (v := 0) hx hb d_Reader_isInt_75 (by decide) ?_
            exact ret 0 () (Nat.le_of_ble_eq_true rfl) (Nat.le_of_ble_eq_true rfl) d_Reader_isInt_76 rfl (by first | assumption | decide) (hP.sub [0, 1, 2] rfl) (hD.sub [0, 1, 2] (by decide) rfl) hS
  have J_18 : ∀ (k0_18 : Int32) (H : Heap) (locs : List Loc), va_P G.1 vwCl [(rd, .inr (3, [.ref tr, .ref t, .int at0])), (tr, .inr (1, [.ref ta, .int tsz])), (ta, .inl (G.2.1 0, 1000, .inl tf))] H → va_D A [(rd, .inr (3, [.ref tr, .ref t, .int at0])), (tr, .inr (1, [.ref ta, .int tsz])), (ta, .inl (G.2.1 0, 1000, .inl tf))] → va_S A s.heap H locs → ∀ ls : Array Slot, lv_has ls 7 [(0, .ref rd), (1, .int i), (2, .int n)] → W p l e rm_Reader_isInt s m args below meth c H locs 0 0 Q (F0 m 18 ls [.int k0_18]) := by
    intro k0_18 H locs hP hD hS ls hl
    refine lv_istore_n (lv' := [(3, .int k0_18), (0, .ref rd), (1, .int i), (2, .int n)]) hx hb d_Reader_isInt_18 rfl hl (by decide) rfl (fun ls hl => ?_)
    refine lv_iload_n hx hb d_Reader_isInt_19 rfl (lv_at hl 3 rfl) ?_
    refine lv_iload_n hx hb d_Reader_isInt_20 rfl (lv_at hl 0 rfl) ?_
    refine lv_isub hx hb d_Reader_isInt_21 ?_
    refine lv_topi (fun y_9 ey_9 => ?_)
    refine lv_istore (lv' := [(4, .int y_9), (3, .int k0_18), (0, .ref rd), (1, .int i), (2, .int n)]) hx hb d_Reader_isInt_22 hl (by decide) rfl (fun ls hl => ?_)
    refine lv_iload hx hb d_Reader_isInt_24 (lv_at hl 0 rfl) ?_
    refine lv_iconst (v := 1) hx hb d_Reader_isInt_26 (by decide) ?_
    refine lv_icmp_lt (tgt := 37) hx hb d_Reader_isInt_27 (by decide) (fun c_10 => ?_) (fun c_10 => ?_)
    · refine lv_iconst (v := 0) hx hb d_Reader_isInt_37 (by decide) ?_
      exact ret 0 () (Nat.le_of_ble_eq_true rfl) (Nat.le_of_ble_eq_true rfl) d_Reader_isInt_38 rfl (by first | assumption | decide) (hP.sub [0, 1, 2] rfl) (hD.sub [0, 1, 2] (by decide) rfl) hS
    · refine lv_iload hx hb d_Reader_isInt_30 (lv_at hl 0 rfl) ?_
      refine lv_bipush (v := 9) hx hb d_Reader_isInt_32 (by decide) ?_
      refine lv_icmp_le (tgt := 39) hx hb d_Reader_isInt_34 (by decide) (fun c_11 => ?_) (fun c_11 => ?_)
      · refine lv_iload_n hx hb d_Reader_isInt_39 rfl (lv_at hl 1 rfl) ?_
        refine lv_istore (lv' := [(5, .int k0_18), (4, .int y_9), (3, .int k0_18), (0, .ref rd), (1, .int i), (2, .int n)]) hx hb d_Reader_isInt_40 hl (by decide) rfl (fun ls hl => ?_)
        exact J_42 _ k0_18 y_9 k0_18 (Nat.lt_succ_self _) _ _ (hP.sub [0, 1, 2] rfl) (hD.sub [0, 1, 2] (by decide) rfl) hS _ (lv_sub hl [0, 1, 2, 3, 4, 5] rfl)
      · refine lv_iconst (v := 0) hx hb d_Reader_isInt_37 (by decide) ?_
        exact ret 0 () (Nat.le_of_ble_eq_true rfl) (Nat.le_of_ble_eq_true rfl) d_Reader_isInt_38 rfl (by first | assumption | decide) (hP.sub [0, 1, 2] rfl) (hD.sub [0, 1, 2] (by decide) rfl) hS
  refine lv_aload_n hx hb d_Reader_isInt_0 rfl (lv_at hl 0 rfl) ?_
  refine va_get (D := G.1) (ci := 3) (v := .ref tr) (C := R_Reader) (T := F_Reader) (N := 3) hx hb hw i_Reader hown hE.1 hP 0 rfl rfl 0 (by decide) (hw _ m_115) (fun _ h9 => h9) rfl d_Reader_isInt_1 ?_
  refine lv_iload_n hx hb d_Reader_isInt_4 rfl (lv_at hl 1 rfl) ?_
  refine gc_i (wr := [(rd, .inr (3, [.ref tr, .ref t, .int at0]))]) (gc_V (wc := [(tr, .inr (1, [.ref ta, .int tsz])), (ta, .inl (G.2.1 0, 1000, .inl tf))]) (As := [.int i]) (rest := []) ⟨hx, hb, hml, hown, hw⟩ (c_Row_get l G tr ta 1000 tsz tf i (by decide) htp H.size) (cwV 1 hw (good_V m_143 m_144 m_145 m_2 m_146) rfl rfl rfl hy_Row_get ⟨Nat.le_of_ble_eq_true rfl, Nat.le_of_ble_eq_true rfl⟩) hE hP hD hS hA (va_recv hE.1 hP (ci := 1) (q0 := 1) rfl rfl) [1, 2] rfl (by decide) rfl hl rfl (Nat.le_of_ble_eq_true rfl) d_Reader_isInt_5 ⟨Nat.le_of_ble_eq_true rfl, Nat.le_of_ble_eq_true rfl⟩) hP hD hS hA [1, 2] [0] rfl rfl (by decide) (by decide) (fun r_12 u_13 H locs hw_14 hP hD hS => ?_)
  have hP : va_P G.1 vwCl [(rd, .inr (3, [.ref tr, .ref t, .int at0])), (tr, .inr (1, [.ref ta, .int tsz])), (ta, .inl (G.2.1 0, 1000, .inl tf))] H := hP
  have hD : va_D A [(rd, .inr (3, [.ref tr, .ref t, .int at0])), (tr, .inr (1, [.ref ta, .int tsz])), (ta, .inl (G.2.1 0, 1000, .inl tf))] := hD
  refine lv_bipush (v := 45) hx hb d_Reader_isInt_8 (by decide) ?_
  refine lv_icmp_ne (tgt := 17) hx hb d_Reader_isInt_10 (by decide) (fun c_15 => ?_) (fun c_15 => ?_)
  · refine lv_iconst (v := 0) hx hb d_Reader_isInt_17 (by decide) ?_
    exact J_18 0 _ _ (hP.sub [0, 1, 2] rfl) (hD.sub [0, 1, 2] (by decide) rfl) hS _ (lv_sub hl [0, 1, 2] rfl)
  · refine lv_iconst (v := 1) hx hb d_Reader_isInt_13 (by decide) ?_
    refine lv_goto (tgt := 18) hx hb d_Reader_isInt_14 (by decide) ?_
    exact J_18 1 _ _ (hP.sub [0, 1, 2] rfl) (hD.sub [0, 1, 2] (by decide) rfl) hS _ (lv_sub hl [0, 1, 2] rfl)
def rm_Reader_numberAt : Room := { frames := 1, cells := 0, slots := 0, locals := 21 }
set_option maxHeartbeats 4000000 in
set_option maxRecDepth 100000 in
theorem c_Reader_numberAt (l : Launch) (G : GG) (rd : Nat) (t : Nat) (at0 : Int32) (tr : Nat) (ta : Nat) (tsz : Int32) (tf : Nat → Int32) (i : Int32) (n : Int32) (htp : RowOk 1000 tsz) : MI l y_Reader_numberAt b_Reader_numberAt 6 .int rm_Reader_numberAt G [.ref rd, .int i, .int n] [(rd, .inr (3, [.ref tr, .ref t, .int at0])), (tr, .inr (1, [.ref ta, .int tsz])), (ta, .inl (G.2.1 0, 1000, .inl tf))] (fun (v : Int32) (u : Unit) => True) (fun (u : Unit) => [(rd, .inr (3, [.ref tr, .ref t, .int at0])), (tr, .inr (1, [.ref ta, .int tsz])), (ta, .inl (G.2.1 0, 1000, .inl tf))]) 0 0 := by
  refine MI.of (cc := b_Reader_numberAt) (maxL := 6) (ty := .int) (C := R_Reader) (by decide +kernel) rfl (Nat.le_of_ble_eq_true rfl) ?_
  intro p e s m args below meth c A Q H ls hx hb hml hown hw hE hA hP hD hS ret hl
  have hl : lv_has ls 6 [(0, .ref rd), (1, .int i), (2, .int n)] := hl
  have J_25 : ∀ (fu : Nat) (x5_25 : Int32) (x4_25 : Int32) (x3_25 : Int32), (n.toInt - x5_25.toInt).toNat < fu → ∀ (H : Heap) (locs : List Loc), va_P G.1 vwCl [(rd, .inr (3, [.ref tr, .ref t, .int at0])), (tr, .inr (1, [.ref ta, .int tsz])), (ta, .inl (G.2.1 0, 1000, .inl tf))] H → va_D A [(rd, .inr (3, [.ref tr, .ref t, .int at0])), (tr, .inr (1, [.ref ta, .int tsz])), (ta, .inl (G.2.1 0, 1000, .inl tf))] → va_S A s.heap H locs → ∀ ls : Array Slot, lv_has ls 6 [(5, .int x5_25), (4, .int x4_25), (3, .int x3_25), (0, .ref rd), (1, .int i), (2, .int n)] → W p l e rm_Reader_numberAt s m args below meth c H locs 0 0 Q (F0 m 25 ls []) := by
    intro fu
    induction fu with
    | zero =>
      intro x5_25 x4_25 x3_25 hm
      exact absurd hm (Nat.not_lt_zero _)
    | succ fu ih_25 =>
      intro x5_25 x4_25 x3_25 hm_25 H locs hP hD hS ls hl
      refine lv_iload hx hb d_Reader_numberAt_25 (lv_at hl 0 rfl) ?_
      refine lv_iload_n hx hb d_Reader_numberAt_27 rfl (lv_at hl 5 rfl) ?_
      refine lv_icmp_ge (tgt := 59) hx hb d_Reader_numberAt_28 (by decide) (fun c_1 => ?_) (fun c_1 => ?_)
      · refine lv_iload_n hx hb d_Reader_numberAt_59 rfl (lv_at hl 2 rfl) ?_
        refine lv_iconst (v := 1) hx hb d_Reader_numberAt_60 (by decide) ?_
        refine lv_icmp_ne (tgt := 70) hx hb d_Reader_numberAt_61 (by decide) (fun c_2 => ?_) (fun c_2 => ?_)
        · refine lv_iload hx hb d_Reader_numberAt_70 (lv_at hl 1 rfl) ?_
          exact ret x4_25 () (Nat.le_of_ble_eq_true rfl) (Nat.le_of_ble_eq_true rfl) d_Reader_numberAt_72 rfl trivial (hP.sub [0, 1, 2] rfl) (hD.sub [0, 1, 2] (by decide) rfl) hS
        · refine lv_iload hx hb d_Reader_numberAt_64 (lv_at hl 1 rfl) ?_
          refine lv_ineg hx hb d_Reader_numberAt_66 ?_
          refine lv_topi (fun y_3 ey_3 => ?_)
          refine lv_goto (tgt := 72) hx hb d_Reader_numberAt_67 (by decide) ?_
          exact ret y_3 () (Nat.le_of_ble_eq_true rfl) (Nat.le_of_ble_eq_true rfl) d_Reader_numberAt_72 rfl trivial (hP.sub [0, 1, 2] rfl) (hD.sub [0, 1, 2] (by decide) rfl) hS
      · refine lv_iload hx hb d_Reader_numberAt_31 (lv_at hl 1 rfl) ?_
        refine lv_bipush (v := 10) hx hb d_Reader_numberAt_33 (by decide) ?_
        refine lv_imul hx hb d_Reader_numberAt_35 ?_
        refine lv_topi (fun y_4 ey_4 => ?_)
        refine lv_aload_n hx hb d_Reader_numberAt_36 rfl (lv_at hl 3 rfl) ?_
        refine va_get (D := G.1) (ci := 3) (v := .ref tr) (C := R_Reader) (T := F_Reader) (N := 3) hx hb hw i_Reader hown hE.1 hP 0 rfl rfl 0 (by decide) (hw _ m_115) (fun _ h9 => h9) rfl d_Reader_numberAt_37 ?_
        refine lv_iload_n hx hb d_Reader_numberAt_40 rfl (lv_at hl 4 rfl) ?_
        refine lv_iload hx hb d_Reader_numberAt_41 (lv_at hl 0 rfl) ?_
        refine lv_iadd hx hb d_Reader_numberAt_43 ?_
        refine lv_topi (fun y_5 ey_5 => ?_)
        refine gc_i (wr := [(rd, .inr (3, [.ref tr, .ref t, .int at0]))]) (gc_V (wc := [(tr, .inr (1, [.ref ta, .int tsz])), (ta, .inl (G.2.1 0, 1000, .inl tf))]) (As := [.int y_5]) (rest := [.int y_4]) ⟨hx, hb, hml, hown, hw⟩ (c_Row_get l G tr ta 1000 tsz tf y_5 (by decide) htp H.size) (cwV 1 hw (good_V m_143 m_144 m_145 m_2 m_146) rfl rfl rfl hy_Row_get ⟨Nat.le_of_ble_eq_true rfl, Nat.le_of_ble_eq_true rfl⟩) hE hP hD hS hA (va_recv hE.1 hP (ci := 1) (q0 := 1) rfl rfl) [1, 2] rfl (by decide) rfl hl rfl (Nat.le_of_ble_eq_true rfl) d_Reader_numberAt_44 ⟨Nat.le_of_ble_eq_true rfl, Nat.le_of_ble_eq_true rfl⟩) hP hD hS hA [1, 2] [0] rfl rfl (by decide) (by decide) (fun r_6 u_7 H locs hw_8 hP hD hS => ?_)
        have hP : va_P G.1 vwCl [(rd, .inr (3, [.ref tr, .ref t, .int at0])), (tr, .inr (1, [.ref ta, .int tsz])), (ta, .inl (G.2.1 0, 1000, .inl tf))] H := hP
        have hD : va_D A [(rd, .inr (3, [.ref tr, .ref t, .int at0])), (tr, .inr (1, [.ref ta, .int tsz])), (ta, .inl (G.2.1 0, 1000, .inl tf))] := hD
        refine lv_iadd hx hb d_Reader_numberAt_47 ?_
        refine lv_topi (fun y_9 ey_9 => ?_)
        refine lv_bipush (v := 48) hx hb d_Reader_numberAt_48 (by decide) ?_
        refine lv_isub hx hb d_Reader_numberAt_50 ?_
        refine lv_topi (fun y_10 ey_10 => ?_)
        refine lv_istore (lv' := [(4, .int y_10), (5, .int x5_25), (3, .int x3_25), (0, .ref rd), (1, .int i), (2, .int n)]) hx hb d_Reader_numberAt_51 hl (by decide) rfl (fun ls hl => ?_)
        obtain ⟨y_11, ey_11⟩ : ∃ y : Int32, y = x5_25 + 1 := ⟨_, rfl⟩
        refine lv_iinc (v := y_11) (lv' := [(5, .int y_11), (4, .int y_10), (3, .int x3_25), (0, .ref rd), (1, .int i), (2, .int n)]) hx hb d_Reader_numberAt_53 hl (k := 1) rfl (by rw [ey_11]; rfl) (by decide) rfl (fun ls hl => ?_)
        refine lv_goto (tgt := 25) hx hb d_Reader_numberAt_56 (by decide) ?_
        exact ih_25 y_11 y_10 x3_25 (ms_up (by assumption) (by assumption) hm_25) _ _ (hP.sub [0, 1, 2] rfl) (hD.sub [0, 1, 2] (by decide) rfl) hS _ (lv_sub hl [0, 1, 2, 3, 4, 5] rfl)
  have J_18 : ∀ (k0_18 : Int32) (H : Heap) (locs : List Loc), va_P G.1 vwCl [(rd, .inr (3, [.ref tr, .ref t, .int at0])), (tr, .inr (1, [.ref ta, .int tsz])), (ta, .inl (G.2.1 0, 1000, .inl tf))] H → va_D A [(rd, .inr (3, [.ref tr, .ref t, .int at0])), (tr, .inr (1, [.ref ta, .int tsz])), (ta, .inl (G.2.1 0, 1000, .inl tf))] → va_S A s.heap H locs → ∀ ls : Array Slot, lv_has ls 6 [(0, .ref rd), (1, .int i), (2, .int n)] → W p l e rm_Reader_numberAt s m args below meth c H locs 0 0 Q (F0 m 18 ls [.int k0_18]) := by
    intro k0_18 H locs hP hD hS ls hl
    refine lv_istore_n (lv' := [(3, .int k0_18), (0, .ref rd), (1, .int i), (2, .int n)]) hx hb d_Reader_numberAt_18 rfl hl (by decide) rfl (fun ls hl => ?_)
    refine lv_iconst (v := 0) hx hb d_Reader_numberAt_19 (by decide) ?_
    refine lv_istore (lv' := [(4, .int 0), (3, .int k0_18), (0, .ref rd), (1, .int i), (2, .int n)]) hx hb d_Reader_numberAt_20 hl (by decide) rfl (fun ls hl => ?_)
    refine lv_iload_n hx hb d_Reader_numberAt_22 rfl (lv_at hl 1 rfl) ?_
    refine lv_istore (lv' := [(5, .int k0_18), (4, .int 0), (3, .int k0_18), (0, .ref rd), (1, .int i), (2, .int n)]) hx hb d_Reader_numberAt_23 hl (by decide) rfl (fun ls hl => ?_)
    exact J_25 _ k0_18 0 k0_18 (Nat.lt_succ_self _) _ _ (hP.sub [0, 1, 2] rfl) (hD.sub [0, 1, 2] (by decide) rfl) hS _ (lv_sub hl [0, 1, 2, 3, 4, 5] rfl)
  refine lv_aload_n hx hb d_Reader_numberAt_0 rfl (lv_at hl 0 rfl) ?_
  refine va_get (D := G.1) (ci := 3) (v := .ref tr) (C := R_Reader) (T := F_Reader) (N := 3) hx hb hw i_Reader hown hE.1 hP 0 rfl rfl 0 (by decide) (hw _ m_115) (fun _ h9 => h9) rfl d_Reader_numberAt_1 ?_
  refine lv_iload_n hx hb d_Reader_numberAt_4 rfl (lv_at hl 1 rfl) ?_
  refine gc_i (wr := [(rd, .inr (3, [.ref tr, .ref t, .int at0]))]) (gc_V (wc := [(tr, .inr (1, [.ref ta, .int tsz])), (ta, .inl (G.2.1 0, 1000, .inl tf))]) (As := [.int i]) (rest := []) ⟨hx, hb, hml, hown, hw⟩ (c_Row_get l G tr ta 1000 tsz tf i (by decide) htp H.size) (cwV 1 hw (good_V m_143 m_144 m_145 m_2 m_146) rfl rfl rfl hy_Row_get ⟨Nat.le_of_ble_eq_true rfl, Nat.le_of_ble_eq_true rfl⟩) hE hP hD hS hA (va_recv hE.1 hP (ci := 1) (q0 := 1) rfl rfl) [1, 2] rfl (by decide) rfl hl rfl (Nat.le_of_ble_eq_true rfl) d_Reader_numberAt_5 ⟨Nat.le_of_ble_eq_true rfl, Nat.le_of_ble_eq_true rfl⟩) hP hD hS hA [1, 2] [0] rfl rfl (by decide) (by decide) (fun r_12 u_13 H locs hw_14 hP hD hS => ?_)
  have hP : va_P G.1 vwCl [(rd, .inr (3, [.ref tr, .ref t, .int at0])), (tr, .inr (1, [.ref ta, .int tsz])), (ta, .inl (G.2.1 0, 1000, .inl tf))] H := hP
  have hD : va_D A [(rd, .inr (3, [.ref tr, .ref t, .int at0])), (tr, .inr (1, [.ref ta, .int tsz])), (ta, .inl (G.2.1 0, 1000, .inl tf))] := hD
  refine lv_bipush (v := 45) hx hb d_Reader_numberAt_8 (by decide) ?_
  refine lv_icmp_ne (tgt := 17) hx hb d_Reader_numberAt_10 (by decide) (fun c_15 => ?_) (fun c_15 => ?_)
  · refine lv_iconst (v := 0) hx hb d_Reader_numberAt_17 (by decide) ?_
    exact J_18 0 _ _ (hP.sub [0, 1, 2] rfl) (hD.sub [0, 1, 2] (by decide) rfl) hS _ (lv_sub hl [0, 1, 2] rfl)
  · refine lv_iconst (v := 1) hx hb d_Reader_numberAt_13 (by decide) ?_
    refine lv_goto (tgt := 18) hx hb d_Reader_numberAt_14 (by decide) ?_
    exact J_18 1 _ _ (hP.sub [0, 1, 2] rfl) (hD.sub [0, 1, 2] (by decide) rfl) hS _ (lv_sub hl [0, 1, 2] rfl)
def rm_Reader_isBelow : Room := { frames := 2, cells := 0, slots := 0, locals := 47 }
set_option maxHeartbeats 4000000 in
set_option maxRecDepth 100000 in
theorem c_Reader_isBelow (l : Launch) (G : GG) (rd : Nat) (t : Nat) (at0 : Int32) (tr : Nat) (ta : Nat) (tsz : Int32) (tf : Nat → Int32) (lim : Int32) (i : Int32) (n : Int32) (htp : RowOk 1000 tsz) : MI l y_Reader_isBelow b_Reader_isBelow 4 .boolean rm_Reader_isBelow G [.ref rd, .int lim, .int i, .int n] [(rd, .inr (3, [.ref tr, .ref t, .int at0])), (tr, .inr (1, [.ref ta, .int tsz])), (ta, .inl (G.2.1 0, 1000, .inl tf))] (fun (v : Int32) (u : Unit) => (v = 0 ∨ v = 1)) (fun (u : Unit) => [(rd, .inr (3, [.ref tr, .ref t, .int at0])), (tr, .inr (1, [.ref ta, .int tsz])), (ta, .inl (G.2.1 0, 1000, .inl tf))]) 0 0 := by
  refine MI.of (cc := b_Reader_isBelow) (maxL := 4) (ty := .boolean) (C := R_Reader) (by decide +kernel) rfl (Nat.le_of_ble_eq_true rfl) ?_
  intro p e s m args below meth c A Q H ls hx hb hml hown hw hE hA hP hD hS ret hl
  have hl : lv_has ls 4 [(0, .ref rd), (1, .int lim), (2, .int i), (3, .int n)] := hl
  refine lv_aload_n hx hb d_Reader_isBelow_0 rfl (lv_at hl 0 rfl) ?_
  refine lv_iload_n hx hb d_Reader_isBelow_1 rfl (lv_at hl 2 rfl) ?_
  refine lv_iload_n hx hb d_Reader_isBelow_2 rfl (lv_at hl 3 rfl) ?_
  refine gc_i (wr := []) (gc_V (wc := [(rd, .inr (3, [.ref tr, .ref t, .int at0])), (tr, .inr (1, [.ref ta, .int tsz])), (ta, .inl (G.2.1 0, 1000, .inl tf))]) (As := [.int i, .int n]) (rest := []) ⟨hx, hb, hml, hown, hw⟩ (c_Reader_isInt l G rd t at0 tr ta tsz tf i n htp H.size) (cwV 2 hw (good_V m_239 m_241 ms_13 m_5 m_242) rfl rfl rfl hy_Reader_isInt ⟨Nat.le_of_ble_eq_true rfl, Nat.le_of_ble_eq_true rfl⟩) hE hP hD hS hA (va_recv hE.1 hP (ci := 3) (q0 := 0) rfl rfl) [0, 1, 2] rfl (by decide) rfl hl rfl (Nat.le_of_ble_eq_true rfl) d_Reader_isBelow_3 ⟨Nat.le_of_ble_eq_true rfl, Nat.le_of_ble_eq_true rfl⟩) hP hD hS hA [0, 1, 2] [] rfl rfl (by decide) (by decide) (fun r_1 u_2 H locs hw_3 hP hD hS => ?_)
  try dsimp only at hw_3
  have h_4 := hw_3
  have hP : va_P G.1 vwCl [(rd, .inr (3, [.ref tr, .ref t, .int at0])), (tr, .inr (1, [.ref ta, .int tsz])), (ta, .inl (G.2.1 0, 1000, .inl tf))] H := hP
  have hD : va_D A [(rd, .inr (3, [.ref tr, .ref t, .int at0])), (tr, .inr (1, [.ref ta, .int tsz])), (ta, .inl (G.2.1 0, 1000, .inl tf))] := hD
  refine lv_if_eq (tgt := 36) hx hb d_Reader_isBelow_6 (by decide) (fun c_5 => ?_) (fun c_5 => ?_)
  · refine lv_iconst (v := 0) hx hb d_Reader_isBelow_36 (by decide) ?_
    exact ret 0 () (Nat.le_of_ble_eq_true rfl) (Nat.le_of_ble_eq_true rfl) d_Reader_isBelow_37 rfl (by first | assumption | decide) (hP.sub [0, 1, 2] rfl) (hD.sub [0, 1, 2] (by decide) rfl) hS
  · refine lv_aload_n hx hb d_Reader_isBelow_9 rfl (lv_at hl 0 rfl) ?_
    refine va_get (D := G.1) (ci := 3) (v := .ref tr) (C := R_Reader) (T := F_Reader) (N := 3) hx hb hw i_Reader hown hE.1 hP 0 rfl rfl 0 (by decide) (hw _ m_115) (fun _ h9 => h9) rfl d_Reader_isBelow_10 ?_
    refine lv_iload_n hx hb d_Reader_isBelow_13 rfl (lv_at hl 2 rfl) ?_
    refine gc_i (wr := [(rd, .inr (3, [.ref tr, .ref t, .int at0]))]) (gc_V (wc := [(tr, .inr (1, [.ref ta, .int tsz])), (ta, .inl (G.2.1 0, 1000, .inl tf))]) (As := [.int i]) (rest := []) ⟨hx, hb, hml, hown, hw⟩ (c_Row_get l G tr ta 1000 tsz tf i (by decide) htp H.size) (cwV 1 hw (good_V m_143 m_144 m_145 m_2 m_146) rfl rfl rfl hy_Row_get ⟨Nat.le_of_ble_eq_true rfl, Nat.le_of_ble_eq_true rfl⟩) hE hP hD hS hA (va_recv hE.1 hP (ci := 1) (q0 := 1) rfl rfl) [1, 2] rfl (by decide) rfl hl rfl (Nat.le_of_ble_eq_true rfl) d_Reader_isBelow_14 ⟨Nat.le_of_ble_eq_true rfl, Nat.le_of_ble_eq_true rfl⟩) hP hD hS hA [1, 2] [0] rfl rfl (by decide) (by decide) (fun r_6 u_7 H locs hw_8 hP hD hS => ?_)
    have hP : va_P G.1 vwCl [(rd, .inr (3, [.ref tr, .ref t, .int at0])), (tr, .inr (1, [.ref ta, .int tsz])), (ta, .inl (G.2.1 0, 1000, .inl tf))] H := hP
    have hD : va_D A [(rd, .inr (3, [.ref tr, .ref t, .int at0])), (tr, .inr (1, [.ref ta, .int tsz])), (ta, .inl (G.2.1 0, 1000, .inl tf))] := hD
    refine lv_bipush (v := 45) hx hb d_Reader_isBelow_17 (by decide) ?_
    refine lv_icmp_eq (tgt := 36) hx hb d_Reader_isBelow_19 (by decide) (fun c_9 => ?_) (fun c_9 => ?_)
    · refine lv_iconst (v := 0) hx hb d_Reader_isBelow_36 (by decide) ?_
      exact ret 0 () (Nat.le_of_ble_eq_true rfl) (Nat.le_of_ble_eq_true rfl) d_Reader_isBelow_37 rfl (by first | assumption | decide) (hP.sub [0, 1, 2] rfl) (hD.sub [0, 1, 2] (by decide) rfl) hS
    · refine lv_aload_n hx hb d_Reader_isBelow_22 rfl (lv_at hl 0 rfl) ?_
      refine lv_iload_n hx hb d_Reader_isBelow_23 rfl (lv_at hl 2 rfl) ?_
      refine lv_iload_n hx hb d_Reader_isBelow_24 rfl (lv_at hl 3 rfl) ?_
      refine gc_i (wr := []) (gc_V (wc := [(rd, .inr (3, [.ref tr, .ref t, .int at0])), (tr, .inr (1, [.ref ta, .int tsz])), (ta, .inl (G.2.1 0, 1000, .inl tf))]) (As := [.int i, .int n]) (rest := []) ⟨hx, hb, hml, hown, hw⟩ (c_Reader_numberAt l G rd t at0 tr ta tsz tf i n htp H.size) (cwV 2 hw (good_V m_247 m_249 ms_15 m_5 m_250) rfl rfl rfl hy_Reader_numberAt ⟨Nat.le_of_ble_eq_true rfl, Nat.le_of_ble_eq_true rfl⟩) hE hP hD hS hA (va_recv hE.1 hP (ci := 3) (q0 := 0) rfl rfl) [0, 1, 2] rfl (by decide) rfl hl rfl (Nat.le_of_ble_eq_true rfl) d_Reader_isBelow_25 ⟨Nat.le_of_ble_eq_true rfl, Nat.le_of_ble_eq_true rfl⟩) hP hD hS hA [0, 1, 2] [] rfl rfl (by decide) (by decide) (fun r_10 u_11 H locs hw_12 hP hD hS => ?_)
      have hP : va_P G.1 vwCl [(rd, .inr (3, [.ref tr, .ref t, .int at0])), (tr, .inr (1, [.ref ta, .int tsz])), (ta, .inl (G.2.1 0, 1000, .inl tf))] H := hP
      have hD : va_D A [(rd, .inr (3, [.ref tr, .ref t, .int at0])), (tr, .inr (1, [.ref ta, .int tsz])), (ta, .inl (G.2.1 0, 1000, .inl tf))] := hD
      refine lv_iload_n hx hb d_Reader_isBelow_28 rfl (lv_at hl 1 rfl) ?_
      refine lv_icmp_ge (tgt := 36) hx hb d_Reader_isBelow_29 (by decide) (fun c_13 => ?_) (fun c_13 => ?_)
      · refine lv_iconst (v := 0) hx hb d_Reader_isBelow_36 (by decide) ?_
        exact ret 0 () (Nat.le_of_ble_eq_true rfl) (Nat.le_of_ble_eq_true rfl) d_Reader_isBelow_37 rfl (by first | assumption | decide) (hP.sub [0, 1, 2] rfl) (hD.sub [0, 1, 2] (by decide) rfl) hS
      · refine lv_iconst (v := 1) hx hb d_Reader_isBelow_32 (by decide) ?_
        refine lv_goto (tgt := 37) hx hb d_Reader_isBelow_33 (by decide) ?_
        exact ret 1 () (Nat.le_of_ble_eq_true rfl) (Nat.le_of_ble_eq_true rfl) d_Reader_isBelow_37 rfl (by first | assumption | decide) (hP.sub [0, 1, 2] rfl) (hD.sub [0, 1, 2] (by decide) rfl) hS
def rm_Reader_escaped : Room := { frames := 2, cells := 0, slots := 0, locals := 43 }
set_option maxHeartbeats 4000000 in
set_option maxRecDepth 100000 in
theorem c_Reader_escaped (l : Launch) (G : GG) (rd : Nat) (t : Nat) (at0 : Int32) (tr : Nat) (ta : Nat) (tsz : Int32) (tf : Nat → Int32) (htp : RowOk 1000 tsz) : MI l y_Reader_escaped b_Reader_escaped 5 .int rm_Reader_escaped G [.ref rd] [(rd, .inr (3, [.ref tr, .ref t, .int at0])), (tr, .inr (1, [.ref ta, .int tsz])), (ta, .inl (G.2.1 0, 1000, .inl tf))] (fun (v : Int32) (u : Int32) => True) (fun (u : Int32) => [(rd, .inr (3, [.ref tr, .ref t, .int u])), (tr, .inr (1, [.ref ta, .int tsz])), (ta, .inl (G.2.1 0, 1000, .inl tf))]) 0 0 := by
  refine MI.of (cc := b_Reader_escaped) (maxL := 5) (ty := .int) (C := R_Reader) (by decide +kernel) rfl (Nat.le_of_ble_eq_true rfl) ?_
  intro p e s m args below meth c A Q H ls hx hb hml hown hw hE hA hP hD hS ret hl
  have hl : lv_has ls 5 [(0, .ref rd)] := hl
  have J_30 : ∀ (x1_30 : Int32) (at2_30 : Int32) (H : Heap) (locs : List Loc), va_P G.1 vwCl [(rd, .inr (3, [.ref tr, .ref t, .int at2_30])), (tr, .inr (1, [.ref ta, .int tsz])), (ta, .inl (G.2.1 0, 1000, .inl tf))] H → va_D A [(rd, .inr (3, [.ref tr, .ref t, .int at2_30])), (tr, .inr (1, [.ref ta, .int tsz])), (ta, .inl (G.2.1 0, 1000, .inl tf))] → va_S A s.heap H locs → ∀ ls : Array Slot, lv_has ls 5 [(1, .int x1_30), (0, .ref rd)] → W p l e rm_Reader_escaped s m args below meth c H locs 0 0 Q (F0 m 30 ls []) := by
    intro x1_30 at2_30 H locs hP hD hS ls hl
    refine lv_aload_n hx hb d_Reader_escaped_30 rfl (lv_at hl 1 rfl) ?_
    refine lv_dup hx hb d_Reader_escaped_31 rfl ?_
    refine va_get (D := G.1) (ci := 3) (v := .int at2_30) (C := R_Reader) (T := F_Reader) (N := 3) hx hb hw i_Reader hown hE.1 hP 0 rfl rfl 2 (by decide) (hw _ m_117) (fun _ h9 => h9) rfl d_Reader_escaped_32 ?_
    refine lv_iconst (v := 1) hx hb d_Reader_escaped_35 (by decide) ?_
    refine lv_iadd hx hb d_Reader_escaped_36 ?_
    refine lv_topi (fun y_1 ey_1 => ?_)
    refine va_put (D := G.1) (ci := 3) (v := .int y_1) (ty := .int) (C := R_Reader) (T := F_Reader) (N := 3) hx hb hw i_Reader t_Reader t_Reader_ok n_Reader hown hE.1 hP hD hS 0 rfl rfl 2 (by decide) (hw _ m_117) (fun _ h9 => h9) rfl (by decide +kernel) rfl rfl (Nat.le_of_ble_eq_true rfl) d_Reader_escaped_37 (fun H locs hP hD hS => ?_)
    have hP : va_P G.1 vwCl [(rd, .inr (3, [.ref tr, .ref t, .int y_1])), (tr, .inr (1, [.ref ta, .int tsz])), (ta, .inl (G.2.1 0, 1000, .inl tf))] H := hP
    have hD : va_D A [(rd, .inr (3, [.ref tr, .ref t, .int y_1])), (tr, .inr (1, [.ref ta, .int tsz])), (ta, .inl (G.2.1 0, 1000, .inl tf))] := hD
    refine lv_iload_n hx hb d_Reader_escaped_40 rfl (lv_at hl 0 rfl) ?_
    exact ret x1_30 (y_1) (Nat.le_of_ble_eq_true rfl) (Nat.le_of_ble_eq_true rfl) d_Reader_escaped_41 rfl trivial (hP.sub [0, 1, 2] rfl) (hD.sub [0, 1, 2] (by decide) rfl) hS
  refine lv_aload_n hx hb d_Reader_escaped_0 rfl (lv_at hl 0 rfl) ?_
  refine va_get (D := G.1) (ci := 3) (v := .ref tr) (C := R_Reader) (T := F_Reader) (N := 3) hx hb hw i_Reader hown hE.1 hP 0 rfl rfl 0 (by decide) (hw _ m_115) (fun _ h9 => h9) rfl d_Reader_escaped_1 ?_
  refine lv_aload_n hx hb d_Reader_escaped_4 rfl (lv_at hl 0 rfl) ?_
  refine va_get (D := G.1) (ci := 3) (v := .int at0) (C := R_Reader) (T := F_Reader) (N := 3) hx hb hw i_Reader hown hE.1 hP 0 rfl rfl 2 (by decide) (hw _ m_117) (fun _ h9 => h9) rfl d_Reader_escaped_5 ?_
  refine gc_i (wr := [(rd, .inr (3, [.ref tr, .ref t, .int at0]))]) (gc_V (wc := [(tr, .inr (1, [.ref ta, .int tsz])), (ta, .inl (G.2.1 0, 1000, .inl tf))]) (As := [.int at0]) (rest := []) ⟨hx, hb, hml, hown, hw⟩ (c_Row_get l G tr ta 1000 tsz tf at0 (by decide) htp H.size) (cwV 1 hw (good_V m_143 m_144 m_145 m_2 m_146) rfl rfl rfl hy_Row_get ⟨Nat.le_of_ble_eq_true rfl, Nat.le_of_ble_eq_true rfl⟩) hE hP hD hS hA (va_recv hE.1 hP (ci := 1) (q0 := 1) rfl rfl) [1, 2] rfl (by decide) rfl hl rfl (Nat.le_of_ble_eq_true rfl) d_Reader_escaped_8 ⟨Nat.le_of_ble_eq_true rfl, Nat.le_of_ble_eq_true rfl⟩) hP hD hS hA [1, 2] [0] rfl rfl (by decide) (by decide) (fun r_2 u_3 H locs hw_4 hP hD hS => ?_)
  have hP : va_P G.1 vwCl [(rd, .inr (3, [.ref tr, .ref t, .int at0])), (tr, .inr (1, [.ref ta, .int tsz])), (ta, .inl (G.2.1 0, 1000, .inl tf))] H := hP
  have hD : va_D A [(rd, .inr (3, [.ref tr, .ref t, .int at0])), (tr, .inr (1, [.ref ta, .int tsz])), (ta, .inl (G.2.1 0, 1000, .inl tf))] := hD
  refine lv_istore_n (lv' := [(1, .int r_2), (0, .ref rd)]) hx hb d_Reader_escaped_11 rfl hl (by decide) rfl (fun ls hl => ?_)
  refine lv_iload_n hx hb d_Reader_escaped_12 rfl (lv_at hl 0 rfl) ?_
  refine lv_bipush (v := 40) hx hb d_Reader_escaped_13 (by decide) ?_
  refine lv_icmp_eq (tgt := 30) hx hb d_Reader_escaped_15 (by decide) (fun c_5 => ?_) (fun c_5 => ?_)
  · exact J_30 r_2 at0 _ _ (hP.sub [0, 1, 2] rfl) (hD.sub [0, 1, 2] (by decide) rfl) hS _ (lv_sub hl [0, 1] rfl)
  · refine lv_iload_n hx hb d_Reader_escaped_18 rfl (lv_at hl 0 rfl) ?_
    refine lv_bipush (v := 41) hx hb d_Reader_escaped_19 (by decide) ?_
    refine lv_icmp_eq (tgt := 30) hx hb d_Reader_escaped_21 (by decide) (fun c_6 => ?_) (fun c_6 => ?_)
    · exact J_30 r_2 at0 _ _ (hP.sub [0, 1, 2] rfl) (hD.sub [0, 1, 2] (by decide) rfl) hS _ (lv_sub hl [0, 1] rfl)
    · refine lv_iload_n hx hb d_Reader_escaped_24 rfl (lv_at hl 0 rfl) ?_
      refine lv_bipush (v := 92) hx hb d_Reader_escaped_25 (by decide) ?_
      refine lv_icmp_ne (tgt := 42) hx hb d_Reader_escaped_27 (by decide) (fun c_7 => ?_) (fun c_7 => ?_)
      · refine lv_aload_n hx hb d_Reader_escaped_42 rfl (lv_at hl 1 rfl) ?_
        refine lv_aload_n hx hb d_Reader_escaped_43 rfl (lv_at hl 1 rfl) ?_
        refine va_get (D := G.1) (ci := 3) (v := .int at0) (C := R_Reader) (T := F_Reader) (N := 3) hx hb hw i_Reader hown hE.1 hP 0 rfl rfl 2 (by decide) (hw _ m_117) (fun _ h9 => h9) rfl d_Reader_escaped_44 ?_
        refine gc_i (wr := []) (gc_V (wc := [(rd, .inr (3, [.ref tr, .ref t, .int at0])), (tr, .inr (1, [.ref ta, .int tsz])), (ta, .inl (G.2.1 0, 1000, .inl tf))]) (As := [.int at0]) (rest := []) ⟨hx, hb, hml, hown, hw⟩ (c_Reader_octalDigit l G rd t at0 tr ta tsz tf at0 htp H.size) (cwV 1 hw (good_V m_182 m_184 ms_6 m_5 m_185) rfl rfl rfl hy_Reader_octalDigit ⟨Nat.le_of_ble_eq_true rfl, Nat.le_of_ble_eq_true rfl⟩) hE hP hD hS hA (va_recv hE.1 hP (ci := 3) (q0 := 0) rfl rfl) [0, 1, 2] rfl (by decide) rfl hl rfl (Nat.le_of_ble_eq_true rfl) d_Reader_escaped_47 ⟨Nat.le_of_ble_eq_true rfl, Nat.le_of_ble_eq_true rfl⟩) hP hD hS hA [0, 1, 2] [] rfl rfl (by decide) (by decide) (fun r_8 u_9 H locs hw_10 hP hD hS => ?_)
        have hP : va_P G.1 vwCl [(rd, .inr (3, [.ref tr, .ref t, .int at0])), (tr, .inr (1, [.ref ta, .int tsz])), (ta, .inl (G.2.1 0, 1000, .inl tf))] H := hP
        have hD : va_D A [(rd, .inr (3, [.ref tr, .ref t, .int at0])), (tr, .inr (1, [.ref ta, .int tsz])), (ta, .inl (G.2.1 0, 1000, .inl tf))] := hD
        refine lv_istore_n (lv' := [(2, .int r_8), (1, .int r_2), (0, .ref rd)]) hx hb d_Reader_escaped_50 rfl hl (by decide) rfl (fun ls hl => ?_)
        refine lv_aload_n hx hb d_Reader_escaped_51 rfl (lv_at hl 2 rfl) ?_
        refine lv_aload_n hx hb d_Reader_escaped_52 rfl (lv_at hl 2 rfl) ?_
        refine va_get (D := G.1) (ci := 3) (v := .int at0) (C := R_Reader) (T := F_Reader) (N := 3) hx hb hw i_Reader hown hE.1 hP 0 rfl rfl 2 (by decide) (hw _ m_117) (fun _ h9 => h9) rfl d_Reader_escaped_53 ?_
        refine lv_iconst (v := 1) hx hb d_Reader_escaped_56 (by decide) ?_
        refine lv_iadd hx hb d_Reader_escaped_57 ?_
        refine lv_topi (fun y_11 ey_11 => ?_)
        refine gc_i (wr := []) (gc_V (wc := [(rd, .inr (3, [.ref tr, .ref t, .int at0])), (tr, .inr (1, [.ref ta, .int tsz])), (ta, .inl (G.2.1 0, 1000, .inl tf))]) (As := [.int y_11]) (rest := []) ⟨hx, hb, hml, hown, hw⟩ (c_Reader_octalDigit l G rd t at0 tr ta tsz tf y_11 htp H.size) (cwV 1 hw (good_V m_182 m_184 ms_6 m_5 m_185) rfl rfl rfl hy_Reader_octalDigit ⟨Nat.le_of_ble_eq_true rfl, Nat.le_of_ble_eq_true rfl⟩) hE hP hD hS hA (va_recv hE.1 hP (ci := 3) (q0 := 0) rfl rfl) [0, 1, 2] rfl (by decide) rfl hl rfl (Nat.le_of_ble_eq_true rfl) d_Reader_escaped_58 ⟨Nat.le_of_ble_eq_true rfl, Nat.le_of_ble_eq_true rfl⟩) hP hD hS hA [0, 1, 2] [] rfl rfl (by decide) (by decide) (fun r_12 u_13 H locs hw_14 hP hD hS => ?_)
        have hP : va_P G.1 vwCl [(rd, .inr (3, [.ref tr, .ref t, .int at0])), (tr, .inr (1, [.ref ta, .int tsz])), (ta, .inl (G.2.1 0, 1000, .inl tf))] H := hP
        have hD : va_D A [(rd, .inr (3, [.ref tr, .ref t, .int at0])), (tr, .inr (1, [.ref ta, .int tsz])), (ta, .inl (G.2.1 0, 1000, .inl tf))] := hD
        refine lv_istore_n (lv' := [(3, .int r_12), (2, .int r_8), (1, .int r_2), (0, .ref rd)]) hx hb d_Reader_escaped_61 rfl hl (by decide) rfl (fun ls hl => ?_)
        refine lv_aload_n hx hb d_Reader_escaped_62 rfl (lv_at hl 3 rfl) ?_
        refine lv_aload_n hx hb d_Reader_escaped_63 rfl (lv_at hl 3 rfl) ?_
        refine va_get (D := G.1) (ci := 3) (v := .int at0) (C := R_Reader) (T := F_Reader) (N := 3) hx hb hw i_Reader hown hE.1 hP 0 rfl rfl 2 (by decide) (hw _ m_117) (fun _ h9 => h9) rfl d_Reader_escaped_64 ?_
        refine lv_iconst (v := 2) hx hb d_Reader_escaped_67 (by decide) ?_
        refine lv_iadd hx hb d_Reader_escaped_68 ?_
        refine lv_topi (fun y_15 ey_15 => ?_)
        refine gc_i (wr := []) (gc_V (wc := [(rd, .inr (3, [.ref tr, .ref t, .int at0])), (tr, .inr (1, [.ref ta, .int tsz])), (ta, .inl (G.2.1 0, 1000, .inl tf))]) (As := [.int y_15]) (rest := []) ⟨hx, hb, hml, hown, hw⟩ (c_Reader_octalDigit l G rd t at0 tr ta tsz tf y_15 htp H.size) (cwV 1 hw (good_V m_182 m_184 ms_6 m_5 m_185) rfl rfl rfl hy_Reader_octalDigit ⟨Nat.le_of_ble_eq_true rfl, Nat.le_of_ble_eq_true rfl⟩) hE hP hD hS hA (va_recv hE.1 hP (ci := 3) (q0 := 0) rfl rfl) [0, 1, 2] rfl (by decide) rfl hl rfl (Nat.le_of_ble_eq_true rfl) d_Reader_escaped_69 ⟨Nat.le_of_ble_eq_true rfl, Nat.le_of_ble_eq_true rfl⟩) hP hD hS hA [0, 1, 2] [] rfl rfl (by decide) (by decide) (fun r_16 u_17 H locs hw_18 hP hD hS => ?_)
        have hP : va_P G.1 vwCl [(rd, .inr (3, [.ref tr, .ref t, .int at0])), (tr, .inr (1, [.ref ta, .int tsz])), (ta, .inl (G.2.1 0, 1000, .inl tf))] H := hP
        have hD : va_D A [(rd, .inr (3, [.ref tr, .ref t, .int at0])), (tr, .inr (1, [.ref ta, .int tsz])), (ta, .inl (G.2.1 0, 1000, .inl tf))] := hD
        refine lv_istore (lv' := [(4, .int r_16), (3, .int r_12), (2, .int r_8), (1, .int r_2), (0, .ref rd)]) hx hb d_Reader_escaped_72 hl (by decide) rfl (fun ls hl => ?_)
        refine lv_iload_n hx hb d_Reader_escaped_74 rfl (lv_at hl 2 rfl) ?_
        refine lv_if_lt (tgt := 92) hx hb d_Reader_escaped_75 (by decide) (fun c_19 => ?_) (fun c_19 => ?_)
        · refine lv_iconst (v := (-1)) hx hb d_Reader_escaped_92 (by decide) ?_
          exact ret (-1) (at0) (Nat.le_of_ble_eq_true rfl) (Nat.le_of_ble_eq_true rfl) d_Reader_escaped_93 rfl trivial (hP.sub [0, 1, 2] rfl) (hD.sub [0, 1, 2] (by decide) rfl) hS
        · refine lv_iload_n hx hb d_Reader_escaped_78 rfl (lv_at hl 2 rfl) ?_
          refine lv_iconst (v := 3) hx hb d_Reader_escaped_79 (by decide) ?_
          refine lv_icmp_gt (tgt := 92) hx hb d_Reader_escaped_80 (by decide) (fun c_20 => ?_) (fun c_20 => ?_)
          · refine lv_iconst (v := (-1)) hx hb d_Reader_escaped_92 (by decide) ?_
            exact ret (-1) (at0) (Nat.le_of_ble_eq_true rfl) (Nat.le_of_ble_eq_true rfl) d_Reader_escaped_93 rfl trivial (hP.sub [0, 1, 2] rfl) (hD.sub [0, 1, 2] (by decide) rfl) hS
          · refine lv_iload_n hx hb d_Reader_escaped_83 rfl (lv_at hl 1 rfl) ?_
            refine lv_if_lt (tgt := 92) hx hb d_Reader_escaped_84 (by decide) (fun c_21 => ?_) (fun c_21 => ?_)
            · refine lv_iconst (v := (-1)) hx hb d_Reader_escaped_92 (by decide) ?_
              exact ret (-1) (at0) (Nat.le_of_ble_eq_true rfl) (Nat.le_of_ble_eq_true rfl) d_Reader_escaped_93 rfl trivial (hP.sub [0, 1, 2] rfl) (hD.sub [0, 1, 2] (by decide) rfl) hS
            · refine lv_iload hx hb d_Reader_escaped_87 (lv_at hl 0 rfl) ?_
              refine lv_if_ge (tgt := 94) hx hb d_Reader_escaped_89 (by decide) (fun c_22 => ?_) (fun c_22 => ?_)
              · refine lv_aload_n hx hb d_Reader_escaped_94 rfl (lv_at hl 4 rfl) ?_
                refine lv_dup hx hb d_Reader_escaped_95 rfl ?_
                refine va_get (D := G.1) (ci := 3) (v := .int at0) (C := R_Reader) (T := F_Reader) (N := 3) hx hb hw i_Reader hown hE.1 hP 0 rfl rfl 2 (by decide) (hw _ m_117) (fun _ h9 => h9) rfl d_Reader_escaped_96 ?_
                refine lv_iconst (v := 3) hx hb d_Reader_escaped_99 (by decide) ?_
                refine lv_iadd hx hb d_Reader_escaped_100 ?_
                refine lv_topi (fun y_23 ey_23 => ?_)
                refine va_put (D := G.1) (ci := 3) (v := .int y_23) (ty := .int) (C := R_Reader) (T := F_Reader) (N := 3) hx hb hw i_Reader t_Reader t_Reader_ok n_Reader hown hE.1 hP hD hS 0 rfl rfl 2 (by decide) (hw _ m_117) (fun _ h9 => h9) rfl (by decide +kernel) rfl rfl (Nat.le_of_ble_eq_true rfl) d_Reader_escaped_101 (fun H locs hP hD hS => ?_)
                have hP : va_P G.1 vwCl [(rd, .inr (3, [.ref tr, .ref t, .int y_23])), (tr, .inr (1, [.ref ta, .int tsz])), (ta, .inl (G.2.1 0, 1000, .inl tf))] H := hP
                have hD : va_D A [(rd, .inr (3, [.ref tr, .ref t, .int y_23])), (tr, .inr (1, [.ref ta, .int tsz])), (ta, .inl (G.2.1 0, 1000, .inl tf))] := hD
                refine lv_iload_n hx hb d_Reader_escaped_104 rfl (lv_at hl 2 rfl) ?_
                refine lv_bipush (v := 64) hx hb d_Reader_escaped_105 (by decide) ?_
                refine lv_imul hx hb d_Reader_escaped_107 ?_
                refine lv_topi (fun y_24 ey_24 => ?_)
                refine lv_iload_n hx hb d_Reader_escaped_108 rfl (lv_at hl 1 rfl) ?_
                refine lv_bipush (v := 8) hx hb d_Reader_escaped_109 (by decide) ?_
                refine lv_imul hx hb d_Reader_escaped_111 ?_
                refine lv_topi (fun y_25 ey_25 => ?_)
                refine lv_iadd hx hb d_Reader_escaped_112 ?_
                refine lv_topi (fun y_26 ey_26 => ?_)
                refine lv_iload hx hb d_Reader_escaped_113 (lv_at hl 0 rfl) ?_
                refine lv_iadd hx hb d_Reader_escaped_115 ?_
                refine lv_topi (fun y_27 ey_27 => ?_)
                exact ret y_27 (y_23) (Nat.le_of_ble_eq_true rfl) (Nat.le_of_ble_eq_true rfl) d_Reader_escaped_116 rfl trivial (hP.sub [0, 1, 2] rfl) (hD.sub [0, 1, 2] (by decide) rfl) hS
              · refine lv_iconst (v := (-1)) hx hb d_Reader_escaped_92 (by decide) ?_
                exact ret (-1) (at0) (Nat.le_of_ble_eq_true rfl) (Nat.le_of_ble_eq_true rfl) d_Reader_escaped_93 rfl trivial (hP.sub [0, 1, 2] rfl) (hD.sub [0, 1, 2] (by decide) rfl) hS
      · exact J_30 r_2 at0 _ _ (hP.sub [0, 1, 2] rfl) (hD.sub [0, 1, 2] (by decide) rfl) hS _ (lv_sub hl [0, 1] rfl)
def rm_Reader_name : Room := { frames := 2, cells := 0, slots := 0, locals := 45 }
set_option maxHeartbeats 4000000 in
set_option maxRecDepth 100000 in
theorem c_Reader_name (l : Launch) (G : GG) (rd : Nat) (at0 : Int32) (tr : Nat) (ta : Nat) (tsz : Int32) (tf : Nat → Int32) (t : Nat) (ka : Nat) (na : Nat) (ga : Nat) (sa : Nat) (xr : Nat) (xa : Nat) (kf : Nat → Int32) (nf : Nat → Int32) (gf : Nat → Int32) (sf : Nat → Int32) (size : Int32) (xsz : Int32) (xf : Nat → Int32) (htp : RowOk 1000 tsz) (hs : RowOk 1000 size) (hxs : RowOk 1000 xsz) : MI l y_Reader_name b_Reader_name 2 .boolean rm_Reader_name G [.ref rd] [(rd, .inr (3, [.ref tr, .ref t, .int at0])), (tr, .inr (1, [.ref ta, .int tsz])), (ta, .inl (G.2.1 0, 1000, .inl tf)), (t, .inr (2, [.ref ka, .ref na, .ref ga, .ref sa, .ref xr, .int size])), (ka, .inl (G.2.1 0, 1000, .inl kf)), (na, .inl (G.2.1 1, 1000, .inl nf)), (ga, .inl (G.2.1 1, 1000, .inl gf)), (sa, .inl (G.2.1 1, 1000, .inl sf)), (xr, .inr (1, [.ref xa, .int xsz])), (xa, .inl (G.2.1 0, 1000, .inl xf))] (fun (v : Int32) (u : Int32 × (Nat → Int32) × (Nat → Int32) × (Nat → Int32) × (Nat → Int32) × Int32 × Int32 × (Nat → Int32)) => (RowOk 1000 u.2.2.2.2.2.1) ∧ (RowOk 1000 u.2.2.2.2.2.2.1) ∧ (v = 0 ∨ v = 1)) (fun (u : Int32 × (Nat → Int32) × (Nat → Int32) × (Nat → Int32) × (Nat → Int32) × Int32 × Int32 × (Nat → Int32)) => [(rd, .inr (3, [.ref tr, .ref t, .int u.1])), (tr, .inr (1, [.ref ta, .int tsz])), (ta, .inl (G.2.1 0, 1000, .inl tf)), (t, .inr (2, [.ref ka, .ref na, .ref ga, .ref sa, .ref xr, .int u.2.2.2.2.2.1])), (ka, .inl (G.2.1 0, 1000, .inl u.2.1)), (na, .inl (G.2.1 1, 1000, .inl u.2.2.1)), (ga, .inl (G.2.1 1, 1000, .inl u.2.2.2.1)), (sa, .inl (G.2.1 1, 1000, .inl u.2.2.2.2.1)), (xr, .inr (1, [.ref xa, .int u.2.2.2.2.2.2.1])), (xa, .inl (G.2.1 0, 1000, .inl u.2.2.2.2.2.2.2))]) 0 0 := by
  refine MI.of (cc := b_Reader_name) (maxL := 2) (ty := .boolean) (C := R_Reader) (by decide +kernel) rfl (Nat.le_of_ble_eq_true rfl) ?_
  intro p e s m args below meth c A Q H ls hx hb hml hown hw hE hA hP hD hS ret hl
  have hl : lv_has ls 2 [(0, .ref rd)] := hl
  refine lv_aload_n hx hb d_Reader_name_0 rfl (lv_at hl 0 rfl) ?_
  refine lv_dup hx hb d_Reader_name_1 rfl ?_
  refine va_get (D := G.1) (ci := 3) (v := .int at0) (C := R_Reader) (T := F_Reader) (N := 3) hx hb hw i_Reader hown hE.1 hP 0 rfl rfl 2 (by decide) (hw _ m_117) (fun _ h9 => h9) rfl d_Reader_name_2 ?_
  refine lv_iconst (v := 1) hx hb d_Reader_name_5 (by decide) ?_
  refine lv_iadd hx hb d_Reader_name_6 ?_
  refine lv_topi (fun y_1 ey_1 => ?_)
  refine va_put (D := G.1) (ci := 3) (v := .int y_1) (ty := .int) (C := R_Reader) (T := F_Reader) (N := 3) hx hb hw i_Reader t_Reader t_Reader_ok n_Reader hown hE.1 hP hD hS 0 rfl rfl 2 (by decide) (hw _ m_117) (fun _ h9 => h9) rfl (by decide +kernel) rfl rfl (Nat.le_of_ble_eq_true rfl) d_Reader_name_7 (fun H locs hP hD hS => ?_)
  have hP : va_P G.1 vwCl [(rd, .inr (3, [.ref tr, .ref t, .int y_1])), (tr, .inr (1, [.ref ta, .int tsz])), (ta, .inl (G.2.1 0, 1000, .inl tf)), (t, .inr (2, [.ref ka, .ref na, .ref ga, .ref sa, .ref xr, .int size])), (ka, .inl (G.2.1 0, 1000, .inl kf)), (na, .inl (G.2.1 1, 1000, .inl nf)), (ga, .inl (G.2.1 1, 1000, .inl gf)), (sa, .inl (G.2.1 1, 1000, .inl sf)), (xr, .inr (1, [.ref xa, .int xsz])), (xa, .inl (G.2.1 0, 1000, .inl xf))] H := hP
  have hD : va_D A [(rd, .inr (3, [.ref tr, .ref t, .int y_1])), (tr, .inr (1, [.ref ta, .int tsz])), (ta, .inl (G.2.1 0, 1000, .inl tf)), (t, .inr (2, [.ref ka, .ref na, .ref ga, .ref sa, .ref xr, .int size])), (ka, .inl (G.2.1 0, 1000, .inl kf)), (na, .inl (G.2.1 1, 1000, .inl nf)), (ga, .inl (G.2.1 1, 1000, .inl gf)), (sa, .inl (G.2.1 1, 1000, .inl sf)), (xr, .inr (1, [.ref xa, .int xsz])), (xa, .inl (G.2.1 0, 1000, .inl xf))] := hD
  refine lv_aload_n hx hb d_Reader_name_10 rfl (lv_at hl 0 rfl) ?_
  refine lv_aload_n hx hb d_Reader_name_11 rfl (lv_at hl 0 rfl) ?_
  refine va_get (D := G.1) (ci := 3) (v := .int y_1) (C := R_Reader) (T := F_Reader) (N := 3) hx hb hw i_Reader hown hE.1 hP 0 rfl rfl 2 (by decide) (hw _ m_117) (fun _ h9 => h9) rfl d_Reader_name_12 ?_
  refine gc_i (wr := [(t, .inr (2, [.ref ka, .ref na, .ref ga, .ref sa, .ref xr, .int size])), (ka, .inl (G.2.1 0, 1000, .inl kf)), (na, .inl (G.2.1 1, 1000, .inl nf)), (ga, .inl (G.2.1 1, 1000, .inl gf)), (sa, .inl (G.2.1 1, 1000, .inl sf)), (xr, .inr (1, [.ref xa, .int xsz])), (xa, .inl (G.2.1 0, 1000, .inl xf))]) (gc_V (wc := [(rd, .inr (3, [.ref tr, .ref t, .int y_1])), (tr, .inr (1, [.ref ta, .int tsz])), (ta, .inl (G.2.1 0, 1000, .inl tf))]) (As := [.int y_1]) (rest := []) ⟨hx, hb, hml, hown, hw⟩ (c_Reader_wordLength l G rd t y_1 tr ta tsz tf y_1 htp H.size) (cwV 1 hw (good_V m_154 m_156 ms_3 m_5 m_157) rfl rfl rfl hy_Reader_wordLength ⟨Nat.le_of_ble_eq_true rfl, Nat.le_of_ble_eq_true rfl⟩) hE hP hD hS hA (va_recv hE.1 hP (ci := 3) (q0 := 0) rfl rfl) [0, 1, 2] rfl (by decide) rfl hl rfl (Nat.le_of_ble_eq_true rfl) d_Reader_name_15 ⟨Nat.le_of_ble_eq_true rfl, Nat.le_of_ble_eq_true rfl⟩) hP hD hS hA [0, 1, 2] [3, 4, 5, 6, 7, 8, 9] rfl rfl (by decide) (by decide) (fun r_2 u_3 H locs hw_4 hP hD hS => ?_)
  have hP : va_P G.1 vwCl [(t, .inr (2, [.ref ka, .ref na, .ref ga, .ref sa, .ref xr, .int size])), (ka, .inl (G.2.1 0, 1000, .inl kf)), (na, .inl (G.2.1 1, 1000, .inl nf)), (ga, .inl (G.2.1 1, 1000, .inl gf)), (sa, .inl (G.2.1 1, 1000, .inl sf)), (xr, .inr (1, [.ref xa, .int xsz])), (xa, .inl (G.2.1 0, 1000, .inl xf)), (rd, .inr (3, [.ref tr, .ref t, .int y_1])), (tr, .inr (1, [.ref ta, .int tsz])), (ta, .inl (G.2.1 0, 1000, .inl tf))] H := hP
  have hD : va_D A [(t, .inr (2, [.ref ka, .ref na, .ref ga, .ref sa, .ref xr, .int size])), (ka, .inl (G.2.1 0, 1000, .inl kf)), (na, .inl (G.2.1 1, 1000, .inl nf)), (ga, .inl (G.2.1 1, 1000, .inl gf)), (sa, .inl (G.2.1 1, 1000, .inl sf)), (xr, .inr (1, [.ref xa, .int xsz])), (xa, .inl (G.2.1 0, 1000, .inl xf)), (rd, .inr (3, [.ref tr, .ref t, .int y_1])), (tr, .inr (1, [.ref ta, .int tsz])), (ta, .inl (G.2.1 0, 1000, .inl tf))] := hD
  refine lv_istore_n (lv' := [(1, .int r_2), (0, .ref rd)]) hx hb d_Reader_name_18 rfl hl (by decide) rfl (fun ls hl => ?_)
  refine lv_iload_n hx hb d_Reader_name_19 rfl (lv_at hl 0 rfl) ?_
  refine lv_bipush (v := 20) hx hb d_Reader_name_20 (by decide) ?_
  refine lv_icmp_le (tgt := 27) hx hb d_Reader_name_22 (by decide) (fun c_5 => ?_) (fun c_5 => ?_)
  · refine lv_aload_n hx hb d_Reader_name_27 rfl (lv_at hl 1 rfl) ?_
    refine va_get (D := G.1) (ci := 3) (v := .ref t) (C := R_Reader) (T := F_Reader) (N := 3) hx hb hw i_Reader hown hE.1 hP 7 rfl rfl 1 (by decide) (hw _ m_116) (fun _ h9 => h9) rfl d_Reader_name_28 ?_
    refine lv_iconst (v := 4) hx hb d_Reader_name_31 (by decide) ?_
    refine lv_iload_n hx hb d_Reader_name_32 rfl (lv_at hl 0 rfl) ?_
    refine lv_aload_n hx hb d_Reader_name_33 rfl (lv_at hl 1 rfl) ?_
    refine va_get (D := G.1) (ci := 3) (v := .ref t) (C := R_Reader) (T := F_Reader) (N := 3) hx hb hw i_Reader hown hE.1 hP 7 rfl rfl 1 (by decide) (hw _ m_116) (fun _ h9 => h9) rfl d_Reader_name_34 ?_
    refine gc_r (wr := [(rd, .inr (3, [.ref tr, .ref t, .int y_1])), (tr, .inr (1, [.ref ta, .int tsz])), (ta, .inl (G.2.1 0, 1000, .inl tf))]) (gc_V (wc := [(t, .inr (2, [.ref ka, .ref na, .ref ga, .ref sa, .ref xr, .int size])), (ka, .inl (G.2.1 0, 1000, .inl kf)), (na, .inl (G.2.1 1, 1000, .inl nf)), (ga, .inl (G.2.1 1, 1000, .inl gf)), (sa, .inl (G.2.1 1, 1000, .inl sf)), (xr, .inr (1, [.ref xa, .int xsz])), (xa, .inl (G.2.1 0, 1000, .inl xf))]) (As := []) (rest := [.int r_2, .int 4, .ref t]) ⟨hx, hb, hml, hown, hw⟩ (c_Tree_text l G t ka na ga sa xr xa kf nf gf sf size xsz xf hs hxs H.size) (cwV 0 hw (good_V m_161 m_162 m_163 m_3 m_164) rfl rfl rfl hy_Tree_text ⟨Nat.le_of_ble_eq_true rfl, Nat.le_of_ble_eq_true rfl⟩) hE hP hD hS hA (va_recv hE.1 hP (ci := 2) (q0 := 0) rfl rfl) [0, 1, 2, 3, 4, 5, 6] rfl (by decide) rfl hl rfl (Nat.le_of_ble_eq_true rfl) d_Reader_name_37 ⟨Nat.le_of_ble_eq_true rfl, Nat.le_of_ble_eq_true rfl⟩) hP hD hS hA [0, 1, 2, 3, 4, 5, 6] [7, 8, 9] rfl rfl (by decide) (by decide) (fun r_6 u_7 H locs hw_8 hP hD hS => ?_)
    try dsimp only at hw_8
    have h_9 := hw_8
    subst h_9
    have hP : va_P G.1 vwCl [(rd, .inr (3, [.ref tr, .ref t, .int y_1])), (tr, .inr (1, [.ref ta, .int tsz])), (ta, .inl (G.2.1 0, 1000, .inl tf)), (t, .inr (2, [.ref ka, .ref na, .ref ga, .ref sa, .ref xr, .int size])), (ka, .inl (G.2.1 0, 1000, .inl kf)), (na, .inl (G.2.1 1, 1000, .inl nf)), (ga, .inl (G.2.1 1, 1000, .inl gf)), (sa, .inl (G.2.1 1, 1000, .inl sf)), (xr, .inr (1, [.ref xa, .int xsz])), (xa, .inl (G.2.1 0, 1000, .inl xf))] H := hP
    have hD : va_D A [(rd, .inr (3, [.ref tr, .ref t, .int y_1])), (tr, .inr (1, [.ref ta, .int tsz])), (ta, .inl (G.2.1 0, 1000, .inl tf)), (t, .inr (2, [.ref ka, .ref na, .ref ga, .ref sa, .ref xr, .int size])), (ka, .inl (G.2.1 0, 1000, .inl kf)), (na, .inl (G.2.1 1, 1000, .inl nf)), (ga, .inl (G.2.1 1, 1000, .inl gf)), (sa, .inl (G.2.1 1, 1000, .inl sf)), (xr, .inr (1, [.ref xa, .int xsz])), (xa, .inl (G.2.1 0, 1000, .inl xf))] := hD
    refine gc_i (wr := [(rd, .inr (3, [.ref tr, .ref t, .int y_1])), (tr, .inr (1, [.ref ta, .int tsz])), (ta, .inl (G.2.1 0, 1000, .inl tf)), (t, .inr (2, [.ref ka, .ref na, .ref ga, .ref sa, .ref xr, .int size])), (ka, .inl (G.2.1 0, 1000, .inl kf)), (na, .inl (G.2.1 1, 1000, .inl nf)), (ga, .inl (G.2.1 1, 1000, .inl gf)), (sa, .inl (G.2.1 1, 1000, .inl sf))]) (gc_V (wc := [(xr, .inr (1, [.ref xa, .int xsz])), (xa, .inl (G.2.1 0, 1000, .inl xf))]) (As := []) (rest := [.int r_2, .int 4, .ref t]) ⟨hx, hb, hml, hown, hw⟩ (c_Row_size l G xr xa 1000 xsz xf (by decide) hxs H.size) (cwV 0 hw (good_V m_142 m_86 m_87 m_2 m_88) rfl rfl rfl hy_Row_size ⟨Nat.le_of_ble_eq_true rfl, Nat.le_of_ble_eq_true rfl⟩) hE hP hD hS hA (va_recv hE.1 hP (ci := 1) (q0 := 8) rfl rfl) [8, 9] rfl (by decide) rfl hl rfl (Nat.le_of_ble_eq_true rfl) d_Reader_name_40 ⟨Nat.le_of_ble_eq_true rfl, Nat.le_of_ble_eq_true rfl⟩) hP hD hS hA [8, 9] [0, 1, 2, 3, 4, 5, 6, 7] rfl rfl (by decide) (by decide) (fun r_10 u_11 H locs hw_12 hP hD hS => ?_)
    try dsimp only at hw_12
    have h_13 := hw_12
    subst h_13
    have hP : va_P G.1 vwCl [(rd, .inr (3, [.ref tr, .ref t, .int y_1])), (tr, .inr (1, [.ref ta, .int tsz])), (ta, .inl (G.2.1 0, 1000, .inl tf)), (t, .inr (2, [.ref ka, .ref na, .ref ga, .ref sa, .ref xr, .int size])), (ka, .inl (G.2.1 0, 1000, .inl kf)), (na, .inl (G.2.1 1, 1000, .inl nf)), (ga, .inl (G.2.1 1, 1000, .inl gf)), (sa, .inl (G.2.1 1, 1000, .inl sf)), (xr, .inr (1, [.ref xa, .int xsz])), (xa, .inl (G.2.1 0, 1000, .inl xf))] H := hP
    have hD : va_D A [(rd, .inr (3, [.ref tr, .ref t, .int y_1])), (tr, .inr (1, [.ref ta, .int tsz])), (ta, .inl (G.2.1 0, 1000, .inl tf)), (t, .inr (2, [.ref ka, .ref na, .ref ga, .ref sa, .ref xr, .int size])), (ka, .inl (G.2.1 0, 1000, .inl kf)), (na, .inl (G.2.1 1, 1000, .inl nf)), (ga, .inl (G.2.1 1, 1000, .inl gf)), (sa, .inl (G.2.1 1, 1000, .inl sf)), (xr, .inr (1, [.ref xa, .int xsz])), (xa, .inl (G.2.1 0, 1000, .inl xf))] := hD
    refine gc_i (wr := [(rd, .inr (3, [.ref tr, .ref t, .int y_1])), (tr, .inr (1, [.ref ta, .int tsz])), (ta, .inl (G.2.1 0, 1000, .inl tf))]) (gc_V (wc := [(t, .inr (2, [.ref ka, .ref na, .ref ga, .ref sa, .ref xr, .int size])), (ka, .inl (G.2.1 0, 1000, .inl kf)), (na, .inl (G.2.1 1, 1000, .inl nf)), (ga, .inl (G.2.1 1, 1000, .inl gf)), (sa, .inl (G.2.1 1, 1000, .inl sf)), (xr, .inr (1, [.ref xa, .int xsz])), (xa, .inl (G.2.1 0, 1000, .inl xf))]) (As := [.int 4, .int r_2, .int xsz]) (rest := []) ⟨hx, hb, hml, hown, hw⟩ (c_Tree_add l G t ka na ga sa xr xa kf nf gf sf size xsz xf 4 r_2 xsz hs hxs H.size) (cwV 3 hw (good_V m_165 m_166 m_167 m_3 m_168) rfl rfl rfl hy_Tree_add ⟨Nat.le_of_ble_eq_true rfl, Nat.le_of_ble_eq_true rfl⟩) hE hP hD hS hA (va_recv hE.1 hP (ci := 2) (q0 := 3) rfl rfl) [3, 4, 5, 6, 7, 8, 9] rfl (by decide) rfl hl rfl (Nat.le_of_ble_eq_true rfl) d_Reader_name_43 ⟨Nat.le_of_ble_eq_true rfl, Nat.le_of_ble_eq_true rfl⟩) hP hD hS hA [3, 4, 5, 6, 7, 8, 9] [0, 1, 2] rfl rfl (by decide) (by decide) (fun r_14 u_15 H locs hw_16 hP hD hS => ?_)
    obtain ⟨kf2_17, nf2_18, gf2_19, sf2_20, size2_21⟩ := u_15
    try dsimp only at hw_16
    have h_22 := hw_16
    have hP : va_P G.1 vwCl [(rd, .inr (3, [.ref tr, .ref t, .int y_1])), (tr, .inr (1, [.ref ta, .int tsz])), (ta, .inl (G.2.1 0, 1000, .inl tf)), (t, .inr (2, [.ref ka, .ref na, .ref ga, .ref sa, .ref xr, .int size2_21])), (ka, .inl (G.2.1 0, 1000, .inl kf2_17)), (na, .inl (G.2.1 1, 1000, .inl nf2_18)), (ga, .inl (G.2.1 1, 1000, .inl gf2_19)), (sa, .inl (G.2.1 1, 1000, .inl sf2_20)), (xr, .inr (1, [.ref xa, .int xsz])), (xa, .inl (G.2.1 0, 1000, .inl xf))] H := hP
    have hD : va_D A [(rd, .inr (3, [.ref tr, .ref t, .int y_1])), (tr, .inr (1, [.ref ta, .int tsz])), (ta, .inl (G.2.1 0, 1000, .inl tf)), (t, .inr (2, [.ref ka, .ref na, .ref ga, .ref sa, .ref xr, .int size2_21])), (ka, .inl (G.2.1 0, 1000, .inl kf2_17)), (na, .inl (G.2.1 1, 1000, .inl nf2_18)), (ga, .inl (G.2.1 1, 1000, .inl gf2_19)), (sa, .inl (G.2.1 1, 1000, .inl sf2_20)), (xr, .inr (1, [.ref xa, .int xsz])), (xa, .inl (G.2.1 0, 1000, .inl xf))] := hD
    refine lv_pop hx hb d_Reader_name_46 rfl ?_
    refine lv_aload_n hx hb d_Reader_name_47 rfl (lv_at hl 1 rfl) ?_
    refine va_get (D := G.1) (ci := 3) (v := .ref t) (C := R_Reader) (T := F_Reader) (N := 3) hx hb hw i_Reader hown hE.1 hP 0 rfl rfl 1 (by decide) (hw _ m_116) (fun _ h9 => h9) rfl d_Reader_name_48 ?_
    refine gc_r (wr := [(rd, .inr (3, [.ref tr, .ref t, .int y_1])), (tr, .inr (1, [.ref ta, .int tsz])), (ta, .inl (G.2.1 0, 1000, .inl tf))]) (gc_V (wc := [(t, .inr (2, [.ref ka, .ref na, .ref ga, .ref sa, .ref xr, .int size2_21])), (ka, .inl (G.2.1 0, 1000, .inl kf2_17)), (na, .inl (G.2.1 1, 1000, .inl nf2_18)), (ga, .inl (G.2.1 1, 1000, .inl gf2_19)), (sa, .inl (G.2.1 1, 1000, .inl sf2_20)), (xr, .inr (1, [.ref xa, .int xsz])), (xa, .inl (G.2.1 0, 1000, .inl xf))]) (As := []) (rest := []) ⟨hx, hb, hml, hown, hw⟩ (c_Tree_text l G t ka na ga sa xr xa kf2_17 nf2_18 gf2_19 sf2_20 size2_21 xsz xf h_22 hxs H.size) (cwV 0 hw (good_V m_161 m_162 m_163 m_3 m_164) rfl rfl rfl hy_Tree_text ⟨Nat.le_of_ble_eq_true rfl, Nat.le_of_ble_eq_true rfl⟩) hE hP hD hS hA (va_recv hE.1 hP (ci := 2) (q0 := 3) rfl rfl) [3, 4, 5, 6, 7, 8, 9] rfl (by decide) rfl hl rfl (Nat.le_of_ble_eq_true rfl) d_Reader_name_51 ⟨Nat.le_of_ble_eq_true rfl, Nat.le_of_ble_eq_true rfl⟩) hP hD hS hA [3, 4, 5, 6, 7, 8, 9] [0, 1, 2] rfl rfl (by decide) (by decide) (fun r_23 u_24 H locs hw_25 hP hD hS => ?_)
    try dsimp only at hw_25
    have h_26 := hw_25
    subst h_26
    have hP : va_P G.1 vwCl [(rd, .inr (3, [.ref tr, .ref t, .int y_1])), (tr, .inr (1, [.ref ta, .int tsz])), (ta, .inl (G.2.1 0, 1000, .inl tf)), (t, .inr (2, [.ref ka, .ref na, .ref ga, .ref sa, .ref xr, .int size2_21])), (ka, .inl (G.2.1 0, 1000, .inl kf2_17)), (na, .inl (G.2.1 1, 1000, .inl nf2_18)), (ga, .inl (G.2.1 1, 1000, .inl gf2_19)), (sa, .inl (G.2.1 1, 1000, .inl sf2_20)), (xr, .inr (1, [.ref xa, .int xsz])), (xa, .inl (G.2.1 0, 1000, .inl xf))] H := hP
    have hD : va_D A [(rd, .inr (3, [.ref tr, .ref t, .int y_1])), (tr, .inr (1, [.ref ta, .int tsz])), (ta, .inl (G.2.1 0, 1000, .inl tf)), (t, .inr (2, [.ref ka, .ref na, .ref ga, .ref sa, .ref xr, .int size2_21])), (ka, .inl (G.2.1 0, 1000, .inl kf2_17)), (na, .inl (G.2.1 1, 1000, .inl nf2_18)), (ga, .inl (G.2.1 1, 1000, .inl gf2_19)), (sa, .inl (G.2.1 1, 1000, .inl sf2_20)), (xr, .inr (1, [.ref xa, .int xsz])), (xa, .inl (G.2.1 0, 1000, .inl xf))] := hD
    refine lv_aload_n hx hb d_Reader_name_54 rfl (lv_at hl 1 rfl) ?_
    refine va_get (D := G.1) (ci := 3) (v := .ref tr) (C := R_Reader) (T := F_Reader) (N := 3) hx hb hw i_Reader hown hE.1 hP 0 rfl rfl 0 (by decide) (hw _ m_115) (fun _ h9 => h9) rfl d_Reader_name_55 ?_
    refine lv_aload_n hx hb d_Reader_name_58 rfl (lv_at hl 1 rfl) ?_
    refine va_get (D := G.1) (ci := 3) (v := .int y_1) (C := R_Reader) (T := F_Reader) (N := 3) hx hb hw i_Reader hown hE.1 hP 0 rfl rfl 2 (by decide) (hw _ m_117) (fun _ h9 => h9) rfl d_Reader_name_59 ?_
    refine lv_iload_n hx hb d_Reader_name_62 rfl (lv_at hl 0 rfl) ?_
    refine gc_v (wr := [(rd, .inr (3, [.ref tr, .ref t, .int y_1])), (t, .inr (2, [.ref ka, .ref na, .ref ga, .ref sa, .ref xr, .int size2_21])), (ka, .inl (G.2.1 0, 1000, .inl kf2_17)), (na, .inl (G.2.1 1, 1000, .inl nf2_18)), (ga, .inl (G.2.1 1, 1000, .inl gf2_19)), (sa, .inl (G.2.1 1, 1000, .inl sf2_20))]) (gc_V (wc := [(xr, .inr (1, [.ref xa, .int xsz])), (xa, .inl (G.2.1 0, 1000, .inl xf)), (tr, .inr (1, [.ref ta, .int tsz])), (ta, .inl (G.2.1 0, 1000, .inl tf))]) (As := [.ref tr, .int y_1, .int r_2]) (rest := []) ⟨hx, hb, hml, hown, hw⟩ (c_Row_addFrom l G xr xa 1000 xsz xf tr ta 1000 tsz tf y_1 r_2 (by decide) hxs (by decide) htp H.size) (cwV 3 hw (good_V m_169 m_170 m_171 m_2 m_172) rfl rfl rfl hy_Row_addFrom ⟨Nat.le_of_ble_eq_true rfl, Nat.le_of_ble_eq_true rfl⟩) hE hP hD hS hA (va_recv hE.1 hP (ci := 1) (q0 := 8) rfl rfl) [8, 9, 1, 2] rfl (by decide) rfl hl rfl (Nat.le_of_ble_eq_true rfl) d_Reader_name_63 ⟨Nat.le_of_ble_eq_true rfl, Nat.le_of_ble_eq_true rfl⟩) hP hD hS hA [8, 9, 1, 2] [0, 3, 4, 5, 6, 7] rfl rfl (by decide) (by decide) (fun u_28 H locs hw_29 hP hD hS => ?_)
    obtain ⟨sz2_30, f2_31⟩ := u_28
    try dsimp only at hw_29
    have h_32 := hw_29
    have hP : va_P G.1 vwCl [(rd, .inr (3, [.ref tr, .ref t, .int y_1])), (t, .inr (2, [.ref ka, .ref na, .ref ga, .ref sa, .ref xr, .int size2_21])), (ka, .inl (G.2.1 0, 1000, .inl kf2_17)), (na, .inl (G.2.1 1, 1000, .inl nf2_18)), (ga, .inl (G.2.1 1, 1000, .inl gf2_19)), (sa, .inl (G.2.1 1, 1000, .inl sf2_20)), (xr, .inr (1, [.ref xa, .int sz2_30])), (xa, .inl (G.2.1 0, 1000, .inl f2_31)), (tr, .inr (1, [.ref ta, .int tsz])), (ta, .inl (G.2.1 0, 1000, .inl tf))] H := hP
    have hD : va_D A [(rd, .inr (3, [.ref tr, .ref t, .int y_1])), (t, .inr (2, [.ref ka, .ref na, .ref ga, .ref sa, .ref xr, .int size2_21])), (ka, .inl (G.2.1 0, 1000, .inl kf2_17)), (na, .inl (G.2.1 1, 1000, .inl nf2_18)), (ga, .inl (G.2.1 1, 1000, .inl gf2_19)), (sa, .inl (G.2.1 1, 1000, .inl sf2_20)), (xr, .inr (1, [.ref xa, .int sz2_30])), (xa, .inl (G.2.1 0, 1000, .inl f2_31)), (tr, .inr (1, [.ref ta, .int tsz])), (ta, .inl (G.2.1 0, 1000, .inl tf))] := hD
    refine lv_aload_n hx hb d_Reader_name_66 rfl (lv_at hl 1 rfl) ?_
    refine lv_dup hx hb d_Reader_name_67 rfl ?_
    refine va_get (D := G.1) (ci := 3) (v := .int y_1) (C := R_Reader) (T := F_Reader) (N := 3) hx hb hw i_Reader hown hE.1 hP 0 rfl rfl 2 (by decide) (hw _ m_117) (fun _ h9 => h9) rfl d_Reader_name_68 ?_
    refine lv_iload_n hx hb d_Reader_name_71 rfl (lv_at hl 0 rfl) ?_
    refine lv_iadd hx hb d_Reader_name_72 ?_
    refine lv_topi (fun y_33 ey_33 => ?_)
    refine va_put (D := G.1) (ci := 3) (v := .int y_33) (ty := .int) (C := R_Reader) (T := F_Reader) (N := 3) hx hb hw i_Reader t_Reader t_Reader_ok n_Reader hown hE.1 hP hD hS 0 rfl rfl 2 (by decide) (hw _ m_117) (fun _ h9 => h9) rfl (by decide +kernel) rfl rfl (Nat.le_of_ble_eq_true rfl) d_Reader_name_73 (fun H locs hP hD hS => ?_)
    have hP : va_P G.1 vwCl [(rd, .inr (3, [.ref tr, .ref t, .int y_33])), (t, .inr (2, [.ref ka, .ref na, .ref ga, .ref sa, .ref xr, .int size2_21])), (ka, .inl (G.2.1 0, 1000, .inl kf2_17)), (na, .inl (G.2.1 1, 1000, .inl nf2_18)), (ga, .inl (G.2.1 1, 1000, .inl gf2_19)), (sa, .inl (G.2.1 1, 1000, .inl sf2_20)), (xr, .inr (1, [.ref xa, .int sz2_30])), (xa, .inl (G.2.1 0, 1000, .inl f2_31)), (tr, .inr (1, [.ref ta, .int tsz])), (ta, .inl (G.2.1 0, 1000, .inl tf))] H := hP
    have hD : va_D A [(rd, .inr (3, [.ref tr, .ref t, .int y_33])), (t, .inr (2, [.ref ka, .ref na, .ref ga, .ref sa, .ref xr, .int size2_21])), (ka, .inl (G.2.1 0, 1000, .inl kf2_17)), (na, .inl (G.2.1 1, 1000, .inl nf2_18)), (ga, .inl (G.2.1 1, 1000, .inl gf2_19)), (sa, .inl (G.2.1 1, 1000, .inl sf2_20)), (xr, .inr (1, [.ref xa, .int sz2_30])), (xa, .inl (G.2.1 0, 1000, .inl f2_31)), (tr, .inr (1, [.ref ta, .int tsz])), (ta, .inl (G.2.1 0, 1000, .inl tf))] := hD
    refine lv_iconst (v := 1) hx hb d_Reader_name_76 (by decide) ?_
    exact ret 1 (y_33, kf2_17, nf2_18, gf2_19, sf2_20, size2_21, sz2_30, f2_31) (Nat.le_of_ble_eq_true rfl) (Nat.le_of_ble_eq_true rfl) d_Reader_name_77 rfl ⟨h_22, h_32, (by first | assumption | decide)⟩ (hP.sub [0, 8, 9, 1, 2, 3, 4, 5, 6, 7] rfl) (hD.sub [0, 8, 9, 1, 2, 3, 4, 5, 6, 7] (by decide) rfl) hS
  · refine lv_iconst (v := 0) hx hb d_Reader_name_25 (by decide) ?_
    exact ret 0 (y_1, kf, nf, gf, sf, size, xsz, xf) (Nat.le_of_ble_eq_true rfl) (Nat.le_of_ble_eq_true rfl) d_Reader_name_26 rfl ⟨hs, hxs, (by first | assumption | decide)⟩ (hP.sub [7, 8, 9, 0, 1, 2, 3, 4, 5, 6] rfl) (hD.sub [7, 8, 9, 0, 1, 2, 3, 4, 5, 6] (by decide) rfl) hS
def rm_Reader_plainString : Room := { frames := 3, cells := 0, slots := 0, locals := 67 }
set_option maxHeartbeats 4000000 in
set_option maxRecDepth 100000 in
theorem c_Reader_plainString (l : Launch) (G : GG) (rd : Nat) (at0 : Int32) (tr : Nat) (ta : Nat) (tsz : Int32) (tf : Nat → Int32) (t : Nat) (ka : Nat) (na : Nat) (ga : Nat) (sa : Nat) (xr : Nat) (xa : Nat) (kf : Nat → Int32) (nf : Nat → Int32) (gf : Nat → Int32) (sf : Nat → Int32) (size : Int32) (xsz : Int32) (xf : Nat → Int32) (htp : RowOk 1000 tsz) (hs : RowOk 1000 size) (hxs : RowOk 1000 xsz) : MI l y_Reader_plainString b_Reader_plainString 4 .boolean rm_Reader_plainString G [.ref rd] [(rd, .inr (3, [.ref tr, .ref t, .int at0])), (tr, .inr (1, [.ref ta, .int tsz])), (ta, .inl (G.2.1 0, 1000, .inl tf)), (t, .inr (2, [.ref ka, .ref na, .ref ga, .ref sa, .ref xr, .int size])), (ka, .inl (G.2.1 0, 1000, .inl kf)), (na, .inl (G.2.1 1, 1000, .inl nf)), (ga, .inl (G.2.1 1, 1000, .inl gf)), (sa, .inl (G.2.1 1, 1000, .inl sf)), (xr, .inr (1, [.ref xa, .int xsz])), (xa, .inl (G.2.1 0, 1000, .inl xf))] (fun (v : Int32) (u : Int32 × (Nat → Int32) × (Nat → Int32) × (Nat → Int32) × (Nat → Int32) × Int32 × Int32 × (Nat → Int32)) => (RowOk 1000 u.2.2.2.2.2.1) ∧ (RowOk 1000 u.2.2.2.2.2.2.1) ∧ (v = 0 ∨ v = 1)) (fun (u : Int32 × (Nat → Int32) × (Nat → Int32) × (Nat → Int32) × (Nat → Int32) × Int32 × Int32 × (Nat → Int32)) => [(rd, .inr (3, [.ref tr, .ref t, .int u.1])), (tr, .inr (1, [.ref ta, .int tsz])), (ta, .inl (G.2.1 0, 1000, .inl tf)), (t, .inr (2, [.ref ka, .ref na, .ref ga, .ref sa, .ref xr, .int u.2.2.2.2.2.1])), (ka, .inl (G.2.1 0, 1000, .inl u.2.1)), (na, .inl (G.2.1 1, 1000, .inl u.2.2.1)), (ga, .inl (G.2.1 1, 1000, .inl u.2.2.2.1)), (sa, .inl (G.2.1 1, 1000, .inl u.2.2.2.2.1)), (xr, .inr (1, [.ref xa, .int u.2.2.2.2.2.2.1])), (xa, .inl (G.2.1 0, 1000, .inl u.2.2.2.2.2.2.2))]) 0 0 := by
  refine MI.of (cc := b_Reader_plainString) (maxL := 4) (ty := .boolean) (C := R_Reader) (by decide +kernel) rfl (Nat.le_of_ble_eq_true rfl) ?_
  intro p e s m args below meth c A Q H ls hx hb hml hown hw hE hA hP hD hS ret hl
  have hl : lv_has ls 4 [(0, .ref rd)] := hl
  have J_23 : ∀ (fu : Nat) (x2_23 : Int32) (at2_23 : Int32) (kf2_23 : Nat → Int32) (nf2_23 : Nat → Int32) (gf2_23 : Nat → Int32) (sf2_23 : Nat → Int32) (size2_23 : Int32) (xsz2_23 : Int32) (xf2_23 : Nat → Int32) (hj0_23 : RowOk 1000 size2_23) (hj1_23 : RowOk 1000 xsz2_23), ((100 : Int32).toInt + 1 - x2_23.toInt).toNat < fu → ∀ (H : Heap) (locs : List Loc), va_P G.1 vwCl [(rd, .inr (3, [.ref tr, .ref t, .int at2_23])), (tr, .inr (1, [.ref ta, .int tsz])), (ta, .inl (G.2.1 0, 1000, .inl tf)), (t, .inr (2, [.ref ka, .ref na, .ref ga, .ref sa, .ref xr, .int size2_23])), (ka, .inl (G.2.1 0, 1000, .inl kf2_23)), (na, .inl (G.2.1 1, 1000, .inl nf2_23)), (ga, .inl (G.2.1 1, 1000, .inl gf2_23)), (sa, .inl (G.2.1 1, 1000, .inl sf2_23)), (xr, .inr (1, [.ref xa, .int xsz2_23])), (xa, .inl (G.2.1 0, 1000, .inl xf2_23))] H → va_D A [(rd, .inr (3, [.ref tr, .ref t, .int at2_23])), (tr, .inr (1, [.ref ta, .int tsz])), (ta, .inl (G.2.1 0, 1000, .inl tf)), (t, .inr (2, [.ref ka, .ref na, .ref ga, .ref sa, .ref xr, .int size2_23])), (ka, .inl (G.2.1 0, 1000, .inl kf2_23)), (na, .inl (G.2.1 1, 1000, .inl nf2_23)), (ga, .inl (G.2.1 1, 1000, .inl gf2_23)), (sa, .inl (G.2.1 1, 1000, .inl sf2_23)), (xr, .inr (1, [.ref xa, .int xsz2_23])), (xa, .inl (G.2.1 0, 1000, .inl xf2_23))] → va_S A s.heap H locs → ∀ ls : Array Slot, lv_has ls 4 [(2, .int x2_23), (1, .int xsz), (0, .ref rd)] → W p l e rm_Reader_plainString s m args below meth c H locs 0 0 Q (F0 m 23 ls []) := by
    intro fu
    induction fu with
    | zero =>
      intro x2_23 at2_23 kf2_23 nf2_23 gf2_23 sf2_23 size2_23 xsz2_23 xf2_23 hj0_23 hj1_23 hm
      exact absurd hm (Nat.not_lt_zero _)
    | succ fu ih_23 =>
      intro x2_23 at2_23 kf2_23 nf2_23 gf2_23 sf2_23 size2_23 xsz2_23 xf2_23 hj0_23 hj1_23 hm_23 H locs hP hD hS ls hl
      have J_92 : ∀ (x3_92 : Int32) (at2_92 : Int32) (kf2_92 : Nat → Int32) (nf2_92 : Nat → Int32) (gf2_92 : Nat → Int32) (sf2_92 : Nat → Int32) (size2_92 : Int32) (xsz2_92 : Int32) (xf2_92 : Nat → Int32) (hj0_92 : RowOk 1000 size2_92) (hj1_92 : RowOk 1000 xsz2_92) (hk0_92 : ¬ 100 < x2_23) (H : Heap) (locs : List Loc), va_P G.1 vwCl [(rd, .inr (3, [.ref tr, .ref t, .int at2_92])), (tr, .inr (1, [.ref ta, .int tsz])), (ta, .inl (G.2.1 0, 1000, .inl tf)), (t, .inr (2, [.ref ka, .ref na, .ref ga, .ref sa, .ref xr, .int size2_92])), (ka, .inl (G.2.1 0, 1000, .inl kf2_92)), (na, .inl (G.2.1 1, 1000, .inl nf2_92)), (ga, .inl (G.2.1 1, 1000, .inl gf2_92)), (sa, .inl (G.2.1 1, 1000, .inl sf2_92)), (xr, .inr (1, [.ref xa, .int xsz2_92])), (xa, .inl (G.2.1 0, 1000, .inl xf2_92))] H → va_D A [(rd, .inr (3, [.ref tr, .ref t, .int at2_92])), (tr, .inr (1, [.ref ta, .int tsz])), (ta, .inl (G.2.1 0, 1000, .inl tf)), (t, .inr (2, [.ref ka, .ref na, .ref ga, .ref sa, .ref xr, .int size2_92])), (ka, .inl (G.2.1 0, 1000, .inl kf2_92)), (na, .inl (G.2.1 1, 1000, .inl nf2_92)), (ga, .inl (G.2.1 1, 1000, .inl gf2_92)), (sa, .inl (G.2.1 1, 1000, .inl sf2_92)), (xr, .inr (1, [.ref xa, .int xsz2_92])), (xa, .inl (G.2.1 0, 1000, .inl xf2_92))] → va_S A s.heap H locs → ∀ ls : Array Slot, lv_has ls 4 [(3, .int x3_92), (2, .int x2_23), (1, .int xsz), (0, .ref rd)] → W p l e rm_Reader_plainString s m args below meth c H locs 0 0 Q (F0 m 92 ls []) := by
        intro x3_92 at2_92 kf2_92 nf2_92 gf2_92 sf2_92 size2_92 xsz2_92 xf2_92 hj0_92 hj1_92 hk0_92 H locs hP hD hS ls hl
        refine lv_iload_n hx hb d_Reader_plainString_92 rfl (lv_at hl 0 rfl) ?_
        refine lv_if_ge (tgt := 98) hx hb d_Reader_plainString_93 (by decide) (fun c_1 => ?_) (fun c_1 => ?_)
        · refine lv_aload_n hx hb d_Reader_plainString_98 rfl (lv_at hl 3 rfl) ?_
          refine va_get (D := G.1) (ci := 3) (v := .ref t) (C := R_Reader) (T := F_Reader) (N := 3) hx hb hw i_Reader hown hE.1 hP 0 rfl rfl 1 (by decide) (hw _ m_116) (fun _ h9 => h9) rfl d_Reader_plainString_99 ?_
          refine gc_r (wr := [(rd, .inr (3, [.ref tr, .ref t, .int at2_92])), (tr, .inr (1, [.ref ta, .int tsz])), (ta, .inl (G.2.1 0, 1000, .inl tf))]) (gc_V (wc := [(t, .inr (2, [.ref ka, .ref na, .ref ga, .ref sa, .ref xr, .int size2_92])), (ka, .inl (G.2.1 0, 1000, .inl kf2_92)), (na, .inl (G.2.1 1, 1000, .inl nf2_92)), (ga, .inl (G.2.1 1, 1000, .inl gf2_92)), (sa, .inl (G.2.1 1, 1000, .inl sf2_92)), (xr, .inr (1, [.ref xa, .int xsz2_92])), (xa, .inl (G.2.1 0, 1000, .inl xf2_92))]) (As := []) (rest := []) ⟨hx, hb, hml, hown, hw⟩ (c_Tree_text l G t ka na ga sa xr xa kf2_92 nf2_92 gf2_92 sf2_92 size2_92 xsz2_92 xf2_92 hj0_92 hj1_92 H.size) (cwV 0 hw (good_V m_161 m_162 m_163 m_3 m_164) rfl rfl rfl hy_Tree_text ⟨Nat.le_of_ble_eq_true rfl, Nat.le_of_ble_eq_true rfl⟩) hE hP hD hS hA (va_recv hE.1 hP (ci := 2) (q0 := 3) rfl rfl) [3, 4, 5, 6, 7, 8, 9] rfl (by decide) rfl hl rfl (Nat.le_of_ble_eq_true rfl) d_Reader_plainString_102 ⟨Nat.le_of_ble_eq_true rfl, Nat.le_of_ble_eq_true rfl⟩) hP hD hS hA [3, 4, 5, 6, 7, 8, 9] [0, 1, 2] rfl rfl (by decide) (by decide) (fun r_2 u_3 H locs hw_4 hP hD hS => ?_)
          try dsimp only at hw_4
          have h_5 := hw_4
          subst h_5
          have hP : va_P G.1 vwCl [(rd, .inr (3, [.ref tr, .ref t, .int at2_92])), (tr, .inr (1, [.ref ta, .int tsz])), (ta, .inl (G.2.1 0, 1000, .inl tf)), (t, .inr (2, [.ref ka, .ref na, .ref ga, .ref sa, .ref xr, .int size2_92])), (ka, .inl (G.2.1 0, 1000, .inl kf2_92)), (na, .inl (G.2.1 1, 1000, .inl nf2_92)), (ga, .inl (G.2.1 1, 1000, .inl gf2_92)), (sa, .inl (G.2.1 1, 1000, .inl sf2_92)), (xr, .inr (1, [.ref xa, .int xsz2_92])), (xa, .inl (G.2.1 0, 1000, .inl xf2_92))] H := hP
          have hD : va_D A [(rd, .inr (3, [.ref tr, .ref t, .int at2_92])), (tr, .inr (1, [.ref ta, .int tsz])), (ta, .inl (G.2.1 0, 1000, .inl tf)), (t, .inr (2, [.ref ka, .ref na, .ref ga, .ref sa, .ref xr, .int size2_92])), (ka, .inl (G.2.1 0, 1000, .inl kf2_92)), (na, .inl (G.2.1 1, 1000, .inl nf2_92)), (ga, .inl (G.2.1 1, 1000, .inl gf2_92)), (sa, .inl (G.2.1 1, 1000, .inl sf2_92)), (xr, .inr (1, [.ref xa, .int xsz2_92])), (xa, .inl (G.2.1 0, 1000, .inl xf2_92))] := hD
          refine lv_iload_n hx hb d_Reader_plainString_105 rfl (lv_at hl 0 rfl) ?_
          refine gc_v (wr := [(rd, .inr (3, [.ref tr, .ref t, .int at2_92])), (tr, .inr (1, [.ref ta, .int tsz])), (ta, .inl (G.2.1 0, 1000, .inl tf)), (t, .inr (2, [.ref ka, .ref na, .ref ga, .ref sa, .ref xr, .int size2_92])), (ka, .inl (G.2.1 0, 1000, .inl kf2_92)), (na, .inl (G.2.1 1, 1000, .inl nf2_92)), (ga, .inl (G.2.1 1, 1000, .inl gf2_92)), (sa, .inl (G.2.1 1, 1000, .inl sf2_92))]) (gc_V (wc := [(xr, .inr (1, [.ref xa, .int xsz2_92])), (xa, .inl (G.2.1 0, 1000, .inl xf2_92))]) (As := [.int x3_92]) (rest := []) ⟨hx, hb, hml, hown, hw⟩ (c_Row_add l G xr xa 1000 xsz2_92 xf2_92 x3_92 (by decide) hj1_92 H.size) (cwV 1 hw (good_V m_186 m_94 m_95 m_2 m_96) rfl rfl rfl hy_Row_add ⟨Nat.le_of_ble_eq_true rfl, Nat.le_of_ble_eq_true rfl⟩) hE hP hD hS hA (va_recv hE.1 hP (ci := 1) (q0 := 8) rfl rfl) [8, 9] rfl (by decide) rfl hl rfl (Nat.le_of_ble_eq_true rfl) d_Reader_plainString_106 ⟨Nat.le_of_ble_eq_true rfl, Nat.le_of_ble_eq_true rfl⟩) hP hD hS hA [8, 9] [0, 1, 2, 3, 4, 5, 6, 7] rfl rfl (by decide) (by decide) (fun u_7 H locs hw_8 hP hD hS => ?_)
          obtain ⟨sz2_9, f2_10⟩ := u_7
          try dsimp only at hw_8
          obtain ⟨h_11, h_12⟩ := hw_8
          have hP : va_P G.1 vwCl [(rd, .inr (3, [.ref tr, .ref t, .int at2_92])), (tr, .inr (1, [.ref ta, .int tsz])), (ta, .inl (G.2.1 0, 1000, .inl tf)), (t, .inr (2, [.ref ka, .ref na, .ref ga, .ref sa, .ref xr, .int size2_92])), (ka, .inl (G.2.1 0, 1000, .inl kf2_92)), (na, .inl (G.2.1 1, 1000, .inl nf2_92)), (ga, .inl (G.2.1 1, 1000, .inl gf2_92)), (sa, .inl (G.2.1 1, 1000, .inl sf2_92)), (xr, .inr (1, [.ref xa, .int sz2_9])), (xa, .inl (G.2.1 0, 1000, .inl f2_10))] H := hP
          have hD : va_D A [(rd, .inr (3, [.ref tr, .ref t, .int at2_92])), (tr, .inr (1, [.ref ta, .int tsz])), (ta, .inl (G.2.1 0, 1000, .inl tf)), (t, .inr (2, [.ref ka, .ref na, .ref ga, .ref sa, .ref xr, .int size2_92])), (ka, .inl (G.2.1 0, 1000, .inl kf2_92)), (na, .inl (G.2.1 1, 1000, .inl nf2_92)), (ga, .inl (G.2.1 1, 1000, .inl gf2_92)), (sa, .inl (G.2.1 1, 1000, .inl sf2_92)), (xr, .inr (1, [.ref xa, .int sz2_9])), (xa, .inl (G.2.1 0, 1000, .inl f2_10))] := hD
          obtain ⟨y_13, ey_13⟩ : ∃ y : Int32, y = x2_23 + 1 := ⟨_, rfl⟩
          refine lv_iinc (v := y_13) (lv' := [(2, .int y_13), (3, .int x3_92), (1, .int xsz), (0, .ref rd)]) hx hb d_Reader_plainString_109 hl (k := 1) rfl (by rw [ey_13]; rfl) (by decide) rfl (fun ls hl => ?_)
          refine lv_goto (tgt := 23) hx hb d_Reader_plainString_112 (by decide) ?_
          exact ih_23 y_13 at2_92 kf2_92 nf2_92 gf2_92 sf2_92 size2_92 sz2_9 f2_10 hj0_92 h_11 (ms_upe (B := 100) (by assumption) (by assumption) (by decide) hm_23) _ _ (hP.sub [0, 1, 2, 3, 4, 5, 6, 7, 8, 9] rfl) (hD.sub [0, 1, 2, 3, 4, 5, 6, 7, 8, 9] (by decide) rfl) hS _ (lv_sub hl [0, 2, 3] rfl)
        · refine lv_iconst (v := 0) hx hb d_Reader_plainString_96 (by decide) ?_
          exact ret 0 (at2_92, kf2_92, nf2_92, gf2_92, sf2_92, size2_92, xsz2_92, xf2_92) (Nat.le_of_ble_eq_true rfl) (Nat.le_of_ble_eq_true rfl) d_Reader_plainString_97 rfl ⟨hj0_92, hj1_92, (by first | assumption | decide)⟩ (hP.sub [0, 1, 2, 3, 4, 5, 6, 7, 8, 9] rfl) (hD.sub [0, 1, 2, 3, 4, 5, 6, 7, 8, 9] (by decide) rfl) hS
      refine lv_iload_n hx hb d_Reader_plainString_23 rfl (lv_at hl 0 rfl) ?_
      refine lv_bipush (v := 100) hx hb d_Reader_plainString_24 (by decide) ?_
      refine lv_icmp_gt (tgt := 115) hx hb d_Reader_plainString_26 (by decide) (fun c_14 => ?_) (fun c_14 => ?_)
      · refine lv_iconst (v := 0) hx hb d_Reader_plainString_115 (by decide) ?_
        exact ret 0 (at2_23, kf2_23, nf2_23, gf2_23, sf2_23, size2_23, xsz2_23, xf2_23) (Nat.le_of_ble_eq_true rfl) (Nat.le_of_ble_eq_true rfl) d_Reader_plainString_116 rfl ⟨hj0_23, hj1_23, (by first | assumption | decide)⟩ (hP.sub [0, 1, 2, 3, 4, 5, 6, 7, 8, 9] rfl) (hD.sub [0, 1, 2, 3, 4, 5, 6, 7, 8, 9] (by decide) rfl) hS
      · refine lv_aload_n hx hb d_Reader_plainString_29 rfl (lv_at hl 2 rfl) ?_
        refine va_get (D := G.1) (ci := 3) (v := .ref tr) (C := R_Reader) (T := F_Reader) (N := 3) hx hb hw i_Reader hown hE.1 hP 0 rfl rfl 0 (by decide) (hw _ m_115) (fun _ h9 => h9) rfl d_Reader_plainString_30 ?_
        refine lv_aload_n hx hb d_Reader_plainString_33 rfl (lv_at hl 2 rfl) ?_
        refine va_get (D := G.1) (ci := 3) (v := .int at2_23) (C := R_Reader) (T := F_Reader) (N := 3) hx hb hw i_Reader hown hE.1 hP 0 rfl rfl 2 (by decide) (hw _ m_117) (fun _ h9 => h9) rfl d_Reader_plainString_34 ?_
        refine gc_i (wr := [(rd, .inr (3, [.ref tr, .ref t, .int at2_23])), (t, .inr (2, [.ref ka, .ref na, .ref ga, .ref sa, .ref xr, .int size2_23])), (ka, .inl (G.2.1 0, 1000, .inl kf2_23)), (na, .inl (G.2.1 1, 1000, .inl nf2_23)), (ga, .inl (G.2.1 1, 1000, .inl gf2_23)), (sa, .inl (G.2.1 1, 1000, .inl sf2_23)), (xr, .inr (1, [.ref xa, .int xsz2_23])), (xa, .inl (G.2.1 0, 1000, .inl xf2_23))]) (gc_V (wc := [(tr, .inr (1, [.ref ta, .int tsz])), (ta, .inl (G.2.1 0, 1000, .inl tf))]) (As := [.int at2_23]) (rest := []) ⟨hx, hb, hml, hown, hw⟩ (c_Row_get l G tr ta 1000 tsz tf at2_23 (by decide) htp H.size) (cwV 1 hw (good_V m_143 m_144 m_145 m_2 m_146) rfl rfl rfl hy_Row_get ⟨Nat.le_of_ble_eq_true rfl, Nat.le_of_ble_eq_true rfl⟩) hE hP hD hS hA (va_recv hE.1 hP (ci := 1) (q0 := 1) rfl rfl) [1, 2] rfl (by decide) rfl hl rfl (Nat.le_of_ble_eq_true rfl) d_Reader_plainString_37 ⟨Nat.le_of_ble_eq_true rfl, Nat.le_of_ble_eq_true rfl⟩) hP hD hS hA [1, 2] [0, 3, 4, 5, 6, 7, 8, 9] rfl rfl (by decide) (by decide) (fun r_15 u_16 H locs hw_17 hP hD hS => ?_)
        have hP : va_P G.1 vwCl [(rd, .inr (3, [.ref tr, .ref t, .int at2_23])), (t, .inr (2, [.ref ka, .ref na, .ref ga, .ref sa, .ref xr, .int size2_23])), (ka, .inl (G.2.1 0, 1000, .inl kf2_23)), (na, .inl (G.2.1 1, 1000, .inl nf2_23)), (ga, .inl (G.2.1 1, 1000, .inl gf2_23)), (sa, .inl (G.2.1 1, 1000, .inl sf2_23)), (xr, .inr (1, [.ref xa, .int xsz2_23])), (xa, .inl (G.2.1 0, 1000, .inl xf2_23)), (tr, .inr (1, [.ref ta, .int tsz])), (ta, .inl (G.2.1 0, 1000, .inl tf))] H := hP
        have hD : va_D A [(rd, .inr (3, [.ref tr, .ref t, .int at2_23])), (t, .inr (2, [.ref ka, .ref na, .ref ga, .ref sa, .ref xr, .int size2_23])), (ka, .inl (G.2.1 0, 1000, .inl kf2_23)), (na, .inl (G.2.1 1, 1000, .inl nf2_23)), (ga, .inl (G.2.1 1, 1000, .inl gf2_23)), (sa, .inl (G.2.1 1, 1000, .inl sf2_23)), (xr, .inr (1, [.ref xa, .int xsz2_23])), (xa, .inl (G.2.1 0, 1000, .inl xf2_23)), (tr, .inr (1, [.ref ta, .int tsz])), (ta, .inl (G.2.1 0, 1000, .inl tf))] := hD
        refine lv_istore_n (lv' := [(3, .int r_15), (2, .int x2_23), (1, .int xsz), (0, .ref rd)]) hx hb d_Reader_plainString_40 rfl hl (by decide) rfl (fun ls hl => ?_)
        refine lv_aload_n hx hb d_Reader_plainString_41 rfl (lv_at hl 3 rfl) ?_
        refine lv_dup hx hb d_Reader_plainString_42 rfl ?_
        refine va_get (D := G.1) (ci := 3) (v := .int at2_23) (C := R_Reader) (T := F_Reader) (N := 3) hx hb hw i_Reader hown hE.1 hP 0 rfl rfl 2 (by decide) (hw _ m_117) (fun _ h9 => h9) rfl d_Reader_plainString_43 ?_
        refine lv_iconst (v := 1) hx hb d_Reader_plainString_46 (by decide) ?_
        refine lv_iadd hx hb d_Reader_plainString_47 ?_
        refine lv_topi (fun y_18 ey_18 => ?_)
        refine va_put (D := G.1) (ci := 3) (v := .int y_18) (ty := .int) (C := R_Reader) (T := F_Reader) (N := 3) hx hb hw i_Reader t_Reader t_Reader_ok n_Reader hown hE.1 hP hD hS 0 rfl rfl 2 (by decide) (hw _ m_117) (fun _ h9 => h9) rfl (by decide +kernel) rfl rfl (Nat.le_of_ble_eq_true rfl) d_Reader_plainString_48 (fun H locs hP hD hS => ?_)
        have hP : va_P G.1 vwCl [(rd, .inr (3, [.ref tr, .ref t, .int y_18])), (t, .inr (2, [.ref ka, .ref na, .ref ga, .ref sa, .ref xr, .int size2_23])), (ka, .inl (G.2.1 0, 1000, .inl kf2_23)), (na, .inl (G.2.1 1, 1000, .inl nf2_23)), (ga, .inl (G.2.1 1, 1000, .inl gf2_23)), (sa, .inl (G.2.1 1, 1000, .inl sf2_23)), (xr, .inr (1, [.ref xa, .int xsz2_23])), (xa, .inl (G.2.1 0, 1000, .inl xf2_23)), (tr, .inr (1, [.ref ta, .int tsz])), (ta, .inl (G.2.1 0, 1000, .inl tf))] H := hP
        have hD : va_D A [(rd, .inr (3, [.ref tr, .ref t, .int y_18])), (t, .inr (2, [.ref ka, .ref na, .ref ga, .ref sa, .ref xr, .int size2_23])), (ka, .inl (G.2.1 0, 1000, .inl kf2_23)), (na, .inl (G.2.1 1, 1000, .inl nf2_23)), (ga, .inl (G.2.1 1, 1000, .inl gf2_23)), (sa, .inl (G.2.1 1, 1000, .inl sf2_23)), (xr, .inr (1, [.ref xa, .int xsz2_23])), (xa, .inl (G.2.1 0, 1000, .inl xf2_23)), (tr, .inr (1, [.ref ta, .int tsz])), (ta, .inl (G.2.1 0, 1000, .inl tf))] := hD
        refine lv_iload_n hx hb d_Reader_plainString_51 rfl (lv_at hl 0 rfl) ?_
        refine lv_bipush (v := 41) hx hb d_Reader_plainString_52 (by decide) ?_
        refine lv_icmp_ne (tgt := 70) hx hb d_Reader_plainString_54 (by decide) (fun c_19 => ?_) (fun c_19 => ?_)
        · refine lv_iload_n hx hb d_Reader_plainString_70 rfl (lv_at hl 0 rfl) ?_
          refine lv_bipush (v := 92) hx hb d_Reader_plainString_71 (by decide) ?_
          refine lv_icmp_ne (tgt := 84) hx hb d_Reader_plainString_73 (by decide) (fun c_20 => ?_) (fun c_20 => ?_)
          · refine lv_iload_n hx hb d_Reader_plainString_84 rfl (lv_at hl 0 rfl) ?_
            refine lv_bipush (v := 40) hx hb d_Reader_plainString_85 (by decide) ?_
            refine lv_icmp_ne (tgt := 92) hx hb d_Reader_plainString_87 (by decide) (fun c_21 => ?_) (fun c_21 => ?_)
            · exact J_92 r_15 y_18 kf2_23 nf2_23 gf2_23 sf2_23 size2_23 xsz2_23 xf2_23 hj0_23 hj1_23 (by first | assumption | trivial | (try dsimp only; omega)) _ _ (hP.sub [0, 8, 9, 1, 2, 3, 4, 5, 6, 7] rfl) (hD.sub [0, 8, 9, 1, 2, 3, 4, 5, 6, 7] (by decide) rfl) hS _ (lv_sub hl [0, 1, 2, 3] rfl)
            · refine lv_iconst (v := 0) hx hb d_Reader_plainString_90 (by decide) ?_
              exact ret 0 (y_18, kf2_23, nf2_23, gf2_23, sf2_23, size2_23, xsz2_23, xf2_23) (Nat.le_of_ble_eq_true rfl) (Nat.le_of_ble_eq_true rfl) d_Reader_plainString_91 rfl ⟨hj0_23, hj1_23, (by first | assumption | decide)⟩ (hP.sub [0, 8, 9, 1, 2, 3, 4, 5, 6, 7] rfl) (hD.sub [0, 8, 9, 1, 2, 3, 4, 5, 6, 7] (by decide) rfl) hS
          · refine lv_aload_n hx hb d_Reader_plainString_76 rfl (lv_at hl 3 rfl) ?_
            refine gc_i (wr := [(t, .inr (2, [.ref ka, .ref na, .ref ga, .ref sa, .ref xr, .int size2_23])), (ka, .inl (G.2.1 0, 1000, .inl kf2_23)), (na, .inl (G.2.1 1, 1000, .inl nf2_23)), (ga, .inl (G.2.1 1, 1000, .inl gf2_23)), (sa, .inl (G.2.1 1, 1000, .inl sf2_23)), (xr, .inr (1, [.ref xa, .int xsz2_23])), (xa, .inl (G.2.1 0, 1000, .inl xf2_23))]) (gc_V (wc := [(rd, .inr (3, [.ref tr, .ref t, .int y_18])), (tr, .inr (1, [.ref ta, .int tsz])), (ta, .inl (G.2.1 0, 1000, .inl tf))]) (As := []) (rest := []) ⟨hx, hb, hml, hown, hw⟩ (c_Reader_escaped l G rd t y_18 tr ta tsz tf htp H.size) (cwV 0 hw (good_V m_178 m_180 ms_5 m_5 m_181) rfl rfl rfl hy_Reader_escaped ⟨Nat.le_of_ble_eq_true rfl, Nat.le_of_ble_eq_true rfl⟩) hE hP hD hS hA (va_recv hE.1 hP (ci := 3) (q0 := 0) rfl rfl) [0, 8, 9] rfl (by decide) rfl hl rfl (Nat.le_of_ble_eq_true rfl) d_Reader_plainString_77 ⟨Nat.le_of_ble_eq_true rfl, Nat.le_of_ble_eq_true rfl⟩) hP hD hS hA [0, 8, 9] [1, 2, 3, 4, 5, 6, 7] rfl rfl (by decide) (by decide) (fun r_22 u_23 H locs hw_24 hP hD hS => ?_)
            obtain ⟨at2_25, rfl⟩ : ∃ z, z = u_23 := ⟨_, rfl⟩
            have hP : va_P G.1 vwCl [(t, .inr (2, [.ref ka, .ref na, .ref ga, .ref sa, .ref xr, .int size2_23])), (ka, .inl (G.2.1 0, 1000, .inl kf2_23)), (na, .inl (G.2.1 1, 1000, .inl nf2_23)), (ga, .inl (G.2.1 1, 1000, .inl gf2_23)), (sa, .inl (G.2.1 1, 1000, .inl sf2_23)), (xr, .inr (1, [.ref xa, .int xsz2_23])), (xa, .inl (G.2.1 0, 1000, .inl xf2_23)), (rd, .inr (3, [.ref tr, .ref t, .int at2_25])), (tr, .inr (1, [.ref ta, .int tsz])), (ta, .inl (G.2.1 0, 1000, .inl tf))] H := hP
            have hD : va_D A [(t, .inr (2, [.ref ka, .ref na, .ref ga, .ref sa, .ref xr, .int size2_23])), (ka, .inl (G.2.1 0, 1000, .inl kf2_23)), (na, .inl (G.2.1 1, 1000, .inl nf2_23)), (ga, .inl (G.2.1 1, 1000, .inl gf2_23)), (sa, .inl (G.2.1 1, 1000, .inl sf2_23)), (xr, .inr (1, [.ref xa, .int xsz2_23])), (xa, .inl (G.2.1 0, 1000, .inl xf2_23)), (rd, .inr (3, [.ref tr, .ref t, .int at2_25])), (tr, .inr (1, [.ref ta, .int tsz])), (ta, .inl (G.2.1 0, 1000, .inl tf))] := hD
            refine lv_istore_n (lv' := [(3, .int r_22), (2, .int x2_23), (1, .int xsz), (0, .ref rd)]) hx hb d_Reader_plainString_80 rfl hl (by decide) rfl (fun ls hl => ?_)
            refine lv_goto (tgt := 92) hx hb d_Reader_plainString_81 (by decide) ?_
            exact J_92 r_22 at2_25 kf2_23 nf2_23 gf2_23 sf2_23 size2_23 xsz2_23 xf2_23 hj0_23 hj1_23 (by first | assumption | trivial | (try dsimp only; omega)) _ _ (hP.sub [7, 8, 9, 0, 1, 2, 3, 4, 5, 6] rfl) (hD.sub [7, 8, 9, 0, 1, 2, 3, 4, 5, 6] (by decide) rfl) hS _ (lv_sub hl [0, 1, 2, 3] rfl)
        · refine lv_aload_n hx hb d_Reader_plainString_57 rfl (lv_at hl 3 rfl) ?_
          refine va_get (D := G.1) (ci := 3) (v := .ref t) (C := R_Reader) (T := F_Reader) (N := 3) hx hb hw i_Reader hown hE.1 hP 0 rfl rfl 1 (by decide) (hw _ m_116) (fun _ h9 => h9) rfl d_Reader_plainString_58 ?_
          refine lv_iconst (v := 5) hx hb d_Reader_plainString_61 (by decide) ?_
          refine lv_iload_n hx hb d_Reader_plainString_62 rfl (lv_at hl 1 rfl) ?_
          refine lv_iload_n hx hb d_Reader_plainString_63 rfl (lv_at hl 2 rfl) ?_
          refine gc_i (wr := [(rd, .inr (3, [.ref tr, .ref t, .int y_18])), (tr, .inr (1, [.ref ta, .int tsz])), (ta, .inl (G.2.1 0, 1000, .inl tf))]) (gc_V (wc := [(t, .inr (2, [.ref ka, .ref na, .ref ga, .ref sa, .ref xr, .int size2_23])), (ka, .inl (G.2.1 0, 1000, .inl kf2_23)), (na, .inl (G.2.1 1, 1000, .inl nf2_23)), (ga, .inl (G.2.1 1, 1000, .inl gf2_23)), (sa, .inl (G.2.1 1, 1000, .inl sf2_23)), (xr, .inr (1, [.ref xa, .int xsz2_23])), (xa, .inl (G.2.1 0, 1000, .inl xf2_23))]) (As := [.int 5, .int x2_23, .int xsz]) (rest := []) ⟨hx, hb, hml, hown, hw⟩ (c_Tree_add l G t ka na ga sa xr xa kf2_23 nf2_23 gf2_23 sf2_23 size2_23 xsz2_23 xf2_23 5 x2_23 xsz hj0_23 hj1_23 H.size) (cwV 3 hw (good_V m_165 m_166 m_167 m_3 m_168) rfl rfl rfl hy_Tree_add ⟨Nat.le_of_ble_eq_true rfl, Nat.le_of_ble_eq_true rfl⟩) hE hP hD hS hA (va_recv hE.1 hP (ci := 2) (q0 := 1) rfl rfl) [1, 2, 3, 4, 5, 6, 7] rfl (by decide) rfl hl rfl (Nat.le_of_ble_eq_true rfl) d_Reader_plainString_64 ⟨Nat.le_of_ble_eq_true rfl, Nat.le_of_ble_eq_true rfl⟩) hP hD hS hA [1, 2, 3, 4, 5, 6, 7] [0, 8, 9] rfl rfl (by decide) (by decide) (fun r_26 u_27 H locs hw_28 hP hD hS => ?_)
          obtain ⟨kf2_29, nf2_30, gf2_31, sf2_32, size2_33⟩ := u_27
          try dsimp only at hw_28
          have h_34 := hw_28
          have hP : va_P G.1 vwCl [(rd, .inr (3, [.ref tr, .ref t, .int y_18])), (tr, .inr (1, [.ref ta, .int tsz])), (ta, .inl (G.2.1 0, 1000, .inl tf)), (t, .inr (2, [.ref ka, .ref na, .ref ga, .ref sa, .ref xr, .int size2_33])), (ka, .inl (G.2.1 0, 1000, .inl kf2_29)), (na, .inl (G.2.1 1, 1000, .inl nf2_30)), (ga, .inl (G.2.1 1, 1000, .inl gf2_31)), (sa, .inl (G.2.1 1, 1000, .inl sf2_32)), (xr, .inr (1, [.ref xa, .int xsz2_23])), (xa, .inl (G.2.1 0, 1000, .inl xf2_23))] H := hP
          have hD : va_D A [(rd, .inr (3, [.ref tr, .ref t, .int y_18])), (tr, .inr (1, [.ref ta, .int tsz])), (ta, .inl (G.2.1 0, 1000, .inl tf)), (t, .inr (2, [.ref ka, .ref na, .ref ga, .ref sa, .ref xr, .int size2_33])), (ka, .inl (G.2.1 0, 1000, .inl kf2_29)), (na, .inl (G.2.1 1, 1000, .inl nf2_30)), (ga, .inl (G.2.1 1, 1000, .inl gf2_31)), (sa, .inl (G.2.1 1, 1000, .inl sf2_32)), (xr, .inr (1, [.ref xa, .int xsz2_23])), (xa, .inl (G.2.1 0, 1000, .inl xf2_23))] := hD
          refine lv_pop hx hb d_Reader_plainString_67 rfl ?_
          refine lv_iconst (v := 1) hx hb d_Reader_plainString_68 (by decide) ?_
          exact ret 1 (y_18, kf2_29, nf2_30, gf2_31, sf2_32, size2_33, xsz2_23, xf2_23) (Nat.le_of_ble_eq_true rfl) (Nat.le_of_ble_eq_true rfl) d_Reader_plainString_69 rfl ⟨h_34, hj1_23, (by first | assumption | decide)⟩ (hP.sub [0, 1, 2, 3, 4, 5, 6, 7, 8, 9] rfl) (hD.sub [0, 1, 2, 3, 4, 5, 6, 7, 8, 9] (by decide) rfl) hS
  refine lv_aload_n hx hb d_Reader_plainString_0 rfl (lv_at hl 0 rfl) ?_
  refine lv_dup hx hb d_Reader_plainString_1 rfl ?_
  refine va_get (D := G.1) (ci := 3) (v := .int at0) (C := R_Reader) (T := F_Reader) (N := 3) hx hb hw i_Reader hown hE.1 hP 0 rfl rfl 2 (by decide) (hw _ m_117) (fun _ h9 => h9) rfl d_Reader_plainString_2 ?_
  refine lv_iconst (v := 1) hx hb d_Reader_plainString_5 (by decide) ?_
  refine lv_iadd hx hb d_Reader_plainString_6 ?_
  refine lv_topi (fun y_35 ey_35 => ?_)
  refine va_put (D := G.1) (ci := 3) (v := .int y_35) (ty := .int) (C := R_Reader) (T := F_Reader) (N := 3) hx hb hw i_Reader t_Reader t_Reader_ok n_Reader hown hE.1 hP hD hS 0 rfl rfl 2 (by decide) (hw _ m_117) (fun _ h9 => h9) rfl (by decide +kernel) rfl rfl (Nat.le_of_ble_eq_true rfl) d_Reader_plainString_7 (fun H locs hP hD hS => ?_)
  have hP : va_P G.1 vwCl [(rd, .inr (3, [.ref tr, .ref t, .int y_35])), (tr, .inr (1, [.ref ta, .int tsz])), (ta, .inl (G.2.1 0, 1000, .inl tf)), (t, .inr (2, [.ref ka, .ref na, .ref ga, .ref sa, .ref xr, .int size])), (ka, .inl (G.2.1 0, 1000, .inl kf)), (na, .inl (G.2.1 1, 1000, .inl nf)), (ga, .inl (G.2.1 1, 1000, .inl gf)), (sa, .inl (G.2.1 1, 1000, .inl sf)), (xr, .inr (1, [.ref xa, .int xsz])), (xa, .inl (G.2.1 0, 1000, .inl xf))] H := hP
  have hD : va_D A [(rd, .inr (3, [.ref tr, .ref t, .int y_35])), (tr, .inr (1, [.ref ta, .int tsz])), (ta, .inl (G.2.1 0, 1000, .inl tf)), (t, .inr (2, [.ref ka, .ref na, .ref ga, .ref sa, .ref xr, .int size])), (ka, .inl (G.2.1 0, 1000, .inl kf)), (na, .inl (G.2.1 1, 1000, .inl nf)), (ga, .inl (G.2.1 1, 1000, .inl gf)), (sa, .inl (G.2.1 1, 1000, .inl sf)), (xr, .inr (1, [.ref xa, .int xsz])), (xa, .inl (G.2.1 0, 1000, .inl xf))] := hD
  refine lv_aload_n hx hb d_Reader_plainString_10 rfl (lv_at hl 0 rfl) ?_
  refine va_get (D := G.1) (ci := 3) (v := .ref t) (C := R_Reader) (T := F_Reader) (N := 3) hx hb hw i_Reader hown hE.1 hP 0 rfl rfl 1 (by decide) (hw _ m_116) (fun _ h9 => h9) rfl d_Reader_plainString_11 ?_
  refine gc_r (wr := [(rd, .inr (3, [.ref tr, .ref t, .int y_35])), (tr, .inr (1, [.ref ta, .int tsz])), (ta, .inl (G.2.1 0, 1000, .inl tf))]) (gc_V (wc := [(t, .inr (2, [.ref ka, .ref na, .ref ga, .ref sa, .ref xr, .int size])), (ka, .inl (G.2.1 0, 1000, .inl kf)), (na, .inl (G.2.1 1, 1000, .inl nf)), (ga, .inl (G.2.1 1, 1000, .inl gf)), (sa, .inl (G.2.1 1, 1000, .inl sf)), (xr, .inr (1, [.ref xa, .int xsz])), (xa, .inl (G.2.1 0, 1000, .inl xf))]) (As := []) (rest := []) ⟨hx, hb, hml, hown, hw⟩ (c_Tree_text l G t ka na ga sa xr xa kf nf gf sf size xsz xf hs hxs H.size) (cwV 0 hw (good_V m_161 m_162 m_163 m_3 m_164) rfl rfl rfl hy_Tree_text ⟨Nat.le_of_ble_eq_true rfl, Nat.le_of_ble_eq_true rfl⟩) hE hP hD hS hA (va_recv hE.1 hP (ci := 2) (q0 := 3) rfl rfl) [3, 4, 5, 6, 7, 8, 9] rfl (by decide) rfl hl rfl (Nat.le_of_ble_eq_true rfl) d_Reader_plainString_14 ⟨Nat.le_of_ble_eq_true rfl, Nat.le_of_ble_eq_true rfl⟩) hP hD hS hA [3, 4, 5, 6, 7, 8, 9] [0, 1, 2] rfl rfl (by decide) (by decide) (fun r_36 u_37 H locs hw_38 hP hD hS => ?_)
  try dsimp only at hw_38
  have h_39 := hw_38
  subst h_39
  have hP : va_P G.1 vwCl [(rd, .inr (3, [.ref tr, .ref t, .int y_35])), (tr, .inr (1, [.ref ta, .int tsz])), (ta, .inl (G.2.1 0, 1000, .inl tf)), (t, .inr (2, [.ref ka, .ref na, .ref ga, .ref sa, .ref xr, .int size])), (ka, .inl (G.2.1 0, 1000, .inl kf)), (na, .inl (G.2.1 1, 1000, .inl nf)), (ga, .inl (G.2.1 1, 1000, .inl gf)), (sa, .inl (G.2.1 1, 1000, .inl sf)), (xr, .inr (1, [.ref xa, .int xsz])), (xa, .inl (G.2.1 0, 1000, .inl xf))] H := hP
  have hD : va_D A [(rd, .inr (3, [.ref tr, .ref t, .int y_35])), (tr, .inr (1, [.ref ta, .int tsz])), (ta, .inl (G.2.1 0, 1000, .inl tf)), (t, .inr (2, [.ref ka, .ref na, .ref ga, .ref sa, .ref xr, .int size])), (ka, .inl (G.2.1 0, 1000, .inl kf)), (na, .inl (G.2.1 1, 1000, .inl nf)), (ga, .inl (G.2.1 1, 1000, .inl gf)), (sa, .inl (G.2.1 1, 1000, .inl sf)), (xr, .inr (1, [.ref xa, .int xsz])), (xa, .inl (G.2.1 0, 1000, .inl xf))] := hD
  refine gc_i (wr := [(rd, .inr (3, [.ref tr, .ref t, .int y_35])), (tr, .inr (1, [.ref ta, .int tsz])), (ta, .inl (G.2.1 0, 1000, .inl tf)), (t, .inr (2, [.ref ka, .ref na, .ref ga, .ref sa, .ref xr, .int size])), (ka, .inl (G.2.1 0, 1000, .inl kf)), (na, .inl (G.2.1 1, 1000, .inl nf)), (ga, .inl (G.2.1 1, 1000, .inl gf)), (sa, .inl (G.2.1 1, 1000, .inl sf))]) (gc_V (wc := [(xr, .inr (1, [.ref xa, .int xsz])), (xa, .inl (G.2.1 0, 1000, .inl xf))]) (As := []) (rest := []) ⟨hx, hb, hml, hown, hw⟩ (c_Row_size l G xr xa 1000 xsz xf (by decide) hxs H.size) (cwV 0 hw (good_V m_142 m_86 m_87 m_2 m_88) rfl rfl rfl hy_Row_size ⟨Nat.le_of_ble_eq_true rfl, Nat.le_of_ble_eq_true rfl⟩) hE hP hD hS hA (va_recv hE.1 hP (ci := 1) (q0 := 8) rfl rfl) [8, 9] rfl (by decide) rfl hl rfl (Nat.le_of_ble_eq_true rfl) d_Reader_plainString_17 ⟨Nat.le_of_ble_eq_true rfl, Nat.le_of_ble_eq_true rfl⟩) hP hD hS hA [8, 9] [0, 1, 2, 3, 4, 5, 6, 7] rfl rfl (by decide) (by decide) (fun r_40 u_41 H locs hw_42 hP hD hS => ?_)
  try dsimp only at hw_42
  have h_43 := hw_42
  subst h_43
  have hP : va_P G.1 vwCl [(rd, .inr (3, [.ref tr, .ref t, .int y_35])), (tr, .inr (1, [.ref ta, .int tsz])), (ta, .inl (G.2.1 0, 1000, .inl tf)), (t, .inr (2, [.ref ka, .ref na, .ref ga, .ref sa, .ref xr, .int size])), (ka, .inl (G.2.1 0, 1000, .inl kf)), (na, .inl (G.2.1 1, 1000, .inl nf)), (ga, .inl (G.2.1 1, 1000, .inl gf)), (sa, .inl (G.2.1 1, 1000, .inl sf)), (xr, .inr (1, [.ref xa, .int xsz])), (xa, .inl (G.2.1 0, 1000, .inl xf))] H := hP
  have hD : va_D A [(rd, .inr (3, [.ref tr, .ref t, .int y_35])), (tr, .inr (1, [.ref ta, .int tsz])), (ta, .inl (G.2.1 0, 1000, .inl tf)), (t, .inr (2, [.ref ka, .ref na, .ref ga, .ref sa, .ref xr, .int size])), (ka, .inl (G.2.1 0, 1000, .inl kf)), (na, .inl (G.2.1 1, 1000, .inl nf)), (ga, .inl (G.2.1 1, 1000, .inl gf)), (sa, .inl (G.2.1 1, 1000, .inl sf)), (xr, .inr (1, [.ref xa, .int xsz])), (xa, .inl (G.2.1 0, 1000, .inl xf))] := hD
  refine lv_istore_n (lv' := [(1, .int xsz), (0, .ref rd)]) hx hb d_Reader_plainString_20 rfl hl (by decide) rfl (fun ls hl => ?_)
  refine lv_iconst (v := 0) hx hb d_Reader_plainString_21 (by decide) ?_
  refine lv_istore_n (lv' := [(2, .int 0), (1, .int xsz), (0, .ref rd)]) hx hb d_Reader_plainString_22 rfl hl (by decide) rfl (fun ls hl => ?_)
  exact J_23 _ 0 y_35 kf nf gf sf size xsz xf hs hxs (Nat.lt_succ_self _) _ _ (hP.sub [0, 1, 2, 3, 4, 5, 6, 7, 8, 9] rfl) (hD.sub [0, 1, 2, 3, 4, 5, 6, 7, 8, 9] (by decide) rfl) hS _ (lv_sub hl [0, 1, 2] rfl)
def rm_Reader_hexString : Room := { frames := 2, cells := 0, slots := 0, locals := 43 }
set_option maxHeartbeats 4000000 in
set_option maxRecDepth 100000 in
theorem c_Reader_hexString (l : Launch) (G : GG) (rd : Nat) (at0 : Int32) (tr : Nat) (ta : Nat) (tsz : Int32) (tf : Nat → Int32) (t : Nat) (ka : Nat) (na : Nat) (ga : Nat) (sa : Nat) (xr : Nat) (xa : Nat) (kf : Nat → Int32) (nf : Nat → Int32) (gf : Nat → Int32) (sf : Nat → Int32) (size : Int32) (xsz : Int32) (xf : Nat → Int32) (htp : RowOk 1000 tsz) (hs : RowOk 1000 size) (hxs : RowOk 1000 xsz) : MI l y_Reader_hexString b_Reader_hexString 5 .boolean rm_Reader_hexString G [.ref rd] [(rd, .inr (3, [.ref tr, .ref t, .int at0])), (tr, .inr (1, [.ref ta, .int tsz])), (ta, .inl (G.2.1 0, 1000, .inl tf)), (t, .inr (2, [.ref ka, .ref na, .ref ga, .ref sa, .ref xr, .int size])), (ka, .inl (G.2.1 0, 1000, .inl kf)), (na, .inl (G.2.1 1, 1000, .inl nf)), (ga, .inl (G.2.1 1, 1000, .inl gf)), (sa, .inl (G.2.1 1, 1000, .inl sf)), (xr, .inr (1, [.ref xa, .int xsz])), (xa, .inl (G.2.1 0, 1000, .inl xf))] (fun (v : Int32) (u : Int32 × (Nat → Int32) × (Nat → Int32) × (Nat → Int32) × (Nat → Int32) × Int32 × Int32 × (Nat → Int32)) => (RowOk 1000 u.2.2.2.2.2.1) ∧ (RowOk 1000 u.2.2.2.2.2.2.1) ∧ (v = 0 ∨ v = 1)) (fun (u : Int32 × (Nat → Int32) × (Nat → Int32) × (Nat → Int32) × (Nat → Int32) × Int32 × Int32 × (Nat → Int32)) => [(rd, .inr (3, [.ref tr, .ref t, .int u.1])), (tr, .inr (1, [.ref ta, .int tsz])), (ta, .inl (G.2.1 0, 1000, .inl tf)), (t, .inr (2, [.ref ka, .ref na, .ref ga, .ref sa, .ref xr, .int u.2.2.2.2.2.1])), (ka, .inl (G.2.1 0, 1000, .inl u.2.1)), (na, .inl (G.2.1 1, 1000, .inl u.2.2.1)), (ga, .inl (G.2.1 1, 1000, .inl u.2.2.2.1)), (sa, .inl (G.2.1 1, 1000, .inl u.2.2.2.2.1)), (xr, .inr (1, [.ref xa, .int u.2.2.2.2.2.2.1])), (xa, .inl (G.2.1 0, 1000, .inl u.2.2.2.2.2.2.2))]) 0 0 := by
  refine MI.of (cc := b_Reader_hexString) (maxL := 5) (ty := .boolean) (C := R_Reader) (by decide +kernel) rfl (Nat.le_of_ble_eq_true rfl) ?_
  intro p e s m args below meth c A Q H ls hx hb hml hown hw hE hA hP hD hS ret hl
  have hl : lv_has ls 5 [(0, .ref rd)] := hl
  have J_23 : ∀ (fu : Nat) (x2_23 : Int32) (at2_23 : Int32) (kf2_23 : Nat → Int32) (nf2_23 : Nat → Int32) (gf2_23 : Nat → Int32) (sf2_23 : Nat → Int32) (size2_23 : Int32) (xsz2_23 : Int32) (xf2_23 : Nat → Int32) (hj0_23 : RowOk 1000 size2_23) (hj1_23 : RowOk 1000 xsz2_23), ((100 : Int32).toInt + 1 - x2_23.toInt).toNat < fu → ∀ (H : Heap) (locs : List Loc), va_P G.1 vwCl [(rd, .inr (3, [.ref tr, .ref t, .int at2_23])), (tr, .inr (1, [.ref ta, .int tsz])), (ta, .inl (G.2.1 0, 1000, .inl tf)), (t, .inr (2, [.ref ka, .ref na, .ref ga, .ref sa, .ref xr, .int size2_23])), (ka, .inl (G.2.1 0, 1000, .inl kf2_23)), (na, .inl (G.2.1 1, 1000, .inl nf2_23)), (ga, .inl (G.2.1 1, 1000, .inl gf2_23)), (sa, .inl (G.2.1 1, 1000, .inl sf2_23)), (xr, .inr (1, [.ref xa, .int xsz2_23])), (xa, .inl (G.2.1 0, 1000, .inl xf2_23))] H → va_D A [(rd, .inr (3, [.ref tr, .ref t, .int at2_23])), (tr, .inr (1, [.ref ta, .int tsz])), (ta, .inl (G.2.1 0, 1000, .inl tf)), (t, .inr (2, [.ref ka, .ref na, .ref ga, .ref sa, .ref xr, .int size2_23])), (ka, .inl (G.2.1 0, 1000, .inl kf2_23)), (na, .inl (G.2.1 1, 1000, .inl nf2_23)), (ga, .inl (G.2.1 1, 1000, .inl gf2_23)), (sa, .inl (G.2.1 1, 1000, .inl sf2_23)), (xr, .inr (1, [.ref xa, .int xsz2_23])), (xa, .inl (G.2.1 0, 1000, .inl xf2_23))] → va_S A s.heap H locs → ∀ ls : Array Slot, lv_has ls 5 [(2, .int x2_23), (1, .int xsz), (0, .ref rd)] → W p l e rm_Reader_hexString s m args below meth c H locs 0 0 Q (F0 m 23 ls []) := by
    intro fu
    induction fu with
    | zero =>
      intro x2_23 at2_23 kf2_23 nf2_23 gf2_23 sf2_23 size2_23 xsz2_23 xf2_23 hj0_23 hj1_23 hm
      exact absurd hm (Nat.not_lt_zero _)
    | succ fu ih_23 =>
      intro x2_23 at2_23 kf2_23 nf2_23 gf2_23 sf2_23 size2_23 xsz2_23 xf2_23 hj0_23 hj1_23 hm_23 H locs hP hD hS ls hl
      refine lv_iload_n hx hb d_Reader_hexString_23 rfl (lv_at hl 0 rfl) ?_
      refine lv_bipush (v := 100) hx hb d_Reader_hexString_24 (by decide) ?_
      refine lv_icmp_gt (tgt := 133) hx hb d_Reader_hexString_26 (by decide) (fun c_1 => ?_) (fun c_1 => ?_)
      · refine lv_iconst (v := 0) hx hb d_Reader_hexString_133 (by decide) ?_
        exact ret 0 (at2_23, kf2_23, nf2_23, gf2_23, sf2_23, size2_23, xsz2_23, xf2_23) (Nat.le_of_ble_eq_true rfl) (Nat.le_of_ble_eq_true rfl) d_Reader_hexString_134 rfl ⟨hj0_23, hj1_23, (by first | assumption | decide)⟩ (hP.sub [0, 1, 2, 3, 4, 5, 6, 7, 8, 9] rfl) (hD.sub [0, 1, 2, 3, 4, 5, 6, 7, 8, 9] (by decide) rfl) hS
      · refine lv_aload_n hx hb d_Reader_hexString_29 rfl (lv_at hl 2 rfl) ?_
        refine va_get (D := G.1) (ci := 3) (v := .ref tr) (C := R_Reader) (T := F_Reader) (N := 3) hx hb hw i_Reader hown hE.1 hP 0 rfl rfl 0 (by decide) (hw _ m_115) (fun _ h9 => h9) rfl d_Reader_hexString_30 ?_
        refine lv_aload_n hx hb d_Reader_hexString_33 rfl (lv_at hl 2 rfl) ?_
        refine va_get (D := G.1) (ci := 3) (v := .int at2_23) (C := R_Reader) (T := F_Reader) (N := 3) hx hb hw i_Reader hown hE.1 hP 0 rfl rfl 2 (by decide) (hw _ m_117) (fun _ h9 => h9) rfl d_Reader_hexString_34 ?_
        refine gc_i (wr := [(rd, .inr (3, [.ref tr, .ref t, .int at2_23])), (t, .inr (2, [.ref ka, .ref na, .ref ga, .ref sa, .ref xr, .int size2_23])), (ka, .inl (G.2.1 0, 1000, .inl kf2_23)), (na, .inl (G.2.1 1, 1000, .inl nf2_23)), (ga, .inl (G.2.1 1, 1000, .inl gf2_23)), (sa, .inl (G.2.1 1, 1000, .inl sf2_23)), (xr, .inr (1, [.ref xa, .int xsz2_23])), (xa, .inl (G.2.1 0, 1000, .inl xf2_23))]) (gc_V (wc := [(tr, .inr (1, [.ref ta, .int tsz])), (ta, .inl (G.2.1 0, 1000, .inl tf))]) (As := [.int at2_23]) (rest := []) ⟨hx, hb, hml, hown, hw⟩ (c_Row_get l G tr ta 1000 tsz tf at2_23 (by decide) htp H.size) (cwV 1 hw (good_V m_143 m_144 m_145 m_2 m_146) rfl rfl rfl hy_Row_get ⟨Nat.le_of_ble_eq_true rfl, Nat.le_of_ble_eq_true rfl⟩) hE hP hD hS hA (va_recv hE.1 hP (ci := 1) (q0 := 1) rfl rfl) [1, 2] rfl (by decide) rfl hl rfl (Nat.le_of_ble_eq_true rfl) d_Reader_hexString_37 ⟨Nat.le_of_ble_eq_true rfl, Nat.le_of_ble_eq_true rfl⟩) hP hD hS hA [1, 2] [0, 3, 4, 5, 6, 7, 8, 9] rfl rfl (by decide) (by decide) (fun r_2 u_3 H locs hw_4 hP hD hS => ?_)
        have hP : va_P G.1 vwCl [(rd, .inr (3, [.ref tr, .ref t, .int at2_23])), (t, .inr (2, [.ref ka, .ref na, .ref ga, .ref sa, .ref xr, .int size2_23])), (ka, .inl (G.2.1 0, 1000, .inl kf2_23)), (na, .inl (G.2.1 1, 1000, .inl nf2_23)), (ga, .inl (G.2.1 1, 1000, .inl gf2_23)), (sa, .inl (G.2.1 1, 1000, .inl sf2_23)), (xr, .inr (1, [.ref xa, .int xsz2_23])), (xa, .inl (G.2.1 0, 1000, .inl xf2_23)), (tr, .inr (1, [.ref ta, .int tsz])), (ta, .inl (G.2.1 0, 1000, .inl tf))] H := hP
        have hD : va_D A [(rd, .inr (3, [.ref tr, .ref t, .int at2_23])), (t, .inr (2, [.ref ka, .ref na, .ref ga, .ref sa, .ref xr, .int size2_23])), (ka, .inl (G.2.1 0, 1000, .inl kf2_23)), (na, .inl (G.2.1 1, 1000, .inl nf2_23)), (ga, .inl (G.2.1 1, 1000, .inl gf2_23)), (sa, .inl (G.2.1 1, 1000, .inl sf2_23)), (xr, .inr (1, [.ref xa, .int xsz2_23])), (xa, .inl (G.2.1 0, 1000, .inl xf2_23)), (tr, .inr (1, [.ref ta, .int tsz])), (ta, .inl (G.2.1 0, 1000, .inl tf))] := hD
        refine lv_bipush (v := 62) hx hb d_Reader_hexString_40 (by decide) ?_
        refine lv_icmp_ne (tgt := 68) hx hb d_Reader_hexString_42 (by decide) (fun c_5 => ?_) (fun c_5 => ?_)
        · refine lv_aload_n hx hb d_Reader_hexString_68 rfl (lv_at hl 2 rfl) ?_
          refine lv_aload_n hx hb d_Reader_hexString_69 rfl (lv_at hl 2 rfl) ?_
          refine va_get (D := G.1) (ci := 3) (v := .int at2_23) (C := R_Reader) (T := F_Reader) (N := 3) hx hb hw i_Reader hown hE.1 hP 0 rfl rfl 2 (by decide) (hw _ m_117) (fun _ h9 => h9) rfl d_Reader_hexString_70 ?_
          refine gc_i (wr := [(t, .inr (2, [.ref ka, .ref na, .ref ga, .ref sa, .ref xr, .int size2_23])), (ka, .inl (G.2.1 0, 1000, .inl kf2_23)), (na, .inl (G.2.1 1, 1000, .inl nf2_23)), (ga, .inl (G.2.1 1, 1000, .inl gf2_23)), (sa, .inl (G.2.1 1, 1000, .inl sf2_23)), (xr, .inr (1, [.ref xa, .int xsz2_23])), (xa, .inl (G.2.1 0, 1000, .inl xf2_23))]) (gc_V (wc := [(rd, .inr (3, [.ref tr, .ref t, .int at2_23])), (tr, .inr (1, [.ref ta, .int tsz])), (ta, .inl (G.2.1 0, 1000, .inl tf))]) (As := [.int at2_23]) (rest := []) ⟨hx, hb, hml, hown, hw⟩ (c_Reader_hexDigit l G rd t at2_23 tr ta tsz tf at2_23 htp H.size) (cwV 1 hw (good_V m_227 m_229 ms_10 m_5 m_230) rfl rfl rfl hy_Reader_hexDigit ⟨Nat.le_of_ble_eq_true rfl, Nat.le_of_ble_eq_true rfl⟩) hE hP hD hS hA (va_recv hE.1 hP (ci := 3) (q0 := 0) rfl rfl) [0, 8, 9] rfl (by decide) rfl hl rfl (Nat.le_of_ble_eq_true rfl) d_Reader_hexString_73 ⟨Nat.le_of_ble_eq_true rfl, Nat.le_of_ble_eq_true rfl⟩) hP hD hS hA [0, 8, 9] [1, 2, 3, 4, 5, 6, 7] rfl rfl (by decide) (by decide) (fun r_6 u_7 H locs hw_8 hP hD hS => ?_)
          have hP : va_P G.1 vwCl [(t, .inr (2, [.ref ka, .ref na, .ref ga, .ref sa, .ref xr, .int size2_23])), (ka, .inl (G.2.1 0, 1000, .inl kf2_23)), (na, .inl (G.2.1 1, 1000, .inl nf2_23)), (ga, .inl (G.2.1 1, 1000, .inl gf2_23)), (sa, .inl (G.2.1 1, 1000, .inl sf2_23)), (xr, .inr (1, [.ref xa, .int xsz2_23])), (xa, .inl (G.2.1 0, 1000, .inl xf2_23)), (rd, .inr (3, [.ref tr, .ref t, .int at2_23])), (tr, .inr (1, [.ref ta, .int tsz])), (ta, .inl (G.2.1 0, 1000, .inl tf))] H := hP
          have hD : va_D A [(t, .inr (2, [.ref ka, .ref na, .ref ga, .ref sa, .ref xr, .int size2_23])), (ka, .inl (G.2.1 0, 1000, .inl kf2_23)), (na, .inl (G.2.1 1, 1000, .inl nf2_23)), (ga, .inl (G.2.1 1, 1000, .inl gf2_23)), (sa, .inl (G.2.1 1, 1000, .inl sf2_23)), (xr, .inr (1, [.ref xa, .int xsz2_23])), (xa, .inl (G.2.1 0, 1000, .inl xf2_23)), (rd, .inr (3, [.ref tr, .ref t, .int at2_23])), (tr, .inr (1, [.ref ta, .int tsz])), (ta, .inl (G.2.1 0, 1000, .inl tf))] := hD
          refine lv_istore_n (lv' := [(3, .int r_6), (2, .int x2_23), (1, .int xsz), (0, .ref rd)]) hx hb d_Reader_hexString_76 rfl hl (by decide) rfl (fun ls hl => ?_)
          refine lv_aload_n hx hb d_Reader_hexString_77 rfl (lv_at hl 3 rfl) ?_
          refine lv_aload_n hx hb d_Reader_hexString_78 rfl (lv_at hl 3 rfl) ?_
          refine va_get (D := G.1) (ci := 3) (v := .int at2_23) (C := R_Reader) (T := F_Reader) (N := 3) hx hb hw i_Reader hown hE.1 hP 7 rfl rfl 2 (by decide) (hw _ m_117) (fun _ h9 => h9) rfl d_Reader_hexString_79 ?_
          refine lv_iconst (v := 1) hx hb d_Reader_hexString_82 (by decide) ?_
          refine lv_iadd hx hb d_Reader_hexString_83 ?_
          refine lv_topi (fun y_9 ey_9 => ?_)
          refine gc_i (wr := [(t, .inr (2, [.ref ka, .ref na, .ref ga, .ref sa, .ref xr, .int size2_23])), (ka, .inl (G.2.1 0, 1000, .inl kf2_23)), (na, .inl (G.2.1 1, 1000, .inl nf2_23)), (ga, .inl (G.2.1 1, 1000, .inl gf2_23)), (sa, .inl (G.2.1 1, 1000, .inl sf2_23)), (xr, .inr (1, [.ref xa, .int xsz2_23])), (xa, .inl (G.2.1 0, 1000, .inl xf2_23))]) (gc_V (wc := [(rd, .inr (3, [.ref tr, .ref t, .int at2_23])), (tr, .inr (1, [.ref ta, .int tsz])), (ta, .inl (G.2.1 0, 1000, .inl tf))]) (As := [.int y_9]) (rest := []) ⟨hx, hb, hml, hown, hw⟩ (c_Reader_hexDigit l G rd t at2_23 tr ta tsz tf y_9 htp H.size) (cwV 1 hw (good_V m_227 m_229 ms_10 m_5 m_230) rfl rfl rfl hy_Reader_hexDigit ⟨Nat.le_of_ble_eq_true rfl, Nat.le_of_ble_eq_true rfl⟩) hE hP hD hS hA (va_recv hE.1 hP (ci := 3) (q0 := 7) rfl rfl) [7, 8, 9] rfl (by decide) rfl hl rfl (Nat.le_of_ble_eq_true rfl) d_Reader_hexString_84 ⟨Nat.le_of_ble_eq_true rfl, Nat.le_of_ble_eq_true rfl⟩) hP hD hS hA [7, 8, 9] [0, 1, 2, 3, 4, 5, 6] rfl rfl (by decide) (by decide) (fun r_10 u_11 H locs hw_12 hP hD hS => ?_)
          have hP : va_P G.1 vwCl [(t, .inr (2, [.ref ka, .ref na, .ref ga, .ref sa, .ref xr, .int size2_23])), (ka, .inl (G.2.1 0, 1000, .inl kf2_23)), (na, .inl (G.2.1 1, 1000, .inl nf2_23)), (ga, .inl (G.2.1 1, 1000, .inl gf2_23)), (sa, .inl (G.2.1 1, 1000, .inl sf2_23)), (xr, .inr (1, [.ref xa, .int xsz2_23])), (xa, .inl (G.2.1 0, 1000, .inl xf2_23)), (rd, .inr (3, [.ref tr, .ref t, .int at2_23])), (tr, .inr (1, [.ref ta, .int tsz])), (ta, .inl (G.2.1 0, 1000, .inl tf))] H := hP
          have hD : va_D A [(t, .inr (2, [.ref ka, .ref na, .ref ga, .ref sa, .ref xr, .int size2_23])), (ka, .inl (G.2.1 0, 1000, .inl kf2_23)), (na, .inl (G.2.1 1, 1000, .inl nf2_23)), (ga, .inl (G.2.1 1, 1000, .inl gf2_23)), (sa, .inl (G.2.1 1, 1000, .inl sf2_23)), (xr, .inr (1, [.ref xa, .int xsz2_23])), (xa, .inl (G.2.1 0, 1000, .inl xf2_23)), (rd, .inr (3, [.ref tr, .ref t, .int at2_23])), (tr, .inr (1, [.ref ta, .int tsz])), (ta, .inl (G.2.1 0, 1000, .inl tf))] := hD
          refine lv_istore (lv' := [(4, .int r_10), (3, .int r_6), (2, .int x2_23), (1, .int xsz), (0, .ref rd)]) hx hb d_Reader_hexString_87 hl (by decide) rfl (fun ls hl => ?_)
          refine lv_iload_n hx hb d_Reader_hexString_89 rfl (lv_at hl 1 rfl) ?_
          refine lv_if_lt (tgt := 98) hx hb d_Reader_hexString_90 (by decide) (fun c_13 => ?_) (fun c_13 => ?_)
          · refine lv_iconst (v := 0) hx hb d_Reader_hexString_98 (by decide) ?_
            exact ret 0 (at2_23, kf2_23, nf2_23, gf2_23, sf2_23, size2_23, xsz2_23, xf2_23) (Nat.le_of_ble_eq_true rfl) (Nat.le_of_ble_eq_true rfl) d_Reader_hexString_99 rfl ⟨hj0_23, hj1_23, (by first | assumption | decide)⟩ (hP.sub [7, 8, 9, 0, 1, 2, 3, 4, 5, 6] rfl) (hD.sub [7, 8, 9, 0, 1, 2, 3, 4, 5, 6] (by decide) rfl) hS
          · refine lv_iload hx hb d_Reader_hexString_93 (lv_at hl 0 rfl) ?_
            refine lv_if_ge (tgt := 100) hx hb d_Reader_hexString_95 (by decide) (fun c_14 => ?_) (fun c_14 => ?_)
            · refine lv_aload_n hx hb d_Reader_hexString_100 rfl (lv_at hl 4 rfl) ?_
              refine lv_dup hx hb d_Reader_hexString_101 rfl ?_
              refine va_get (D := G.1) (ci := 3) (v := .int at2_23) (C := R_Reader) (T := F_Reader) (N := 3) hx hb hw i_Reader hown hE.1 hP 7 rfl rfl 2 (by decide) (hw _ m_117) (fun _ h9 => h9) rfl d_Reader_hexString_102 ?_
              refine lv_iconst (v := 2) hx hb d_Reader_hexString_105 (by decide) ?_
              refine lv_iadd hx hb d_Reader_hexString_106 ?_
              refine lv_topi (fun y_15 ey_15 => ?_)
              refine va_put (D := G.1) (ci := 3) (v := .int y_15) (ty := .int) (C := R_Reader) (T := F_Reader) (N := 3) hx hb hw i_Reader t_Reader t_Reader_ok n_Reader hown hE.1 hP hD hS 7 rfl rfl 2 (by decide) (hw _ m_117) (fun _ h9 => h9) rfl (by decide +kernel) rfl rfl (Nat.le_of_ble_eq_true rfl) d_Reader_hexString_107 (fun H locs hP hD hS => ?_)
              have hP : va_P G.1 vwCl [(t, .inr (2, [.ref ka, .ref na, .ref ga, .ref sa, .ref xr, .int size2_23])), (ka, .inl (G.2.1 0, 1000, .inl kf2_23)), (na, .inl (G.2.1 1, 1000, .inl nf2_23)), (ga, .inl (G.2.1 1, 1000, .inl gf2_23)), (sa, .inl (G.2.1 1, 1000, .inl sf2_23)), (xr, .inr (1, [.ref xa, .int xsz2_23])), (xa, .inl (G.2.1 0, 1000, .inl xf2_23)), (rd, .inr (3, [.ref tr, .ref t, .int y_15])), (tr, .inr (1, [.ref ta, .int tsz])), (ta, .inl (G.2.1 0, 1000, .inl tf))] H := hP
              have hD : va_D A [(t, .inr (2, [.ref ka, .ref na, .ref ga, .ref sa, .ref xr, .int size2_23])), (ka, .inl (G.2.1 0, 1000, .inl kf2_23)), (na, .inl (G.2.1 1, 1000, .inl nf2_23)), (ga, .inl (G.2.1 1, 1000, .inl gf2_23)), (sa, .inl (G.2.1 1, 1000, .inl sf2_23)), (xr, .inr (1, [.ref xa, .int xsz2_23])), (xa, .inl (G.2.1 0, 1000, .inl xf2_23)), (rd, .inr (3, [.ref tr, .ref t, .int y_15])), (tr, .inr (1, [.ref ta, .int tsz])), (ta, .inl (G.2.1 0, 1000, .inl tf))] := hD
              refine lv_aload_n hx hb d_Reader_hexString_110 rfl (lv_at hl 4 rfl) ?_
              refine va_get (D := G.1) (ci := 3) (v := .ref t) (C := R_Reader) (T := F_Reader) (N := 3) hx hb hw i_Reader hown hE.1 hP 7 rfl rfl 1 (by decide) (hw _ m_116) (fun _ h9 => h9) rfl d_Reader_hexString_111 ?_
              refine gc_r (wr := [(rd, .inr (3, [.ref tr, .ref t, .int y_15])), (tr, .inr (1, [.ref ta, .int tsz])), (ta, .inl (G.2.1 0, 1000, .inl tf))]) (gc_V (wc := [(t, .inr (2, [.ref ka, .ref na, .ref ga, .ref sa, .ref xr, .int size2_23])), (ka, .inl (G.2.1 0, 1000, .inl kf2_23)), (na, .inl (G.2.1 1, 1000, .inl nf2_23)), (ga, .inl (G.2.1 1, 1000, .inl gf2_23)), (sa, .inl (G.2.1 1, 1000, .inl sf2_23)), (xr, .inr (1, [.ref xa, .int xsz2_23])), (xa, .inl (G.2.1 0, 1000, .inl xf2_23))]) (As := []) (rest := []) ⟨hx, hb, hml, hown, hw⟩ (c_Tree_text l G t ka na ga sa xr xa kf2_23 nf2_23 gf2_23 sf2_23 size2_23 xsz2_23 xf2_23 hj0_23 hj1_23 H.size) (cwV 0 hw (good_V m_161 m_162 m_163 m_3 m_164) rfl rfl rfl hy_Tree_text ⟨Nat.le_of_ble_eq_true rfl, Nat.le_of_ble_eq_true rfl⟩) hE hP hD hS hA (va_recv hE.1 hP (ci := 2) (q0 := 0) rfl rfl) [0, 1, 2, 3, 4, 5, 6] rfl (by decide) rfl hl rfl (Nat.le_of_ble_eq_true rfl) d_Reader_hexString_114 ⟨Nat.le_of_ble_eq_true rfl, Nat.le_of_ble_eq_true rfl⟩) hP hD hS hA [0, 1, 2, 3, 4, 5, 6] [7, 8, 9] rfl rfl (by decide) (by decide) (fun r_16 u_17 H locs hw_18 hP hD hS => ?_)
              try dsimp only at hw_18
              have h_19 := hw_18
              subst h_19
              have hP : va_P G.1 vwCl [(rd, .inr (3, [.ref tr, .ref t, .int y_15])), (tr, .inr (1, [.ref ta, .int tsz])), (ta, .inl (G.2.1 0, 1000, .inl tf)), (t, .inr (2, [.ref ka, .ref na, .ref ga, .ref sa, .ref xr, .int size2_23])), (ka, .inl (G.2.1 0, 1000, .inl kf2_23)), (na, .inl (G.2.1 1, 1000, .inl nf2_23)), (ga, .inl (G.2.1 1, 1000, .inl gf2_23)), (sa, .inl (G.2.1 1, 1000, .inl sf2_23)), (xr, .inr (1, [.ref xa, .int xsz2_23])), (xa, .inl (G.2.1 0, 1000, .inl xf2_23))] H := hP
              have hD : va_D A [(rd, .inr (3, [.ref tr, .ref t, .int y_15])), (tr, .inr (1, [.ref ta, .int tsz])), (ta, .inl (G.2.1 0, 1000, .inl tf)), (t, .inr (2, [.ref ka, .ref na, .ref ga, .ref sa, .ref xr, .int size2_23])), (ka, .inl (G.2.1 0, 1000, .inl kf2_23)), (na, .inl (G.2.1 1, 1000, .inl nf2_23)), (ga, .inl (G.2.1 1, 1000, .inl gf2_23)), (sa, .inl (G.2.1 1, 1000, .inl sf2_23)), (xr, .inr (1, [.ref xa, .int xsz2_23])), (xa, .inl (G.2.1 0, 1000, .inl xf2_23))] := hD
              refine lv_iload_n hx hb d_Reader_hexString_117 rfl (lv_at hl 1 rfl) ?_
              refine lv_bipush (v := 16) hx hb d_Reader_hexString_118 (by decide) ?_
              refine lv_imul hx hb d_Reader_hexString_120 ?_
              refine lv_topi (fun y_20 ey_20 => ?_)
              refine lv_iload hx hb d_Reader_hexString_121 (lv_at hl 0 rfl) ?_
              refine lv_iadd hx hb d_Reader_hexString_123 ?_
              refine lv_topi (fun y_21 ey_21 => ?_)
              refine gc_v (wr := [(rd, .inr (3, [.ref tr, .ref t, .int y_15])), (tr, .inr (1, [.ref ta, .int tsz])), (ta, .inl (G.2.1 0, 1000, .inl tf)), (t, .inr (2, [.ref ka, .ref na, .ref ga, .ref sa, .ref xr, .int size2_23])), (ka, .inl (G.2.1 0, 1000, .inl kf2_23)), (na, .inl (G.2.1 1, 1000, .inl nf2_23)), (ga, .inl (G.2.1 1, 1000, .inl gf2_23)), (sa, .inl (G.2.1 1, 1000, .inl sf2_23))]) (gc_V (wc := [(xr, .inr (1, [.ref xa, .int xsz2_23])), (xa, .inl (G.2.1 0, 1000, .inl xf2_23))]) (As := [.int y_21]) (rest := []) ⟨hx, hb, hml, hown, hw⟩ (c_Row_add l G xr xa 1000 xsz2_23 xf2_23 y_21 (by decide) hj1_23 H.size) (cwV 1 hw (good_V m_186 m_94 m_95 m_2 m_96) rfl rfl rfl hy_Row_add ⟨Nat.le_of_ble_eq_true rfl, Nat.le_of_ble_eq_true rfl⟩) hE hP hD hS hA (va_recv hE.1 hP (ci := 1) (q0 := 8) rfl rfl) [8, 9] rfl (by decide) rfl hl rfl (Nat.le_of_ble_eq_true rfl) d_Reader_hexString_124 ⟨Nat.le_of_ble_eq_true rfl, Nat.le_of_ble_eq_true rfl⟩) hP hD hS hA [8, 9] [0, 1, 2, 3, 4, 5, 6, 7] rfl rfl (by decide) (by decide) (fun u_23 H locs hw_24 hP hD hS => ?_)
              obtain ⟨sz2_25, f2_26⟩ := u_23
              try dsimp only at hw_24
              obtain ⟨h_27, h_28⟩ := hw_24
              have hP : va_P G.1 vwCl [(rd, .inr (3, [.ref tr, .ref t, .int y_15])), (tr, .inr (1, [.ref ta, .int tsz])), (ta, .inl (G.2.1 0, 1000, .inl tf)), (t, .inr (2, [.ref ka, .ref na, .ref ga, .ref sa, .ref xr, .int size2_23])), (ka, .inl (G.2.1 0, 1000, .inl kf2_23)), (na, .inl (G.2.1 1, 1000, .inl nf2_23)), (ga, .inl (G.2.1 1, 1000, .inl gf2_23)), (sa, .inl (G.2.1 1, 1000, .inl sf2_23)), (xr, .inr (1, [.ref xa, .int sz2_25])), (xa, .inl (G.2.1 0, 1000, .inl f2_26))] H := hP
              have hD : va_D A [(rd, .inr (3, [.ref tr, .ref t, .int y_15])), (tr, .inr (1, [.ref ta, .int tsz])), (ta, .inl (G.2.1 0, 1000, .inl tf)), (t, .inr (2, [.ref ka, .ref na, .ref ga, .ref sa, .ref xr, .int size2_23])), (ka, .inl (G.2.1 0, 1000, .inl kf2_23)), (na, .inl (G.2.1 1, 1000, .inl nf2_23)), (ga, .inl (G.2.1 1, 1000, .inl gf2_23)), (sa, .inl (G.2.1 1, 1000, .inl sf2_23)), (xr, .inr (1, [.ref xa, .int sz2_25])), (xa, .inl (G.2.1 0, 1000, .inl f2_26))] := hD
              obtain ⟨y_29, ey_29⟩ : ∃ y : Int32, y = x2_23 + 1 := ⟨_, rfl⟩
              refine lv_iinc (v := y_29) (lv' := [(2, .int y_29), (4, .int r_10), (3, .int r_6), (1, .int xsz), (0, .ref rd)]) hx hb d_Reader_hexString_127 hl (k := 2) rfl (by rw [ey_29]; rfl) (by decide) rfl (fun ls hl => ?_)
              refine lv_goto (tgt := 23) hx hb d_Reader_hexString_130 (by decide) ?_
              exact ih_23 y_29 y_15 kf2_23 nf2_23 gf2_23 sf2_23 size2_23 sz2_25 f2_26 hj0_23 h_27 (ms_upe (B := 100) (by assumption) (by assumption) (by decide) hm_23) _ _ (hP.sub [0, 1, 2, 3, 4, 5, 6, 7, 8, 9] rfl) (hD.sub [0, 1, 2, 3, 4, 5, 6, 7, 8, 9] (by decide) rfl) hS _ (lv_sub hl [0, 3, 4] rfl)
            · refine lv_iconst (v := 0) hx hb d_Reader_hexString_98 (by decide) ?_
              exact ret 0 (at2_23, kf2_23, nf2_23, gf2_23, sf2_23, size2_23, xsz2_23, xf2_23) (Nat.le_of_ble_eq_true rfl) (Nat.le_of_ble_eq_true rfl) d_Reader_hexString_99 rfl ⟨hj0_23, hj1_23, (by first | assumption | decide)⟩ (hP.sub [7, 8, 9, 0, 1, 2, 3, 4, 5, 6] rfl) (hD.sub [7, 8, 9, 0, 1, 2, 3, 4, 5, 6] (by decide) rfl) hS
        · refine lv_aload_n hx hb d_Reader_hexString_45 rfl (lv_at hl 2 rfl) ?_
          refine lv_dup hx hb d_Reader_hexString_46 rfl ?_
          refine va_get (D := G.1) (ci := 3) (v := .int at2_23) (C := R_Reader) (T := F_Reader) (N := 3) hx hb hw i_Reader hown hE.1 hP 0 rfl rfl 2 (by decide) (hw _ m_117) (fun _ h9 => h9) rfl d_Reader_hexString_47 ?_
          refine lv_iconst (v := 1) hx hb d_Reader_hexString_50 (by decide) ?_
          refine lv_iadd hx hb d_Reader_hexString_51 ?_
          refine lv_topi (fun y_30 ey_30 => ?_)
          refine va_put (D := G.1) (ci := 3) (v := .int y_30) (ty := .int) (C := R_Reader) (T := F_Reader) (N := 3) hx hb hw i_Reader t_Reader t_Reader_ok n_Reader hown hE.1 hP hD hS 0 rfl rfl 2 (by decide) (hw _ m_117) (fun _ h9 => h9) rfl (by decide +kernel) rfl rfl (Nat.le_of_ble_eq_true rfl) d_Reader_hexString_52 (fun H locs hP hD hS => ?_)
          have hP : va_P G.1 vwCl [(rd, .inr (3, [.ref tr, .ref t, .int y_30])), (t, .inr (2, [.ref ka, .ref na, .ref ga, .ref sa, .ref xr, .int size2_23])), (ka, .inl (G.2.1 0, 1000, .inl kf2_23)), (na, .inl (G.2.1 1, 1000, .inl nf2_23)), (ga, .inl (G.2.1 1, 1000, .inl gf2_23)), (sa, .inl (G.2.1 1, 1000, .inl sf2_23)), (xr, .inr (1, [.ref xa, .int xsz2_23])), (xa, .inl (G.2.1 0, 1000, .inl xf2_23)), (tr, .inr (1, [.ref ta, .int tsz])), (ta, .inl (G.2.1 0, 1000, .inl tf))] H := hP
          have hD : va_D A [(rd, .inr (3, [.ref tr, .ref t, .int y_30])), (t, .inr (2, [.ref ka, .ref na, .ref ga, .ref sa, .ref xr, .int size2_23])), (ka, .inl (G.2.1 0, 1000, .inl kf2_23)), (na, .inl (G.2.1 1, 1000, .inl nf2_23)), (ga, .inl (G.2.1 1, 1000, .inl gf2_23)), (sa, .inl (G.2.1 1, 1000, .inl sf2_23)), (xr, .inr (1, [.ref xa, .int xsz2_23])), (xa, .inl (G.2.1 0, 1000, .inl xf2_23)), (tr, .inr (1, [.ref ta, .int tsz])), (ta, .inl (G.2.1 0, 1000, .inl tf))] := hD
          refine lv_aload_n hx hb d_Reader_hexString_55 rfl (lv_at hl 2 rfl) ?_
          refine va_get (D := G.1) (ci := 3) (v := .ref t) (C := R_Reader) (T := F_Reader) (N := 3) hx hb hw i_Reader hown hE.1 hP 0 rfl rfl 1 (by decide) (hw _ m_116) (fun _ h9 => h9) rfl d_Reader_hexString_56 ?_
          refine lv_iconst (v := 5) hx hb d_Reader_hexString_59 (by decide) ?_
          refine lv_iload_n hx hb d_Reader_hexString_60 rfl (lv_at hl 0 rfl) ?_
          refine lv_iload_n hx hb d_Reader_hexString_61 rfl (lv_at hl 1 rfl) ?_
          refine gc_i (wr := [(rd, .inr (3, [.ref tr, .ref t, .int y_30])), (tr, .inr (1, [.ref ta, .int tsz])), (ta, .inl (G.2.1 0, 1000, .inl tf))]) (gc_V (wc := [(t, .inr (2, [.ref ka, .ref na, .ref ga, .ref sa, .ref xr, .int size2_23])), (ka, .inl (G.2.1 0, 1000, .inl kf2_23)), (na, .inl (G.2.1 1, 1000, .inl nf2_23)), (ga, .inl (G.2.1 1, 1000, .inl gf2_23)), (sa, .inl (G.2.1 1, 1000, .inl sf2_23)), (xr, .inr (1, [.ref xa, .int xsz2_23])), (xa, .inl (G.2.1 0, 1000, .inl xf2_23))]) (As := [.int 5, .int x2_23, .int xsz]) (rest := []) ⟨hx, hb, hml, hown, hw⟩ (c_Tree_add l G t ka na ga sa xr xa kf2_23 nf2_23 gf2_23 sf2_23 size2_23 xsz2_23 xf2_23 5 x2_23 xsz hj0_23 hj1_23 H.size) (cwV 3 hw (good_V m_165 m_166 m_167 m_3 m_168) rfl rfl rfl hy_Tree_add ⟨Nat.le_of_ble_eq_true rfl, Nat.le_of_ble_eq_true rfl⟩) hE hP hD hS hA (va_recv hE.1 hP (ci := 2) (q0 := 1) rfl rfl) [1, 2, 3, 4, 5, 6, 7] rfl (by decide) rfl hl rfl (Nat.le_of_ble_eq_true rfl) d_Reader_hexString_62 ⟨Nat.le_of_ble_eq_true rfl, Nat.le_of_ble_eq_true rfl⟩) hP hD hS hA [1, 2, 3, 4, 5, 6, 7] [0, 8, 9] rfl rfl (by decide) (by decide) (fun r_31 u_32 H locs hw_33 hP hD hS => ?_)
          obtain ⟨kf2_34, nf2_35, gf2_36, sf2_37, size2_38⟩ := u_32
          try dsimp only at hw_33
          have h_39 := hw_33
          have hP : va_P G.1 vwCl [(rd, .inr (3, [.ref tr, .ref t, .int y_30])), (tr, .inr (1, [.ref ta, .int tsz])), (ta, .inl (G.2.1 0, 1000, .inl tf)), (t, .inr (2, [.ref ka, .ref na, .ref ga, .ref sa, .ref xr, .int size2_38])), (ka, .inl (G.2.1 0, 1000, .inl kf2_34)), (na, .inl (G.2.1 1, 1000, .inl nf2_35)), (ga, .inl (G.2.1 1, 1000, .inl gf2_36)), (sa, .inl (G.2.1 1, 1000, .inl sf2_37)), (xr, .inr (1, [.ref xa, .int xsz2_23])), (xa, .inl (G.2.1 0, 1000, .inl xf2_23))] H := hP
          have hD : va_D A [(rd, .inr (3, [.ref tr, .ref t, .int y_30])), (tr, .inr (1, [.ref ta, .int tsz])), (ta, .inl (G.2.1 0, 1000, .inl tf)), (t, .inr (2, [.ref ka, .ref na, .ref ga, .ref sa, .ref xr, .int size2_38])), (ka, .inl (G.2.1 0, 1000, .inl kf2_34)), (na, .inl (G.2.1 1, 1000, .inl nf2_35)), (ga, .inl (G.2.1 1, 1000, .inl gf2_36)), (sa, .inl (G.2.1 1, 1000, .inl sf2_37)), (xr, .inr (1, [.ref xa, .int xsz2_23])), (xa, .inl (G.2.1 0, 1000, .inl xf2_23))] := hD
          refine lv_pop hx hb d_Reader_hexString_65 rfl ?_
          refine lv_iconst (v := 1) hx hb d_Reader_hexString_66 (by decide) ?_
          exact ret 1 (y_30, kf2_34, nf2_35, gf2_36, sf2_37, size2_38, xsz2_23, xf2_23) (Nat.le_of_ble_eq_true rfl) (Nat.le_of_ble_eq_true rfl) d_Reader_hexString_67 rfl ⟨h_39, hj1_23, (by first | assumption | decide)⟩ (hP.sub [0, 1, 2, 3, 4, 5, 6, 7, 8, 9] rfl) (hD.sub [0, 1, 2, 3, 4, 5, 6, 7, 8, 9] (by decide) rfl) hS
  refine lv_aload_n hx hb d_Reader_hexString_0 rfl (lv_at hl 0 rfl) ?_
  refine lv_dup hx hb d_Reader_hexString_1 rfl ?_
  refine va_get (D := G.1) (ci := 3) (v := .int at0) (C := R_Reader) (T := F_Reader) (N := 3) hx hb hw i_Reader hown hE.1 hP 0 rfl rfl 2 (by decide) (hw _ m_117) (fun _ h9 => h9) rfl d_Reader_hexString_2 ?_
  refine lv_iconst (v := 1) hx hb d_Reader_hexString_5 (by decide) ?_
  refine lv_iadd hx hb d_Reader_hexString_6 ?_
  refine lv_topi (fun y_40 ey_40 => ?_)
  refine va_put (D := G.1) (ci := 3) (v := .int y_40) (ty := .int) (C := R_Reader) (T := F_Reader) (N := 3) hx hb hw i_Reader t_Reader t_Reader_ok n_Reader hown hE.1 hP hD hS 0 rfl rfl 2 (by decide) (hw _ m_117) (fun _ h9 => h9) rfl (by decide +kernel) rfl rfl (Nat.le_of_ble_eq_true rfl) d_Reader_hexString_7 (fun H locs hP hD hS => ?_)
  have hP : va_P G.1 vwCl [(rd, .inr (3, [.ref tr, .ref t, .int y_40])), (tr, .inr (1, [.ref ta, .int tsz])), (ta, .inl (G.2.1 0, 1000, .inl tf)), (t, .inr (2, [.ref ka, .ref na, .ref ga, .ref sa, .ref xr, .int size])), (ka, .inl (G.2.1 0, 1000, .inl kf)), (na, .inl (G.2.1 1, 1000, .inl nf)), (ga, .inl (G.2.1 1, 1000, .inl gf)), (sa, .inl (G.2.1 1, 1000, .inl sf)), (xr, .inr (1, [.ref xa, .int xsz])), (xa, .inl (G.2.1 0, 1000, .inl xf))] H := hP
  have hD : va_D A [(rd, .inr (3, [.ref tr, .ref t, .int y_40])), (tr, .inr (1, [.ref ta, .int tsz])), (ta, .inl (G.2.1 0, 1000, .inl tf)), (t, .inr (2, [.ref ka, .ref na, .ref ga, .ref sa, .ref xr, .int size])), (ka, .inl (G.2.1 0, 1000, .inl kf)), (na, .inl (G.2.1 1, 1000, .inl nf)), (ga, .inl (G.2.1 1, 1000, .inl gf)), (sa, .inl (G.2.1 1, 1000, .inl sf)), (xr, .inr (1, [.ref xa, .int xsz])), (xa, .inl (G.2.1 0, 1000, .inl xf))] := hD
  refine lv_aload_n hx hb d_Reader_hexString_10 rfl (lv_at hl 0 rfl) ?_
  refine va_get (D := G.1) (ci := 3) (v := .ref t) (C := R_Reader) (T := F_Reader) (N := 3) hx hb hw i_Reader hown hE.1 hP 0 rfl rfl 1 (by decide) (hw _ m_116) (fun _ h9 => h9) rfl d_Reader_hexString_11 ?_
  refine gc_r (wr := [(rd, .inr (3, [.ref tr, .ref t, .int y_40])), (tr, .inr (1, [.ref ta, .int tsz])), (ta, .inl (G.2.1 0, 1000, .inl tf))]) (gc_V (wc := [(t, .inr (2, [.ref ka, .ref na, .ref ga, .ref sa, .ref xr, .int size])), (ka, .inl (G.2.1 0, 1000, .inl kf)), (na, .inl (G.2.1 1, 1000, .inl nf)), (ga, .inl (G.2.1 1, 1000, .inl gf)), (sa, .inl (G.2.1 1, 1000, .inl sf)), (xr, .inr (1, [.ref xa, .int xsz])), (xa, .inl (G.2.1 0, 1000, .inl xf))]) (As := []) (rest := []) ⟨hx, hb, hml, hown, hw⟩ (c_Tree_text l G t ka na ga sa xr xa kf nf gf sf size xsz xf hs hxs H.size) (cwV 0 hw (good_V m_161 m_162 m_163 m_3 m_164) rfl rfl rfl hy_Tree_text ⟨Nat.le_of_ble_eq_true rfl, Nat.le_of_ble_eq_true rfl⟩) hE hP hD hS hA (va_recv hE.1 hP (ci := 2) (q0 := 3) rfl rfl) [3, 4, 5, 6, 7, 8, 9] rfl (by decide) rfl hl rfl (Nat.le_of_ble_eq_true rfl) d_Reader_hexString_14 ⟨Nat.le_of_ble_eq_true rfl, Nat.le_of_ble_eq_true rfl⟩) hP hD hS hA [3, 4, 5, 6, 7, 8, 9] [0, 1, 2] rfl rfl (by decide) (by decide) (fun r_41 u_42 H locs hw_43 hP hD hS => ?_)
  try dsimp only at hw_43
  have h_44 := hw_43
  subst h_44
  have hP : va_P G.1 vwCl [(rd, .inr (3, [.ref tr, .ref t, .int y_40])), (tr, .inr (1, [.ref ta, .int tsz])), (ta, .inl (G.2.1 0, 1000, .inl tf)), (t, .inr (2, [.ref ka, .ref na, .ref ga, .ref sa, .ref xr, .int size])), (ka, .inl (G.2.1 0, 1000, .inl kf)), (na, .inl (G.2.1 1, 1000, .inl nf)), (ga, .inl (G.2.1 1, 1000, .inl gf)), (sa, .inl (G.2.1 1, 1000, .inl sf)), (xr, .inr (1, [.ref xa, .int xsz])), (xa, .inl (G.2.1 0, 1000, .inl xf))] H := hP
  have hD : va_D A [(rd, .inr (3, [.ref tr, .ref t, .int y_40])), (tr, .inr (1, [.ref ta, .int tsz])), (ta, .inl (G.2.1 0, 1000, .inl tf)), (t, .inr (2, [.ref ka, .ref na, .ref ga, .ref sa, .ref xr, .int size])), (ka, .inl (G.2.1 0, 1000, .inl kf)), (na, .inl (G.2.1 1, 1000, .inl nf)), (ga, .inl (G.2.1 1, 1000, .inl gf)), (sa, .inl (G.2.1 1, 1000, .inl sf)), (xr, .inr (1, [.ref xa, .int xsz])), (xa, .inl (G.2.1 0, 1000, .inl xf))] := hD
  refine gc_i (wr := [(rd, .inr (3, [.ref tr, .ref t, .int y_40])), (tr, .inr (1, [.ref ta, .int tsz])), (ta, .inl (G.2.1 0, 1000, .inl tf)), (t, .inr (2, [.ref ka, .ref na, .ref ga, .ref sa, .ref xr, .int size])), (ka, .inl (G.2.1 0, 1000, .inl kf)), (na, .inl (G.2.1 1, 1000, .inl nf)), (ga, .inl (G.2.1 1, 1000, .inl gf)), (sa, .inl (G.2.1 1, 1000, .inl sf))]) (gc_V (wc := [(xr, .inr (1, [.ref xa, .int xsz])), (xa, .inl (G.2.1 0, 1000, .inl xf))]) (As := []) (rest := []) ⟨hx, hb, hml, hown, hw⟩ (c_Row_size l G xr xa 1000 xsz xf (by decide) hxs H.size) (cwV 0 hw (good_V m_142 m_86 m_87 m_2 m_88) rfl rfl rfl hy_Row_size ⟨Nat.le_of_ble_eq_true rfl, Nat.le_of_ble_eq_true rfl⟩) hE hP hD hS hA (va_recv hE.1 hP (ci := 1) (q0 := 8) rfl rfl) [8, 9] rfl (by decide) rfl hl rfl (Nat.le_of_ble_eq_true rfl) d_Reader_hexString_17 ⟨Nat.le_of_ble_eq_true rfl, Nat.le_of_ble_eq_true rfl⟩) hP hD hS hA [8, 9] [0, 1, 2, 3, 4, 5, 6, 7] rfl rfl (by decide) (by decide) (fun r_45 u_46 H locs hw_47 hP hD hS => ?_)
  try dsimp only at hw_47
  have h_48 := hw_47
  subst h_48
  have hP : va_P G.1 vwCl [(rd, .inr (3, [.ref tr, .ref t, .int y_40])), (tr, .inr (1, [.ref ta, .int tsz])), (ta, .inl (G.2.1 0, 1000, .inl tf)), (t, .inr (2, [.ref ka, .ref na, .ref ga, .ref sa, .ref xr, .int size])), (ka, .inl (G.2.1 0, 1000, .inl kf)), (na, .inl (G.2.1 1, 1000, .inl nf)), (ga, .inl (G.2.1 1, 1000, .inl gf)), (sa, .inl (G.2.1 1, 1000, .inl sf)), (xr, .inr (1, [.ref xa, .int xsz])), (xa, .inl (G.2.1 0, 1000, .inl xf))] H := hP
  have hD : va_D A [(rd, .inr (3, [.ref tr, .ref t, .int y_40])), (tr, .inr (1, [.ref ta, .int tsz])), (ta, .inl (G.2.1 0, 1000, .inl tf)), (t, .inr (2, [.ref ka, .ref na, .ref ga, .ref sa, .ref xr, .int size])), (ka, .inl (G.2.1 0, 1000, .inl kf)), (na, .inl (G.2.1 1, 1000, .inl nf)), (ga, .inl (G.2.1 1, 1000, .inl gf)), (sa, .inl (G.2.1 1, 1000, .inl sf)), (xr, .inr (1, [.ref xa, .int xsz])), (xa, .inl (G.2.1 0, 1000, .inl xf))] := hD
  refine lv_istore_n (lv' := [(1, .int xsz), (0, .ref rd)]) hx hb d_Reader_hexString_20 rfl hl (by decide) rfl (fun ls hl => ?_)
  refine lv_iconst (v := 0) hx hb d_Reader_hexString_21 (by decide) ?_
  refine lv_istore_n (lv' := [(2, .int 0), (1, .int xsz), (0, .ref rd)]) hx hb d_Reader_hexString_22 rfl hl (by decide) rfl (fun ls hl => ?_)
  exact J_23 _ 0 y_40 kf nf gf sf size xsz xf hs hxs (Nat.lt_succ_self _) _ _ (hP.sub [0, 1, 2, 3, 4, 5, 6, 7, 8, 9] rfl) (hD.sub [0, 1, 2, 3, 4, 5, 6, 7, 8, 9] (by decide) rfl) hS _ (lv_sub hl [0, 1, 2] rfl)
def rm_Reader_word : Room := { frames := 6, cells := 0, slots := 0, locals := 129 }
set_option maxHeartbeats 4000000 in
set_option maxRecDepth 100000 in
theorem c_Reader_word (l : Launch) (G : GG) (rd : Nat) (at0 : Int32) (tr : Nat) (ta : Nat) (tsz : Int32) (tf : Nat → Int32) (t : Nat) (ka : Nat) (na : Nat) (ga : Nat) (sa : Nat) (xr : Nat) (xa : Nat) (kf : Nat → Int32) (nf : Nat → Int32) (gf : Nat → Int32) (sf : Nat → Int32) (size : Int32) (xsz : Int32) (xf : Nat → Int32) (htp : RowOk 1000 tsz) (hs : RowOk 1000 size) (hxs : RowOk 1000 xsz) : MI l y_Reader_word b_Reader_word 3 .boolean rm_Reader_word G [.ref rd] [(rd, .inr (3, [.ref tr, .ref t, .int at0])), (tr, .inr (1, [.ref ta, .int tsz])), (ta, .inl (G.2.1 0, 1000, .inl tf)), (t, .inr (2, [.ref ka, .ref na, .ref ga, .ref sa, .ref xr, .int size])), (ka, .inl (G.2.1 0, 1000, .inl kf)), (na, .inl (G.2.1 1, 1000, .inl nf)), (ga, .inl (G.2.1 1, 1000, .inl gf)), (sa, .inl (G.2.1 1, 1000, .inl sf)), (xr, .inr (1, [.ref xa, .int xsz])), (xa, .inl (G.2.1 0, 1000, .inl xf))] (fun (v : Int32) (u : Int32 × (Nat → Int32) × (Nat → Int32) × (Nat → Int32) × (Nat → Int32) × Int32 × Int32 × (Nat → Int32)) => (RowOk 1000 u.2.2.2.2.2.1) ∧ (RowOk 1000 u.2.2.2.2.2.2.1) ∧ (v = 0 ∨ v = 1)) (fun (u : Int32 × (Nat → Int32) × (Nat → Int32) × (Nat → Int32) × (Nat → Int32) × Int32 × Int32 × (Nat → Int32)) => [(rd, .inr (3, [.ref tr, .ref t, .int u.1])), (tr, .inr (1, [.ref ta, .int tsz])), (ta, .inl (G.2.1 0, 1000, .inl tf)), (t, .inr (2, [.ref ka, .ref na, .ref ga, .ref sa, .ref xr, .int u.2.2.2.2.2.1])), (ka, .inl (G.2.1 0, 1000, .inl u.2.1)), (na, .inl (G.2.1 1, 1000, .inl u.2.2.1)), (ga, .inl (G.2.1 1, 1000, .inl u.2.2.2.1)), (sa, .inl (G.2.1 1, 1000, .inl u.2.2.2.2.1)), (xr, .inr (1, [.ref xa, .int u.2.2.2.2.2.2.1])), (xa, .inl (G.2.1 0, 1000, .inl u.2.2.2.2.2.2.2))]) 0 0 := by
  refine MI.of (cc := b_Reader_word) (maxL := 3) (ty := .boolean) (C := R_Reader) (by decide +kernel) rfl (Nat.le_of_ble_eq_true rfl) ?_
  intro p e s m args below meth c A Q H ls hx hb hml hown hw hE hA hP hD hS ret hl
  have hl : lv_has ls 3 [(0, .ref rd)] := hl
  refine lv_aload_n hx hb d_Reader_word_0 rfl (lv_at hl 0 rfl) ?_
  refine lv_aload_n hx hb d_Reader_word_1 rfl (lv_at hl 0 rfl) ?_
  refine va_get (D := G.1) (ci := 3) (v := .int at0) (C := R_Reader) (T := F_Reader) (N := 3) hx hb hw i_Reader hown hE.1 hP 0 rfl rfl 2 (by decide) (hw _ m_117) (fun _ h9 => h9) rfl d_Reader_word_2 ?_
  refine gc_i (wr := [(t, .inr (2, [.ref ka, .ref na, .ref ga, .ref sa, .ref xr, .int size])), (ka, .inl (G.2.1 0, 1000, .inl kf)), (na, .inl (G.2.1 1, 1000, .inl nf)), (ga, .inl (G.2.1 1, 1000, .inl gf)), (sa, .inl (G.2.1 1, 1000, .inl sf)), (xr, .inr (1, [.ref xa, .int xsz])), (xa, .inl (G.2.1 0, 1000, .inl xf))]) (gc_V (wc := [(rd, .inr (3, [.ref tr, .ref t, .int at0])), (tr, .inr (1, [.ref ta, .int tsz])), (ta, .inl (G.2.1 0, 1000, .inl tf))]) (As := [.int at0]) (rest := []) ⟨hx, hb, hml, hown, hw⟩ (c_Reader_wordLength l G rd t at0 tr ta tsz tf at0 htp H.size) (cwV 1 hw (good_V m_154 m_156 ms_3 m_5 m_157) rfl rfl rfl hy_Reader_wordLength ⟨Nat.le_of_ble_eq_true rfl, Nat.le_of_ble_eq_true rfl⟩) hE hP hD hS hA (va_recv hE.1 hP (ci := 3) (q0 := 0) rfl rfl) [0, 1, 2] rfl (by decide) rfl hl rfl (Nat.le_of_ble_eq_true rfl) d_Reader_word_5 ⟨Nat.le_of_ble_eq_true rfl, Nat.le_of_ble_eq_true rfl⟩) hP hD hS hA [0, 1, 2] [3, 4, 5, 6, 7, 8, 9] rfl rfl (by decide) (by decide) (fun r_1 u_2 H locs hw_3 hP hD hS => ?_)
  have hP : va_P G.1 vwCl [(t, .inr (2, [.ref ka, .ref na, .ref ga, .ref sa, .ref xr, .int size])), (ka, .inl (G.2.1 0, 1000, .inl kf)), (na, .inl (G.2.1 1, 1000, .inl nf)), (ga, .inl (G.2.1 1, 1000, .inl gf)), (sa, .inl (G.2.1 1, 1000, .inl sf)), (xr, .inr (1, [.ref xa, .int xsz])), (xa, .inl (G.2.1 0, 1000, .inl xf)), (rd, .inr (3, [.ref tr, .ref t, .int at0])), (tr, .inr (1, [.ref ta, .int tsz])), (ta, .inl (G.2.1 0, 1000, .inl tf))] H := hP
  have hD : va_D A [(t, .inr (2, [.ref ka, .ref na, .ref ga, .ref sa, .ref xr, .int size])), (ka, .inl (G.2.1 0, 1000, .inl kf)), (na, .inl (G.2.1 1, 1000, .inl nf)), (ga, .inl (G.2.1 1, 1000, .inl gf)), (sa, .inl (G.2.1 1, 1000, .inl sf)), (xr, .inr (1, [.ref xa, .int xsz])), (xa, .inl (G.2.1 0, 1000, .inl xf)), (rd, .inr (3, [.ref tr, .ref t, .int at0])), (tr, .inr (1, [.ref ta, .int tsz])), (ta, .inl (G.2.1 0, 1000, .inl tf))] := hD
  refine lv_istore_n (lv' := [(1, .int r_1), (0, .ref rd)]) hx hb d_Reader_word_8 rfl hl (by decide) rfl (fun ls hl => ?_)
  refine lv_aload_n hx hb d_Reader_word_9 rfl (lv_at hl 1 rfl) ?_
  refine lv_iload_n hx hb d_Reader_word_10 rfl (lv_at hl 0 rfl) ?_
  refine gc_i (wr := [(t, .inr (2, [.ref ka, .ref na, .ref ga, .ref sa, .ref xr, .int size])), (ka, .inl (G.2.1 0, 1000, .inl kf)), (na, .inl (G.2.1 1, 1000, .inl nf)), (ga, .inl (G.2.1 1, 1000, .inl gf)), (sa, .inl (G.2.1 1, 1000, .inl sf)), (xr, .inr (1, [.ref xa, .int xsz])), (xa, .inl (G.2.1 0, 1000, .inl xf))]) (gc_V (wc := [(rd, .inr (3, [.ref tr, .ref t, .int at0])), (tr, .inr (1, [.ref ta, .int tsz])), (ta, .inl (G.2.1 0, 1000, .inl tf))]) (As := [.int r_1]) (rest := []) ⟨hx, hb, hml, hown, hw⟩ (c_Reader_kindOfWord l G rd t at0 tr ta tsz tf r_1 htp H.size) (cwV 1 hw (good_V m_256 m_258 ms_17 m_5 m_259) rfl rfl rfl hy_Reader_kindOfWord ⟨Nat.le_of_ble_eq_true rfl, Nat.le_of_ble_eq_true rfl⟩) hE hP hD hS hA (va_recv hE.1 hP (ci := 3) (q0 := 7) rfl rfl) [7, 8, 9] rfl (by decide) rfl hl rfl (Nat.le_of_ble_eq_true rfl) d_Reader_word_11 ⟨Nat.le_of_ble_eq_true rfl, Nat.le_of_ble_eq_true rfl⟩) hP hD hS hA [7, 8, 9] [0, 1, 2, 3, 4, 5, 6] rfl rfl (by decide) (by decide) (fun r_4 u_5 H locs hw_6 hP hD hS => ?_)
  have hP : va_P G.1 vwCl [(t, .inr (2, [.ref ka, .ref na, .ref ga, .ref sa, .ref xr, .int size])), (ka, .inl (G.2.1 0, 1000, .inl kf)), (na, .inl (G.2.1 1, 1000, .inl nf)), (ga, .inl (G.2.1 1, 1000, .inl gf)), (sa, .inl (G.2.1 1, 1000, .inl sf)), (xr, .inr (1, [.ref xa, .int xsz])), (xa, .inl (G.2.1 0, 1000, .inl xf)), (rd, .inr (3, [.ref tr, .ref t, .int at0])), (tr, .inr (1, [.ref ta, .int tsz])), (ta, .inl (G.2.1 0, 1000, .inl tf))] H := hP
  have hD : va_D A [(t, .inr (2, [.ref ka, .ref na, .ref ga, .ref sa, .ref xr, .int size])), (ka, .inl (G.2.1 0, 1000, .inl kf)), (na, .inl (G.2.1 1, 1000, .inl nf)), (ga, .inl (G.2.1 1, 1000, .inl gf)), (sa, .inl (G.2.1 1, 1000, .inl sf)), (xr, .inr (1, [.ref xa, .int xsz])), (xa, .inl (G.2.1 0, 1000, .inl xf)), (rd, .inr (3, [.ref tr, .ref t, .int at0])), (tr, .inr (1, [.ref ta, .int tsz])), (ta, .inl (G.2.1 0, 1000, .inl tf))] := hD
  refine lv_istore_n (lv' := [(2, .int r_4), (1, .int r_1), (0, .ref rd)]) hx hb d_Reader_word_14 rfl hl (by decide) rfl (fun ls hl => ?_)
  refine lv_iload_n hx hb d_Reader_word_15 rfl (lv_at hl 0 rfl) ?_
  refine lv_bipush (v := (-2)) hx hb d_Reader_word_16 (by decide) ?_
  refine lv_icmp_ne (tgt := 23) hx hb d_Reader_word_18 (by decide) (fun c_7 => ?_) (fun c_7 => ?_)
  · refine lv_aload_n hx hb d_Reader_word_23 rfl (lv_at hl 2 rfl) ?_
    refine va_get (D := G.1) (ci := 3) (v := .ref t) (C := R_Reader) (T := F_Reader) (N := 3) hx hb hw i_Reader hown hE.1 hP 7 rfl rfl 1 (by decide) (hw _ m_116) (fun _ h9 => h9) rfl d_Reader_word_24 ?_
    refine lv_iload_n hx hb d_Reader_word_27 rfl (lv_at hl 0 rfl) ?_
    refine lv_iconst (v := 0) hx hb d_Reader_word_28 (by decide) ?_
    refine lv_iconst (v := 0) hx hb d_Reader_word_29 (by decide) ?_
    refine gc_i (wr := [(rd, .inr (3, [.ref tr, .ref t, .int at0])), (tr, .inr (1, [.ref ta, .int tsz])), (ta, .inl (G.2.1 0, 1000, .inl tf))]) (gc_V (wc := [(t, .inr (2, [.ref ka, .ref na, .ref ga, .ref sa, .ref xr, .int size])), (ka, .inl (G.2.1 0, 1000, .inl kf)), (na, .inl (G.2.1 1, 1000, .inl nf)), (ga, .inl (G.2.1 1, 1000, .inl gf)), (sa, .inl (G.2.1 1, 1000, .inl sf)), (xr, .inr (1, [.ref xa, .int xsz])), (xa, .inl (G.2.1 0, 1000, .inl xf))]) (As := [.int r_4, .int 0, .int 0]) (rest := []) ⟨hx, hb, hml, hown, hw⟩ (c_Tree_add l G t ka na ga sa xr xa kf nf gf sf size xsz xf r_4 0 0 hs hxs H.size) (cwV 3 hw (good_V m_165 m_166 m_167 m_3 m_168) rfl rfl rfl hy_Tree_add ⟨Nat.le_of_ble_eq_true rfl, Nat.le_of_ble_eq_true rfl⟩) hE hP hD hS hA (va_recv hE.1 hP (ci := 2) (q0 := 0) rfl rfl) [0, 1, 2, 3, 4, 5, 6] rfl (by decide) rfl hl rfl (Nat.le_of_ble_eq_true rfl) d_Reader_word_30 ⟨Nat.le_of_ble_eq_true rfl, Nat.le_of_ble_eq_true rfl⟩) hP hD hS hA [0, 1, 2, 3, 4, 5, 6] [7, 8, 9] rfl rfl (by decide) (by decide) (fun r_8 u_9 H locs hw_10 hP hD hS => ?_)
    obtain ⟨kf2_11, nf2_12, gf2_13, sf2_14, size2_15⟩ := u_9
    try dsimp only at hw_10
    have h_16 := hw_10
    have hP : va_P G.1 vwCl [(rd, .inr (3, [.ref tr, .ref t, .int at0])), (tr, .inr (1, [.ref ta, .int tsz])), (ta, .inl (G.2.1 0, 1000, .inl tf)), (t, .inr (2, [.ref ka, .ref na, .ref ga, .ref sa, .ref xr, .int size2_15])), (ka, .inl (G.2.1 0, 1000, .inl kf2_11)), (na, .inl (G.2.1 1, 1000, .inl nf2_12)), (ga, .inl (G.2.1 1, 1000, .inl gf2_13)), (sa, .inl (G.2.1 1, 1000, .inl sf2_14)), (xr, .inr (1, [.ref xa, .int xsz])), (xa, .inl (G.2.1 0, 1000, .inl xf))] H := hP
    have hD : va_D A [(rd, .inr (3, [.ref tr, .ref t, .int at0])), (tr, .inr (1, [.ref ta, .int tsz])), (ta, .inl (G.2.1 0, 1000, .inl tf)), (t, .inr (2, [.ref ka, .ref na, .ref ga, .ref sa, .ref xr, .int size2_15])), (ka, .inl (G.2.1 0, 1000, .inl kf2_11)), (na, .inl (G.2.1 1, 1000, .inl nf2_12)), (ga, .inl (G.2.1 1, 1000, .inl gf2_13)), (sa, .inl (G.2.1 1, 1000, .inl sf2_14)), (xr, .inr (1, [.ref xa, .int xsz])), (xa, .inl (G.2.1 0, 1000, .inl xf))] := hD
    refine lv_pop hx hb d_Reader_word_33 rfl ?_
    refine lv_aload_n hx hb d_Reader_word_34 rfl (lv_at hl 2 rfl) ?_
    refine lv_dup hx hb d_Reader_word_35 rfl ?_
    refine va_get (D := G.1) (ci := 3) (v := .int at0) (C := R_Reader) (T := F_Reader) (N := 3) hx hb hw i_Reader hown hE.1 hP 0 rfl rfl 2 (by decide) (hw _ m_117) (fun _ h9 => h9) rfl d_Reader_word_36 ?_
    refine lv_iload_n hx hb d_Reader_word_39 rfl (lv_at hl 1 rfl) ?_
    refine lv_iadd hx hb d_Reader_word_40 ?_
    refine lv_topi (fun y_17 ey_17 => ?_)
    refine va_put (D := G.1) (ci := 3) (v := .int y_17) (ty := .int) (C := R_Reader) (T := F_Reader) (N := 3) hx hb hw i_Reader t_Reader t_Reader_ok n_Reader hown hE.1 hP hD hS 0 rfl rfl 2 (by decide) (hw _ m_117) (fun _ h9 => h9) rfl (by decide +kernel) rfl rfl (Nat.le_of_ble_eq_true rfl) d_Reader_word_41 (fun H locs hP hD hS => ?_)
    have hP : va_P G.1 vwCl [(rd, .inr (3, [.ref tr, .ref t, .int y_17])), (tr, .inr (1, [.ref ta, .int tsz])), (ta, .inl (G.2.1 0, 1000, .inl tf)), (t, .inr (2, [.ref ka, .ref na, .ref ga, .ref sa, .ref xr, .int size2_15])), (ka, .inl (G.2.1 0, 1000, .inl kf2_11)), (na, .inl (G.2.1 1, 1000, .inl nf2_12)), (ga, .inl (G.2.1 1, 1000, .inl gf2_13)), (sa, .inl (G.2.1 1, 1000, .inl sf2_14)), (xr, .inr (1, [.ref xa, .int xsz])), (xa, .inl (G.2.1 0, 1000, .inl xf))] H := hP
    have hD : va_D A [(rd, .inr (3, [.ref tr, .ref t, .int y_17])), (tr, .inr (1, [.ref ta, .int tsz])), (ta, .inl (G.2.1 0, 1000, .inl tf)), (t, .inr (2, [.ref ka, .ref na, .ref ga, .ref sa, .ref xr, .int size2_15])), (ka, .inl (G.2.1 0, 1000, .inl kf2_11)), (na, .inl (G.2.1 1, 1000, .inl nf2_12)), (ga, .inl (G.2.1 1, 1000, .inl gf2_13)), (sa, .inl (G.2.1 1, 1000, .inl sf2_14)), (xr, .inr (1, [.ref xa, .int xsz])), (xa, .inl (G.2.1 0, 1000, .inl xf))] := hD
    refine lv_iconst (v := 1) hx hb d_Reader_word_44 (by decide) ?_
    exact ret 1 (y_17, kf2_11, nf2_12, gf2_13, sf2_14, size2_15, xsz, xf) (Nat.le_of_ble_eq_true rfl) (Nat.le_of_ble_eq_true rfl) d_Reader_word_45 rfl ⟨h_16, hxs, (by first | assumption | decide)⟩ (hP.sub [0, 1, 2, 3, 4, 5, 6, 7, 8, 9] rfl) (hD.sub [0, 1, 2, 3, 4, 5, 6, 7, 8, 9] (by decide) rfl) hS
  · refine lv_iconst (v := 0) hx hb d_Reader_word_21 (by decide) ?_
    exact ret 0 (at0, kf, nf, gf, sf, size, xsz, xf) (Nat.le_of_ble_eq_true rfl) (Nat.le_of_ble_eq_true rfl) d_Reader_word_22 rfl ⟨hs, hxs, (by first | assumption | decide)⟩ (hP.sub [7, 8, 9, 0, 1, 2, 3, 4, 5, 6] rfl) (hD.sub [7, 8, 9, 0, 1, 2, 3, 4, 5, 6] (by decide) rfl) hS
def rm_Reader_number : Room := { frames := 3, cells := 0, slots := 0, locals := 70 }
set_option maxHeartbeats 4000000 in
set_option maxRecDepth 100000 in
theorem c_Reader_number (l : Launch) (G : GG) (rd : Nat) (at0 : Int32) (tr : Nat) (ta : Nat) (tsz : Int32) (tf : Nat → Int32) (t : Nat) (ka : Nat) (na : Nat) (ga : Nat) (sa : Nat) (xr : Nat) (xa : Nat) (kf : Nat → Int32) (nf : Nat → Int32) (gf : Nat → Int32) (sf : Nat → Int32) (size : Int32) (xsz : Int32) (xf : Nat → Int32) (htp : RowOk 1000 tsz) (hs : RowOk 1000 size) (hxs : RowOk 1000 xsz) : MI l y_Reader_number b_Reader_number 6 .boolean rm_Reader_number G [.ref rd] [(rd, .inr (3, [.ref tr, .ref t, .int at0])), (tr, .inr (1, [.ref ta, .int tsz])), (ta, .inl (G.2.1 0, 1000, .inl tf)), (t, .inr (2, [.ref ka, .ref na, .ref ga, .ref sa, .ref xr, .int size])), (ka, .inl (G.2.1 0, 1000, .inl kf)), (na, .inl (G.2.1 1, 1000, .inl nf)), (ga, .inl (G.2.1 1, 1000, .inl gf)), (sa, .inl (G.2.1 1, 1000, .inl sf)), (xr, .inr (1, [.ref xa, .int xsz])), (xa, .inl (G.2.1 0, 1000, .inl xf))] (fun (v : Int32) (u : Int32 × (Nat → Int32) × (Nat → Int32) × (Nat → Int32) × (Nat → Int32) × Int32 × Int32 × (Nat → Int32)) => (RowOk 1000 u.2.2.2.2.2.1) ∧ (RowOk 1000 u.2.2.2.2.2.2.1) ∧ (v = 0 ∨ v = 1)) (fun (u : Int32 × (Nat → Int32) × (Nat → Int32) × (Nat → Int32) × (Nat → Int32) × Int32 × Int32 × (Nat → Int32)) => [(rd, .inr (3, [.ref tr, .ref t, .int u.1])), (tr, .inr (1, [.ref ta, .int tsz])), (ta, .inl (G.2.1 0, 1000, .inl tf)), (t, .inr (2, [.ref ka, .ref na, .ref ga, .ref sa, .ref xr, .int u.2.2.2.2.2.1])), (ka, .inl (G.2.1 0, 1000, .inl u.2.1)), (na, .inl (G.2.1 1, 1000, .inl u.2.2.1)), (ga, .inl (G.2.1 1, 1000, .inl u.2.2.2.1)), (sa, .inl (G.2.1 1, 1000, .inl u.2.2.2.2.1)), (xr, .inr (1, [.ref xa, .int u.2.2.2.2.2.2.1])), (xa, .inl (G.2.1 0, 1000, .inl u.2.2.2.2.2.2.2))]) 0 0 := by
  refine MI.of (cc := b_Reader_number) (maxL := 6) (ty := .boolean) (C := R_Reader) (by decide +kernel) rfl (Nat.le_of_ble_eq_true rfl) ?_
  intro p e s m args below meth c A Q H ls hx hb hml hown hw hE hA hP hD hS ret hl
  have hl : lv_has ls 6 [(0, .ref rd)] := hl
  have J_147 : ∀ (x5_147 : Int32) (x4_147 : Int32) (x3_147 : Int32) (x2_147 : Int32) (x1_147 : Int32) (at2_147 : Int32) (kf2_147 : Nat → Int32) (nf2_147 : Nat → Int32) (gf2_147 : Nat → Int32) (sf2_147 : Nat → Int32) (size2_147 : Int32) (xsz2_147 : Int32) (xf2_147 : Nat → Int32) (hj0_147 : RowOk 1000 size2_147) (hj1_147 : RowOk 1000 xsz2_147) (H : Heap) (locs : List Loc), va_P G.1 vwCl [(rd, .inr (3, [.ref tr, .ref t, .int at2_147])), (tr, .inr (1, [.ref ta, .int tsz])), (ta, .inl (G.2.1 0, 1000, .inl tf)), (t, .inr (2, [.ref ka, .ref na, .ref ga, .ref sa, .ref xr, .int size2_147])), (ka, .inl (G.2.1 0, 1000, .inl kf2_147)), (na, .inl (G.2.1 1, 1000, .inl nf2_147)), (ga, .inl (G.2.1 1, 1000, .inl gf2_147)), (sa, .inl (G.2.1 1, 1000, .inl sf2_147)), (xr, .inr (1, [.ref xa, .int xsz2_147])), (xa, .inl (G.2.1 0, 1000, .inl xf2_147))] H → va_D A [(rd, .inr (3, [.ref tr, .ref t, .int at2_147])), (tr, .inr (1, [.ref ta, .int tsz])), (ta, .inl (G.2.1 0, 1000, .inl tf)), (t, .inr (2, [.ref ka, .ref na, .ref ga, .ref sa, .ref xr, .int size2_147])), (ka, .inl (G.2.1 0, 1000, .inl kf2_147)), (na, .inl (G.2.1 1, 1000, .inl nf2_147)), (ga, .inl (G.2.1 1, 1000, .inl gf2_147)), (sa, .inl (G.2.1 1, 1000, .inl sf2_147)), (xr, .inr (1, [.ref xa, .int xsz2_147])), (xa, .inl (G.2.1 0, 1000, .inl xf2_147))] → va_S A s.heap H locs → ∀ ls : Array Slot, lv_has ls 6 [(5, .int x5_147), (4, .int x4_147), (3, .int x3_147), (2, .int x2_147), (1, .int x1_147), (0, .ref rd)] → W p l e rm_Reader_number s m args below meth c H locs 0 0 Q (F0 m 147 ls []) := by
    intro x5_147 x4_147 x3_147 x2_147 x1_147 at2_147 kf2_147 nf2_147 gf2_147 sf2_147 size2_147 xsz2_147 xf2_147 hj0_147 hj1_147 H locs hP hD hS ls hl
    refine lv_aload_n hx hb d_Reader_number_147 rfl (lv_at hl 5 rfl) ?_
    refine va_get (D := G.1) (ci := 3) (v := .ref t) (C := R_Reader) (T := F_Reader) (N := 3) hx hb hw i_Reader hown hE.1 hP 0 rfl rfl 1 (by decide) (hw _ m_116) (fun _ h9 => h9) rfl d_Reader_number_148 ?_
    refine lv_iconst (v := 3) hx hb d_Reader_number_151 (by decide) ?_
    refine lv_aload_n hx hb d_Reader_number_152 rfl (lv_at hl 5 rfl) ?_
    refine lv_aload_n hx hb d_Reader_number_153 rfl (lv_at hl 5 rfl) ?_
    refine va_get (D := G.1) (ci := 3) (v := .int at2_147) (C := R_Reader) (T := F_Reader) (N := 3) hx hb hw i_Reader hown hE.1 hP 0 rfl rfl 2 (by decide) (hw _ m_117) (fun _ h9 => h9) rfl d_Reader_number_154 ?_
    refine lv_iload_n hx hb d_Reader_number_157 rfl (lv_at hl 4 rfl) ?_
    refine gc_i (wr := [(t, .inr (2, [.ref ka, .ref na, .ref ga, .ref sa, .ref xr, .int size2_147])), (ka, .inl (G.2.1 0, 1000, .inl kf2_147)), (na, .inl (G.2.1 1, 1000, .inl nf2_147)), (ga, .inl (G.2.1 1, 1000, .inl gf2_147)), (sa, .inl (G.2.1 1, 1000, .inl sf2_147)), (xr, .inr (1, [.ref xa, .int xsz2_147])), (xa, .inl (G.2.1 0, 1000, .inl xf2_147))]) (gc_V (wc := [(rd, .inr (3, [.ref tr, .ref t, .int at2_147])), (tr, .inr (1, [.ref ta, .int tsz])), (ta, .inl (G.2.1 0, 1000, .inl tf))]) (As := [.int at2_147, .int x1_147]) (rest := [.int 3, .ref t]) ⟨hx, hb, hml, hown, hw⟩ (c_Reader_numberAt l G rd t at2_147 tr ta tsz tf at2_147 x1_147 htp H.size) (cwV 2 hw (good_V m_247 m_249 ms_15 m_5 m_250) rfl rfl rfl hy_Reader_numberAt ⟨Nat.le_of_ble_eq_true rfl, Nat.le_of_ble_eq_true rfl⟩) hE hP hD hS hA (va_recv hE.1 hP (ci := 3) (q0 := 0) rfl rfl) [0, 1, 2] rfl (by decide) rfl hl rfl (Nat.le_of_ble_eq_true rfl) d_Reader_number_158 ⟨Nat.le_of_ble_eq_true rfl, Nat.le_of_ble_eq_true rfl⟩) hP hD hS hA [0, 1, 2] [3, 4, 5, 6, 7, 8, 9] rfl rfl (by decide) (by decide) (fun r_1 u_2 H locs hw_3 hP hD hS => ?_)
    have hP : va_P G.1 vwCl [(t, .inr (2, [.ref ka, .ref na, .ref ga, .ref sa, .ref xr, .int size2_147])), (ka, .inl (G.2.1 0, 1000, .inl kf2_147)), (na, .inl (G.2.1 1, 1000, .inl nf2_147)), (ga, .inl (G.2.1 1, 1000, .inl gf2_147)), (sa, .inl (G.2.1 1, 1000, .inl sf2_147)), (xr, .inr (1, [.ref xa, .int xsz2_147])), (xa, .inl (G.2.1 0, 1000, .inl xf2_147)), (rd, .inr (3, [.ref tr, .ref t, .int at2_147])), (tr, .inr (1, [.ref ta, .int tsz])), (ta, .inl (G.2.1 0, 1000, .inl tf))] H := hP
    have hD : va_D A [(t, .inr (2, [.ref ka, .ref na, .ref ga, .ref sa, .ref xr, .int size2_147])), (ka, .inl (G.2.1 0, 1000, .inl kf2_147)), (na, .inl (G.2.1 1, 1000, .inl nf2_147)), (ga, .inl (G.2.1 1, 1000, .inl gf2_147)), (sa, .inl (G.2.1 1, 1000, .inl sf2_147)), (xr, .inr (1, [.ref xa, .int xsz2_147])), (xa, .inl (G.2.1 0, 1000, .inl xf2_147)), (rd, .inr (3, [.ref tr, .ref t, .int at2_147])), (tr, .inr (1, [.ref ta, .int tsz])), (ta, .inl (G.2.1 0, 1000, .inl tf))] := hD
    refine lv_iconst (v := 0) hx hb d_Reader_number_161 (by decide) ?_
    refine gc_i (wr := [(rd, .inr (3, [.ref tr, .ref t, .int at2_147])), (tr, .inr (1, [.ref ta, .int tsz])), (ta, .inl (G.2.1 0, 1000, .inl tf))]) (gc_V (wc := [(t, .inr (2, [.ref ka, .ref na, .ref ga, .ref sa, .ref xr, .int size2_147])), (ka, .inl (G.2.1 0, 1000, .inl kf2_147)), (na, .inl (G.2.1 1, 1000, .inl nf2_147)), (ga, .inl (G.2.1 1, 1000, .inl gf2_147)), (sa, .inl (G.2.1 1, 1000, .inl sf2_147)), (xr, .inr (1, [.ref xa, .int xsz2_147])), (xa, .inl (G.2.1 0, 1000, .inl xf2_147))]) (As := [.int 3, .int r_1, .int 0]) (rest := []) ⟨hx, hb, hml, hown, hw⟩ (c_Tree_add l G t ka na ga sa xr xa kf2_147 nf2_147 gf2_147 sf2_147 size2_147 xsz2_147 xf2_147 3 r_1 0 hj0_147 hj1_147 H.size) (cwV 3 hw (good_V m_165 m_166 m_167 m_3 m_168) rfl rfl rfl hy_Tree_add ⟨Nat.le_of_ble_eq_true rfl, Nat.le_of_ble_eq_true rfl⟩) hE hP hD hS hA (va_recv hE.1 hP (ci := 2) (q0 := 0) rfl rfl) [0, 1, 2, 3, 4, 5, 6] rfl (by decide) rfl hl rfl (Nat.le_of_ble_eq_true rfl) d_Reader_number_162 ⟨Nat.le_of_ble_eq_true rfl, Nat.le_of_ble_eq_true rfl⟩) hP hD hS hA [0, 1, 2, 3, 4, 5, 6] [7, 8, 9] rfl rfl (by decide) (by decide) (fun r_4 u_5 H locs hw_6 hP hD hS => ?_)
    obtain ⟨kf2_7, nf2_8, gf2_9, sf2_10, size2_11⟩ := u_5
    try dsimp only at hw_6
    have h_12 := hw_6
    have hP : va_P G.1 vwCl [(rd, .inr (3, [.ref tr, .ref t, .int at2_147])), (tr, .inr (1, [.ref ta, .int tsz])), (ta, .inl (G.2.1 0, 1000, .inl tf)), (t, .inr (2, [.ref ka, .ref na, .ref ga, .ref sa, .ref xr, .int size2_11])), (ka, .inl (G.2.1 0, 1000, .inl kf2_7)), (na, .inl (G.2.1 1, 1000, .inl nf2_8)), (ga, .inl (G.2.1 1, 1000, .inl gf2_9)), (sa, .inl (G.2.1 1, 1000, .inl sf2_10)), (xr, .inr (1, [.ref xa, .int xsz2_147])), (xa, .inl (G.2.1 0, 1000, .inl xf2_147))] H := hP
    have hD : va_D A [(rd, .inr (3, [.ref tr, .ref t, .int at2_147])), (tr, .inr (1, [.ref ta, .int tsz])), (ta, .inl (G.2.1 0, 1000, .inl tf)), (t, .inr (2, [.ref ka, .ref na, .ref ga, .ref sa, .ref xr, .int size2_11])), (ka, .inl (G.2.1 0, 1000, .inl kf2_7)), (na, .inl (G.2.1 1, 1000, .inl nf2_8)), (ga, .inl (G.2.1 1, 1000, .inl gf2_9)), (sa, .inl (G.2.1 1, 1000, .inl sf2_10)), (xr, .inr (1, [.ref xa, .int xsz2_147])), (xa, .inl (G.2.1 0, 1000, .inl xf2_147))] := hD
    refine lv_pop hx hb d_Reader_number_165 rfl ?_
    refine lv_aload_n hx hb d_Reader_number_166 rfl (lv_at hl 5 rfl) ?_
    refine lv_dup hx hb d_Reader_number_167 rfl ?_
    refine va_get (D := G.1) (ci := 3) (v := .int at2_147) (C := R_Reader) (T := F_Reader) (N := 3) hx hb hw i_Reader hown hE.1 hP 0 rfl rfl 2 (by decide) (hw _ m_117) (fun _ h9 => h9) rfl d_Reader_number_168 ?_
    refine lv_iload_n hx hb d_Reader_number_171 rfl (lv_at hl 4 rfl) ?_
    refine lv_iadd hx hb d_Reader_number_172 ?_
    refine lv_topi (fun y_13 ey_13 => ?_)
    refine va_put (D := G.1) (ci := 3) (v := .int y_13) (ty := .int) (C := R_Reader) (T := F_Reader) (N := 3) hx hb hw i_Reader t_Reader t_Reader_ok n_Reader hown hE.1 hP hD hS 0 rfl rfl 2 (by decide) (hw _ m_117) (fun _ h9 => h9) rfl (by decide +kernel) rfl rfl (Nat.le_of_ble_eq_true rfl) d_Reader_number_173 (fun H locs hP hD hS => ?_)
    have hP : va_P G.1 vwCl [(rd, .inr (3, [.ref tr, .ref t, .int y_13])), (tr, .inr (1, [.ref ta, .int tsz])), (ta, .inl (G.2.1 0, 1000, .inl tf)), (t, .inr (2, [.ref ka, .ref na, .ref ga, .ref sa, .ref xr, .int size2_11])), (ka, .inl (G.2.1 0, 1000, .inl kf2_7)), (na, .inl (G.2.1 1, 1000, .inl nf2_8)), (ga, .inl (G.2.1 1, 1000, .inl gf2_9)), (sa, .inl (G.2.1 1, 1000, .inl sf2_10)), (xr, .inr (1, [.ref xa, .int xsz2_147])), (xa, .inl (G.2.1 0, 1000, .inl xf2_147))] H := hP
    have hD : va_D A [(rd, .inr (3, [.ref tr, .ref t, .int y_13])), (tr, .inr (1, [.ref ta, .int tsz])), (ta, .inl (G.2.1 0, 1000, .inl tf)), (t, .inr (2, [.ref ka, .ref na, .ref ga, .ref sa, .ref xr, .int size2_11])), (ka, .inl (G.2.1 0, 1000, .inl kf2_7)), (na, .inl (G.2.1 1, 1000, .inl nf2_8)), (ga, .inl (G.2.1 1, 1000, .inl gf2_9)), (sa, .inl (G.2.1 1, 1000, .inl sf2_10)), (xr, .inr (1, [.ref xa, .int xsz2_147])), (xa, .inl (G.2.1 0, 1000, .inl xf2_147))] := hD
    refine lv_iconst (v := 1) hx hb d_Reader_number_176 (by decide) ?_
    exact ret 1 (y_13, kf2_7, nf2_8, gf2_9, sf2_10, size2_11, xsz2_147, xf2_147) (Nat.le_of_ble_eq_true rfl) (Nat.le_of_ble_eq_true rfl) d_Reader_number_177 rfl ⟨h_12, hj1_147, (by first | assumption | decide)⟩ (hP.sub [0, 1, 2, 3, 4, 5, 6, 7, 8, 9] rfl) (hD.sub [0, 1, 2, 3, 4, 5, 6, 7, 8, 9] (by decide) rfl) hS
  have J_78 : ∀ (x4_78 : Int32) (x3_78 : Int32) (x2_78 : Int32) (x1_78 : Int32) (k0_78 : Int32) (at2_78 : Int32) (kf2_78 : Nat → Int32) (nf2_78 : Nat → Int32) (gf2_78 : Nat → Int32) (sf2_78 : Nat → Int32) (size2_78 : Int32) (xsz2_78 : Int32) (xf2_78 : Nat → Int32) (hj0_78 : RowOk 1000 size2_78) (hj1_78 : RowOk 1000 xsz2_78) (H : Heap) (locs : List Loc), va_P G.1 vwCl [(rd, .inr (3, [.ref tr, .ref t, .int at2_78])), (tr, .inr (1, [.ref ta, .int tsz])), (ta, .inl (G.2.1 0, 1000, .inl tf)), (t, .inr (2, [.ref ka, .ref na, .ref ga, .ref sa, .ref xr, .int size2_78])), (ka, .inl (G.2.1 0, 1000, .inl kf2_78)), (na, .inl (G.2.1 1, 1000, .inl nf2_78)), (ga, .inl (G.2.1 1, 1000, .inl gf2_78)), (sa, .inl (G.2.1 1, 1000, .inl sf2_78)), (xr, .inr (1, [.ref xa, .int xsz2_78])), (xa, .inl (G.2.1 0, 1000, .inl xf2_78))] H → va_D A [(rd, .inr (3, [.ref tr, .ref t, .int at2_78])), (tr, .inr (1, [.ref ta, .int tsz])), (ta, .inl (G.2.1 0, 1000, .inl tf)), (t, .inr (2, [.ref ka, .ref na, .ref ga, .ref sa, .ref xr, .int size2_78])), (ka, .inl (G.2.1 0, 1000, .inl kf2_78)), (na, .inl (G.2.1 1, 1000, .inl nf2_78)), (ga, .inl (G.2.1 1, 1000, .inl gf2_78)), (sa, .inl (G.2.1 1, 1000, .inl sf2_78)), (xr, .inr (1, [.ref xa, .int xsz2_78])), (xa, .inl (G.2.1 0, 1000, .inl xf2_78))] → va_S A s.heap H locs → ∀ ls : Array Slot, lv_has ls 6 [(4, .int x4_78), (3, .int x3_78), (2, .int x2_78), (1, .int x1_78), (0, .ref rd)] → W p l e rm_Reader_number s m args below meth c H locs 0 0 Q (F0 m 78 ls [.int k0_78]) := by
    intro x4_78 x3_78 x2_78 x1_78 k0_78 at2_78 kf2_78 nf2_78 gf2_78 sf2_78 size2_78 xsz2_78 xf2_78 hj0_78 hj1_78 H locs hP hD hS ls hl
    refine lv_istore (lv' := [(5, .int k0_78), (4, .int x4_78), (3, .int x3_78), (2, .int x2_78), (1, .int x1_78), (0, .ref rd)]) hx hb d_Reader_number_78 hl (by decide) rfl (fun ls hl => ?_)
    refine lv_iload hx hb d_Reader_number_80 (lv_at hl 0 rfl) ?_
    refine lv_if_eq (tgt := 147) hx hb d_Reader_number_82 (by decide) (fun c_14 => ?_) (fun c_14 => ?_)
    · exact J_147 k0_78 x4_78 x3_78 x2_78 x1_78 at2_78 kf2_78 nf2_78 gf2_78 sf2_78 size2_78 xsz2_78 xf2_78 hj0_78 hj1_78 _ _ (hP.sub [0, 1, 2, 3, 4, 5, 6, 7, 8, 9] rfl) (hD.sub [0, 1, 2, 3, 4, 5, 6, 7, 8, 9] (by decide) rfl) hS _ (lv_sub hl [0, 1, 2, 3, 4, 5] rfl)
    · refine lv_aload_n hx hb d_Reader_number_85 rfl (lv_at hl 5 rfl) ?_
      refine lv_sipush (v := 300) hx hb d_Reader_number_86 (by decide) ?_
      refine lv_aload_n hx hb d_Reader_number_89 rfl (lv_at hl 5 rfl) ?_
      refine va_get (D := G.1) (ci := 3) (v := .int at2_78) (C := R_Reader) (T := F_Reader) (N := 3) hx hb hw i_Reader hown hE.1 hP 0 rfl rfl 2 (by decide) (hw _ m_117) (fun _ h9 => h9) rfl d_Reader_number_90 ?_
      refine lv_iload_n hx hb d_Reader_number_93 rfl (lv_at hl 4 rfl) ?_
      refine gc_i (wr := [(t, .inr (2, [.ref ka, .ref na, .ref ga, .ref sa, .ref xr, .int size2_78])), (ka, .inl (G.2.1 0, 1000, .inl kf2_78)), (na, .inl (G.2.1 1, 1000, .inl nf2_78)), (ga, .inl (G.2.1 1, 1000, .inl gf2_78)), (sa, .inl (G.2.1 1, 1000, .inl sf2_78)), (xr, .inr (1, [.ref xa, .int xsz2_78])), (xa, .inl (G.2.1 0, 1000, .inl xf2_78))]) (gc_V (wc := [(rd, .inr (3, [.ref tr, .ref t, .int at2_78])), (tr, .inr (1, [.ref ta, .int tsz])), (ta, .inl (G.2.1 0, 1000, .inl tf))]) (As := [.int 300, .int at2_78, .int x1_78]) (rest := []) ⟨hx, hb, hml, hown, hw⟩ (c_Reader_isBelow l G rd t at2_78 tr ta tsz tf 300 at2_78 x1_78 htp H.size) (cwV 3 hw (good_V m_243 m_245 ms_14 m_5 m_246) rfl rfl rfl hy_Reader_isBelow ⟨Nat.le_of_ble_eq_true rfl, Nat.le_of_ble_eq_true rfl⟩) hE hP hD hS hA (va_recv hE.1 hP (ci := 3) (q0 := 0) rfl rfl) [0, 1, 2] rfl (by decide) rfl hl rfl (Nat.le_of_ble_eq_true rfl) d_Reader_number_94 ⟨Nat.le_of_ble_eq_true rfl, Nat.le_of_ble_eq_true rfl⟩) hP hD hS hA [0, 1, 2] [3, 4, 5, 6, 7, 8, 9] rfl rfl (by decide) (by decide) (fun r_15 u_16 H locs hw_17 hP hD hS => ?_)
      try dsimp only at hw_17
      have h_18 := hw_17
      have hP : va_P G.1 vwCl [(t, .inr (2, [.ref ka, .ref na, .ref ga, .ref sa, .ref xr, .int size2_78])), (ka, .inl (G.2.1 0, 1000, .inl kf2_78)), (na, .inl (G.2.1 1, 1000, .inl nf2_78)), (ga, .inl (G.2.1 1, 1000, .inl gf2_78)), (sa, .inl (G.2.1 1, 1000, .inl sf2_78)), (xr, .inr (1, [.ref xa, .int xsz2_78])), (xa, .inl (G.2.1 0, 1000, .inl xf2_78)), (rd, .inr (3, [.ref tr, .ref t, .int at2_78])), (tr, .inr (1, [.ref ta, .int tsz])), (ta, .inl (G.2.1 0, 1000, .inl tf))] H := hP
      have hD : va_D A [(t, .inr (2, [.ref ka, .ref na, .ref ga, .ref sa, .ref xr, .int size2_78])), (ka, .inl (G.2.1 0, 1000, .inl kf2_78)), (na, .inl (G.2.1 1, 1000, .inl nf2_78)), (ga, .inl (G.2.1 1, 1000, .inl gf2_78)), (sa, .inl (G.2.1 1, 1000, .inl sf2_78)), (xr, .inr (1, [.ref xa, .int xsz2_78])), (xa, .inl (G.2.1 0, 1000, .inl xf2_78)), (rd, .inr (3, [.ref tr, .ref t, .int at2_78])), (tr, .inr (1, [.ref ta, .int tsz])), (ta, .inl (G.2.1 0, 1000, .inl tf))] := hD
      refine lv_if_eq (tgt := 147) hx hb d_Reader_number_97 (by decide) (fun c_19 => ?_) (fun c_19 => ?_)
      · exact J_147 k0_78 x4_78 x3_78 x2_78 x1_78 at2_78 kf2_78 nf2_78 gf2_78 sf2_78 size2_78 xsz2_78 xf2_78 hj0_78 hj1_78 _ _ (hP.sub [7, 8, 9, 0, 1, 2, 3, 4, 5, 6] rfl) (hD.sub [7, 8, 9, 0, 1, 2, 3, 4, 5, 6] (by decide) rfl) hS _ (lv_sub hl [0, 1, 2, 3, 4, 5] rfl)
      · refine lv_aload_n hx hb d_Reader_number_100 rfl (lv_at hl 5 rfl) ?_
        refine lv_ldc (v := 65536) hx hb hown (hw _ m_251) d_Reader_number_101 ?_
        refine lv_iload_n hx hb d_Reader_number_103 rfl (lv_at hl 3 rfl) ?_
        refine lv_iload_n hx hb d_Reader_number_104 rfl (lv_at hl 2 rfl) ?_
        refine gc_i (wr := [(t, .inr (2, [.ref ka, .ref na, .ref ga, .ref sa, .ref xr, .int size2_78])), (ka, .inl (G.2.1 0, 1000, .inl kf2_78)), (na, .inl (G.2.1 1, 1000, .inl nf2_78)), (ga, .inl (G.2.1 1, 1000, .inl gf2_78)), (sa, .inl (G.2.1 1, 1000, .inl sf2_78)), (xr, .inr (1, [.ref xa, .int xsz2_78])), (xa, .inl (G.2.1 0, 1000, .inl xf2_78))]) (gc_V (wc := [(rd, .inr (3, [.ref tr, .ref t, .int at2_78])), (tr, .inr (1, [.ref ta, .int tsz])), (ta, .inl (G.2.1 0, 1000, .inl tf))]) (As := [.int 65536, .int x2_78, .int x3_78]) (rest := []) ⟨hx, hb, hml, hown, hw⟩ (c_Reader_isBelow l G rd t at2_78 tr ta tsz tf 65536 x2_78 x3_78 htp H.size) (cwV 3 hw (good_V m_243 m_245 ms_14 m_5 m_246) rfl rfl rfl hy_Reader_isBelow ⟨Nat.le_of_ble_eq_true rfl, Nat.le_of_ble_eq_true rfl⟩) hE hP hD hS hA (va_recv hE.1 hP (ci := 3) (q0 := 7) rfl rfl) [7, 8, 9] rfl (by decide) rfl hl rfl (Nat.le_of_ble_eq_true rfl) d_Reader_number_105 ⟨Nat.le_of_ble_eq_true rfl, Nat.le_of_ble_eq_true rfl⟩) hP hD hS hA [7, 8, 9] [0, 1, 2, 3, 4, 5, 6] rfl rfl (by decide) (by decide) (fun r_20 u_21 H locs hw_22 hP hD hS => ?_)
        try dsimp only at hw_22
        have h_23 := hw_22
        have hP : va_P G.1 vwCl [(t, .inr (2, [.ref ka, .ref na, .ref ga, .ref sa, .ref xr, .int size2_78])), (ka, .inl (G.2.1 0, 1000, .inl kf2_78)), (na, .inl (G.2.1 1, 1000, .inl nf2_78)), (ga, .inl (G.2.1 1, 1000, .inl gf2_78)), (sa, .inl (G.2.1 1, 1000, .inl sf2_78)), (xr, .inr (1, [.ref xa, .int xsz2_78])), (xa, .inl (G.2.1 0, 1000, .inl xf2_78)), (rd, .inr (3, [.ref tr, .ref t, .int at2_78])), (tr, .inr (1, [.ref ta, .int tsz])), (ta, .inl (G.2.1 0, 1000, .inl tf))] H := hP
        have hD : va_D A [(t, .inr (2, [.ref ka, .ref na, .ref ga, .ref sa, .ref xr, .int size2_78])), (ka, .inl (G.2.1 0, 1000, .inl kf2_78)), (na, .inl (G.2.1 1, 1000, .inl nf2_78)), (ga, .inl (G.2.1 1, 1000, .inl gf2_78)), (sa, .inl (G.2.1 1, 1000, .inl sf2_78)), (xr, .inr (1, [.ref xa, .int xsz2_78])), (xa, .inl (G.2.1 0, 1000, .inl xf2_78)), (rd, .inr (3, [.ref tr, .ref t, .int at2_78])), (tr, .inr (1, [.ref ta, .int tsz])), (ta, .inl (G.2.1 0, 1000, .inl tf))] := hD
        refine lv_if_eq (tgt := 147) hx hb d_Reader_number_108 (by decide) (fun c_24 => ?_) (fun c_24 => ?_)
        · exact J_147 k0_78 x4_78 x3_78 x2_78 x1_78 at2_78 kf2_78 nf2_78 gf2_78 sf2_78 size2_78 xsz2_78 xf2_78 hj0_78 hj1_78 _ _ (hP.sub [7, 8, 9, 0, 1, 2, 3, 4, 5, 6] rfl) (hD.sub [7, 8, 9, 0, 1, 2, 3, 4, 5, 6] (by decide) rfl) hS _ (lv_sub hl [0, 1, 2, 3, 4, 5] rfl)
        · refine lv_aload_n hx hb d_Reader_number_111 rfl (lv_at hl 5 rfl) ?_
          refine va_get (D := G.1) (ci := 3) (v := .ref t) (C := R_Reader) (T := F_Reader) (N := 3) hx hb hw i_Reader hown hE.1 hP 7 rfl rfl 1 (by decide) (hw _ m_116) (fun _ h9 => h9) rfl d_Reader_number_112 ?_
          refine lv_bipush (v := 8) hx hb d_Reader_number_115 (by decide) ?_
          refine lv_aload_n hx hb d_Reader_number_117 rfl (lv_at hl 5 rfl) ?_
          refine lv_aload_n hx hb d_Reader_number_118 rfl (lv_at hl 5 rfl) ?_
          refine va_get (D := G.1) (ci := 3) (v := .int at2_78) (C := R_Reader) (T := F_Reader) (N := 3) hx hb hw i_Reader hown hE.1 hP 7 rfl rfl 2 (by decide) (hw _ m_117) (fun _ h9 => h9) rfl d_Reader_number_119 ?_
          refine lv_iload_n hx hb d_Reader_number_122 rfl (lv_at hl 4 rfl) ?_
          refine gc_i (wr := [(t, .inr (2, [.ref ka, .ref na, .ref ga, .ref sa, .ref xr, .int size2_78])), (ka, .inl (G.2.1 0, 1000, .inl kf2_78)), (na, .inl (G.2.1 1, 1000, .inl nf2_78)), (ga, .inl (G.2.1 1, 1000, .inl gf2_78)), (sa, .inl (G.2.1 1, 1000, .inl sf2_78)), (xr, .inr (1, [.ref xa, .int xsz2_78])), (xa, .inl (G.2.1 0, 1000, .inl xf2_78))]) (gc_V (wc := [(rd, .inr (3, [.ref tr, .ref t, .int at2_78])), (tr, .inr (1, [.ref ta, .int tsz])), (ta, .inl (G.2.1 0, 1000, .inl tf))]) (As := [.int at2_78, .int x1_78]) (rest := [.int 8, .ref t]) ⟨hx, hb, hml, hown, hw⟩ (c_Reader_numberAt l G rd t at2_78 tr ta tsz tf at2_78 x1_78 htp H.size) (cwV 2 hw (good_V m_247 m_249 ms_15 m_5 m_250) rfl rfl rfl hy_Reader_numberAt ⟨Nat.le_of_ble_eq_true rfl, Nat.le_of_ble_eq_true rfl⟩) hE hP hD hS hA (va_recv hE.1 hP (ci := 3) (q0 := 7) rfl rfl) [7, 8, 9] rfl (by decide) rfl hl rfl (Nat.le_of_ble_eq_true rfl) d_Reader_number_123 ⟨Nat.le_of_ble_eq_true rfl, Nat.le_of_ble_eq_true rfl⟩) hP hD hS hA [7, 8, 9] [0, 1, 2, 3, 4, 5, 6] rfl rfl (by decide) (by decide) (fun r_25 u_26 H locs hw_27 hP hD hS => ?_)
          have hP : va_P G.1 vwCl [(t, .inr (2, [.ref ka, .ref na, .ref ga, .ref sa, .ref xr, .int size2_78])), (ka, .inl (G.2.1 0, 1000, .inl kf2_78)), (na, .inl (G.2.1 1, 1000, .inl nf2_78)), (ga, .inl (G.2.1 1, 1000, .inl gf2_78)), (sa, .inl (G.2.1 1, 1000, .inl sf2_78)), (xr, .inr (1, [.ref xa, .int xsz2_78])), (xa, .inl (G.2.1 0, 1000, .inl xf2_78)), (rd, .inr (3, [.ref tr, .ref t, .int at2_78])), (tr, .inr (1, [.ref ta, .int tsz])), (ta, .inl (G.2.1 0, 1000, .inl tf))] H := hP
          have hD : va_D A [(t, .inr (2, [.ref ka, .ref na, .ref ga, .ref sa, .ref xr, .int size2_78])), (ka, .inl (G.2.1 0, 1000, .inl kf2_78)), (na, .inl (G.2.1 1, 1000, .inl nf2_78)), (ga, .inl (G.2.1 1, 1000, .inl gf2_78)), (sa, .inl (G.2.1 1, 1000, .inl sf2_78)), (xr, .inr (1, [.ref xa, .int xsz2_78])), (xa, .inl (G.2.1 0, 1000, .inl xf2_78)), (rd, .inr (3, [.ref tr, .ref t, .int at2_78])), (tr, .inr (1, [.ref ta, .int tsz])), (ta, .inl (G.2.1 0, 1000, .inl tf))] := hD
          refine lv_aload_n hx hb d_Reader_number_126 rfl (lv_at hl 5 rfl) ?_
          refine lv_iload_n hx hb d_Reader_number_127 rfl (lv_at hl 3 rfl) ?_
          refine lv_iload_n hx hb d_Reader_number_128 rfl (lv_at hl 2 rfl) ?_
          refine gc_i (wr := [(t, .inr (2, [.ref ka, .ref na, .ref ga, .ref sa, .ref xr, .int size2_78])), (ka, .inl (G.2.1 0, 1000, .inl kf2_78)), (na, .inl (G.2.1 1, 1000, .inl nf2_78)), (ga, .inl (G.2.1 1, 1000, .inl gf2_78)), (sa, .inl (G.2.1 1, 1000, .inl sf2_78)), (xr, .inr (1, [.ref xa, .int xsz2_78])), (xa, .inl (G.2.1 0, 1000, .inl xf2_78))]) (gc_V (wc := [(rd, .inr (3, [.ref tr, .ref t, .int at2_78])), (tr, .inr (1, [.ref ta, .int tsz])), (ta, .inl (G.2.1 0, 1000, .inl tf))]) (As := [.int x2_78, .int x3_78]) (rest := [.int r_25, .int 8, .ref t]) ⟨hx, hb, hml, hown, hw⟩ (c_Reader_numberAt l G rd t at2_78 tr ta tsz tf x2_78 x3_78 htp H.size) (cwV 2 hw (good_V m_247 m_249 ms_15 m_5 m_250) rfl rfl rfl hy_Reader_numberAt ⟨Nat.le_of_ble_eq_true rfl, Nat.le_of_ble_eq_true rfl⟩) hE hP hD hS hA (va_recv hE.1 hP (ci := 3) (q0 := 7) rfl rfl) [7, 8, 9] rfl (by decide) rfl hl rfl (Nat.le_of_ble_eq_true rfl) d_Reader_number_129 ⟨Nat.le_of_ble_eq_true rfl, Nat.le_of_ble_eq_true rfl⟩) hP hD hS hA [7, 8, 9] [0, 1, 2, 3, 4, 5, 6] rfl rfl (by decide) (by decide) (fun r_28 u_29 H locs hw_30 hP hD hS => ?_)
          have hP : va_P G.1 vwCl [(t, .inr (2, [.ref ka, .ref na, .ref ga, .ref sa, .ref xr, .int size2_78])), (ka, .inl (G.2.1 0, 1000, .inl kf2_78)), (na, .inl (G.2.1 1, 1000, .inl nf2_78)), (ga, .inl (G.2.1 1, 1000, .inl gf2_78)), (sa, .inl (G.2.1 1, 1000, .inl sf2_78)), (xr, .inr (1, [.ref xa, .int xsz2_78])), (xa, .inl (G.2.1 0, 1000, .inl xf2_78)), (rd, .inr (3, [.ref tr, .ref t, .int at2_78])), (tr, .inr (1, [.ref ta, .int tsz])), (ta, .inl (G.2.1 0, 1000, .inl tf))] H := hP
          have hD : va_D A [(t, .inr (2, [.ref ka, .ref na, .ref ga, .ref sa, .ref xr, .int size2_78])), (ka, .inl (G.2.1 0, 1000, .inl kf2_78)), (na, .inl (G.2.1 1, 1000, .inl nf2_78)), (ga, .inl (G.2.1 1, 1000, .inl gf2_78)), (sa, .inl (G.2.1 1, 1000, .inl sf2_78)), (xr, .inr (1, [.ref xa, .int xsz2_78])), (xa, .inl (G.2.1 0, 1000, .inl xf2_78)), (rd, .inr (3, [.ref tr, .ref t, .int at2_78])), (tr, .inr (1, [.ref ta, .int tsz])), (ta, .inl (G.2.1 0, 1000, .inl tf))] := hD
          refine gc_i (wr := [(rd, .inr (3, [.ref tr, .ref t, .int at2_78])), (tr, .inr (1, [.ref ta, .int tsz])), (ta, .inl (G.2.1 0, 1000, .inl tf))]) (gc_V (wc := [(t, .inr (2, [.ref ka, .ref na, .ref ga, .ref sa, .ref xr, .int size2_78])), (ka, .inl (G.2.1 0, 1000, .inl kf2_78)), (na, .inl (G.2.1 1, 1000, .inl nf2_78)), (ga, .inl (G.2.1 1, 1000, .inl gf2_78)), (sa, .inl (G.2.1 1, 1000, .inl sf2_78)), (xr, .inr (1, [.ref xa, .int xsz2_78])), (xa, .inl (G.2.1 0, 1000, .inl xf2_78))]) (As := [.int 8, .int r_25, .int r_28]) (rest := []) ⟨hx, hb, hml, hown, hw⟩ (c_Tree_add l G t ka na ga sa xr xa kf2_78 nf2_78 gf2_78 sf2_78 size2_78 xsz2_78 xf2_78 8 r_25 r_28 hj0_78 hj1_78 H.size) (cwV 3 hw (good_V m_165 m_166 m_167 m_3 m_168) rfl rfl rfl hy_Tree_add ⟨Nat.le_of_ble_eq_true rfl, Nat.le_of_ble_eq_true rfl⟩) hE hP hD hS hA (va_recv hE.1 hP (ci := 2) (q0 := 0) rfl rfl) [0, 1, 2, 3, 4, 5, 6] rfl (by decide) rfl hl rfl (Nat.le_of_ble_eq_true rfl) d_Reader_number_132 ⟨Nat.le_of_ble_eq_true rfl, Nat.le_of_ble_eq_true rfl⟩) hP hD hS hA [0, 1, 2, 3, 4, 5, 6] [7, 8, 9] rfl rfl (by decide) (by decide) (fun r_31 u_32 H locs hw_33 hP hD hS => ?_)
          obtain ⟨kf2_34, nf2_35, gf2_36, sf2_37, size2_38⟩ := u_32
          try dsimp only at hw_33
          have h_39 := hw_33
          have hP : va_P G.1 vwCl [(rd, .inr (3, [.ref tr, .ref t, .int at2_78])), (tr, .inr (1, [.ref ta, .int tsz])), (ta, .inl (G.2.1 0, 1000, .inl tf)), (t, .inr (2, [.ref ka, .ref na, .ref ga, .ref sa, .ref xr, .int size2_38])), (ka, .inl (G.2.1 0, 1000, .inl kf2_34)), (na, .inl (G.2.1 1, 1000, .inl nf2_35)), (ga, .inl (G.2.1 1, 1000, .inl gf2_36)), (sa, .inl (G.2.1 1, 1000, .inl sf2_37)), (xr, .inr (1, [.ref xa, .int xsz2_78])), (xa, .inl (G.2.1 0, 1000, .inl xf2_78))] H := hP
          have hD : va_D A [(rd, .inr (3, [.ref tr, .ref t, .int at2_78])), (tr, .inr (1, [.ref ta, .int tsz])), (ta, .inl (G.2.1 0, 1000, .inl tf)), (t, .inr (2, [.ref ka, .ref na, .ref ga, .ref sa, .ref xr, .int size2_38])), (ka, .inl (G.2.1 0, 1000, .inl kf2_34)), (na, .inl (G.2.1 1, 1000, .inl nf2_35)), (ga, .inl (G.2.1 1, 1000, .inl gf2_36)), (sa, .inl (G.2.1 1, 1000, .inl sf2_37)), (xr, .inr (1, [.ref xa, .int xsz2_78])), (xa, .inl (G.2.1 0, 1000, .inl xf2_78))] := hD
          refine lv_pop hx hb d_Reader_number_135 rfl ?_
          refine lv_aload_n hx hb d_Reader_number_136 rfl (lv_at hl 5 rfl) ?_
          refine lv_iload hx hb d_Reader_number_137 (lv_at hl 1 rfl) ?_
          refine lv_iconst (v := 1) hx hb d_Reader_number_139 (by decide) ?_
          refine lv_iadd hx hb d_Reader_number_140 ?_
          refine lv_topi (fun y_40 ey_40 => ?_)
          refine va_put (D := G.1) (ci := 3) (v := .int y_40) (ty := .int) (C := R_Reader) (T := F_Reader) (N := 3) hx hb hw i_Reader t_Reader t_Reader_ok n_Reader hown hE.1 hP hD hS 0 rfl rfl 2 (by decide) (hw _ m_117) (fun _ h9 => h9) rfl (by decide +kernel) rfl rfl (Nat.le_of_ble_eq_true rfl) d_Reader_number_141 (fun H locs hP hD hS => ?_)
          have hP : va_P G.1 vwCl [(rd, .inr (3, [.ref tr, .ref t, .int y_40])), (tr, .inr (1, [.ref ta, .int tsz])), (ta, .inl (G.2.1 0, 1000, .inl tf)), (t, .inr (2, [.ref ka, .ref na, .ref ga, .ref sa, .ref xr, .int size2_38])), (ka, .inl (G.2.1 0, 1000, .inl kf2_34)), (na, .inl (G.2.1 1, 1000, .inl nf2_35)), (ga, .inl (G.2.1 1, 1000, .inl gf2_36)), (sa, .inl (G.2.1 1, 1000, .inl sf2_37)), (xr, .inr (1, [.ref xa, .int xsz2_78])), (xa, .inl (G.2.1 0, 1000, .inl xf2_78))] H := hP
          have hD : va_D A [(rd, .inr (3, [.ref tr, .ref t, .int y_40])), (tr, .inr (1, [.ref ta, .int tsz])), (ta, .inl (G.2.1 0, 1000, .inl tf)), (t, .inr (2, [.ref ka, .ref na, .ref ga, .ref sa, .ref xr, .int size2_38])), (ka, .inl (G.2.1 0, 1000, .inl kf2_34)), (na, .inl (G.2.1 1, 1000, .inl nf2_35)), (ga, .inl (G.2.1 1, 1000, .inl gf2_36)), (sa, .inl (G.2.1 1, 1000, .inl sf2_37)), (xr, .inr (1, [.ref xa, .int xsz2_78])), (xa, .inl (G.2.1 0, 1000, .inl xf2_78))] := hD
          refine lv_goto (tgt := 176) hx hb d_Reader_number_144 (by decide) ?_
          refine lv_iconst (v := 1) hx hb d_Reader_number_176 (by decide) ?_
          exact ret 1 (y_40, kf2_34, nf2_35, gf2_36, sf2_37, size2_38, xsz2_78, xf2_78) (Nat.le_of_ble_eq_true rfl) (Nat.le_of_ble_eq_true rfl) d_Reader_number_177 rfl ⟨h_39, hj1_78, (by first | assumption | decide)⟩ (hP.sub [0, 1, 2, 3, 4, 5, 6, 7, 8, 9] rfl) (hD.sub [0, 1, 2, 3, 4, 5, 6, 7, 8, 9] (by decide) rfl) hS
  have J_77 : ∀ (x4_77 : Int32) (x3_77 : Int32) (x2_77 : Int32) (x1_77 : Int32) (at2_77 : Int32) (kf2_77 : Nat → Int32) (nf2_77 : Nat → Int32) (gf2_77 : Nat → Int32) (sf2_77 : Nat → Int32) (size2_77 : Int32) (xsz2_77 : Int32) (xf2_77 : Nat → Int32) (hj0_77 : RowOk 1000 size2_77) (hj1_77 : RowOk 1000 xsz2_77) (H : Heap) (locs : List Loc), va_P G.1 vwCl [(rd, .inr (3, [.ref tr, .ref t, .int at2_77])), (tr, .inr (1, [.ref ta, .int tsz])), (ta, .inl (G.2.1 0, 1000, .inl tf)), (t, .inr (2, [.ref ka, .ref na, .ref ga, .ref sa, .ref xr, .int size2_77])), (ka, .inl (G.2.1 0, 1000, .inl kf2_77)), (na, .inl (G.2.1 1, 1000, .inl nf2_77)), (ga, .inl (G.2.1 1, 1000, .inl gf2_77)), (sa, .inl (G.2.1 1, 1000, .inl sf2_77)), (xr, .inr (1, [.ref xa, .int xsz2_77])), (xa, .inl (G.2.1 0, 1000, .inl xf2_77))] H → va_D A [(rd, .inr (3, [.ref tr, .ref t, .int at2_77])), (tr, .inr (1, [.ref ta, .int tsz])), (ta, .inl (G.2.1 0, 1000, .inl tf)), (t, .inr (2, [.ref ka, .ref na, .ref ga, .ref sa, .ref xr, .int size2_77])), (ka, .inl (G.2.1 0, 1000, .inl kf2_77)), (na, .inl (G.2.1 1, 1000, .inl nf2_77)), (ga, .inl (G.2.1 1, 1000, .inl gf2_77)), (sa, .inl (G.2.1 1, 1000, .inl sf2_77)), (xr, .inr (1, [.ref xa, .int xsz2_77])), (xa, .inl (G.2.1 0, 1000, .inl xf2_77))] → va_S A s.heap H locs → ∀ ls : Array Slot, lv_has ls 6 [(4, .int x4_77), (3, .int x3_77), (2, .int x2_77), (1, .int x1_77), (0, .ref rd)] → W p l e rm_Reader_number s m args below meth c H locs 0 0 Q (F0 m 77 ls []) := by
    intro x4_77 x3_77 x2_77 x1_77 at2_77 kf2_77 nf2_77 gf2_77 sf2_77 size2_77 xsz2_77 xf2_77 hj0_77 hj1_77 H locs hP hD hS ls hl
    refine lv_iconst (v := 0) hx hb d_Reader_number_77 (by decide) ?_
    exact J_78 x4_77 x3_77 x2_77 x1_77 0 at2_77 kf2_77 nf2_77 gf2_77 sf2_77 size2_77 xsz2_77 xf2_77 hj0_77 hj1_77 _ _ (hP.sub [0, 1, 2, 3, 4, 5, 6, 7, 8, 9] rfl) (hD.sub [0, 1, 2, 3, 4, 5, 6, 7, 8, 9] (by decide) rfl) hS _ (lv_sub hl [0, 1, 2, 3, 4] rfl)
  refine lv_aload_n hx hb d_Reader_number_0 rfl (lv_at hl 0 rfl) ?_
  refine lv_aload_n hx hb d_Reader_number_1 rfl (lv_at hl 0 rfl) ?_
  refine va_get (D := G.1) (ci := 3) (v := .int at0) (C := R_Reader) (T := F_Reader) (N := 3) hx hb hw i_Reader hown hE.1 hP 0 rfl rfl 2 (by decide) (hw _ m_117) (fun _ h9 => h9) rfl d_Reader_number_2 ?_
  refine gc_i (wr := [(t, .inr (2, [.ref ka, .ref na, .ref ga, .ref sa, .ref xr, .int size])), (ka, .inl (G.2.1 0, 1000, .inl kf)), (na, .inl (G.2.1 1, 1000, .inl nf)), (ga, .inl (G.2.1 1, 1000, .inl gf)), (sa, .inl (G.2.1 1, 1000, .inl sf)), (xr, .inr (1, [.ref xa, .int xsz])), (xa, .inl (G.2.1 0, 1000, .inl xf))]) (gc_V (wc := [(rd, .inr (3, [.ref tr, .ref t, .int at0])), (tr, .inr (1, [.ref ta, .int tsz])), (ta, .inl (G.2.1 0, 1000, .inl tf))]) (As := [.int at0]) (rest := []) ⟨hx, hb, hml, hown, hw⟩ (c_Reader_wordLength l G rd t at0 tr ta tsz tf at0 htp H.size) (cwV 1 hw (good_V m_154 m_156 ms_3 m_5 m_157) rfl rfl rfl hy_Reader_wordLength ⟨Nat.le_of_ble_eq_true rfl, Nat.le_of_ble_eq_true rfl⟩) hE hP hD hS hA (va_recv hE.1 hP (ci := 3) (q0 := 0) rfl rfl) [0, 1, 2] rfl (by decide) rfl hl rfl (Nat.le_of_ble_eq_true rfl) d_Reader_number_5 ⟨Nat.le_of_ble_eq_true rfl, Nat.le_of_ble_eq_true rfl⟩) hP hD hS hA [0, 1, 2] [3, 4, 5, 6, 7, 8, 9] rfl rfl (by decide) (by decide) (fun r_41 u_42 H locs hw_43 hP hD hS => ?_)
  have hP : va_P G.1 vwCl [(t, .inr (2, [.ref ka, .ref na, .ref ga, .ref sa, .ref xr, .int size])), (ka, .inl (G.2.1 0, 1000, .inl kf)), (na, .inl (G.2.1 1, 1000, .inl nf)), (ga, .inl (G.2.1 1, 1000, .inl gf)), (sa, .inl (G.2.1 1, 1000, .inl sf)), (xr, .inr (1, [.ref xa, .int xsz])), (xa, .inl (G.2.1 0, 1000, .inl xf)), (rd, .inr (3, [.ref tr, .ref t, .int at0])), (tr, .inr (1, [.ref ta, .int tsz])), (ta, .inl (G.2.1 0, 1000, .inl tf))] H := hP
  have hD : va_D A [(t, .inr (2, [.ref ka, .ref na, .ref ga, .ref sa, .ref xr, .int size])), (ka, .inl (G.2.1 0, 1000, .inl kf)), (na, .inl (G.2.1 1, 1000, .inl nf)), (ga, .inl (G.2.1 1, 1000, .inl gf)), (sa, .inl (G.2.1 1, 1000, .inl sf)), (xr, .inr (1, [.ref xa, .int xsz])), (xa, .inl (G.2.1 0, 1000, .inl xf)), (rd, .inr (3, [.ref tr, .ref t, .int at0])), (tr, .inr (1, [.ref ta, .int tsz])), (ta, .inl (G.2.1 0, 1000, .inl tf))] := hD
  refine lv_istore_n (lv' := [(1, .int r_41), (0, .ref rd)]) hx hb d_Reader_number_8 rfl hl (by decide) rfl (fun ls hl => ?_)
  refine lv_aload_n hx hb d_Reader_number_9 rfl (lv_at hl 1 rfl) ?_
  refine lv_aload_n hx hb d_Reader_number_10 rfl (lv_at hl 1 rfl) ?_
  refine va_get (D := G.1) (ci := 3) (v := .int at0) (C := R_Reader) (T := F_Reader) (N := 3) hx hb hw i_Reader hown hE.1 hP 7 rfl rfl 2 (by decide) (hw _ m_117) (fun _ h9 => h9) rfl d_Reader_number_11 ?_
  refine lv_iload_n hx hb d_Reader_number_14 rfl (lv_at hl 0 rfl) ?_
  refine gc_i (wr := [(t, .inr (2, [.ref ka, .ref na, .ref ga, .ref sa, .ref xr, .int size])), (ka, .inl (G.2.1 0, 1000, .inl kf)), (na, .inl (G.2.1 1, 1000, .inl nf)), (ga, .inl (G.2.1 1, 1000, .inl gf)), (sa, .inl (G.2.1 1, 1000, .inl sf)), (xr, .inr (1, [.ref xa, .int xsz])), (xa, .inl (G.2.1 0, 1000, .inl xf))]) (gc_V (wc := [(rd, .inr (3, [.ref tr, .ref t, .int at0])), (tr, .inr (1, [.ref ta, .int tsz])), (ta, .inl (G.2.1 0, 1000, .inl tf))]) (As := [.int at0, .int r_41]) (rest := []) ⟨hx, hb, hml, hown, hw⟩ (c_Reader_isInt l G rd t at0 tr ta tsz tf at0 r_41 htp H.size) (cwV 2 hw (good_V m_239 m_241 ms_13 m_5 m_242) rfl rfl rfl hy_Reader_isInt ⟨Nat.le_of_ble_eq_true rfl, Nat.le_of_ble_eq_true rfl⟩) hE hP hD hS hA (va_recv hE.1 hP (ci := 3) (q0 := 7) rfl rfl) [7, 8, 9] rfl (by decide) rfl hl rfl (Nat.le_of_ble_eq_true rfl) d_Reader_number_15 ⟨Nat.le_of_ble_eq_true rfl, Nat.le_of_ble_eq_true rfl⟩) hP hD hS hA [7, 8, 9] [0, 1, 2, 3, 4, 5, 6] rfl rfl (by decide) (by decide) (fun r_44 u_45 H locs hw_46 hP hD hS => ?_)
  try dsimp only at hw_46
  have h_47 := hw_46
  have hP : va_P G.1 vwCl [(t, .inr (2, [.ref ka, .ref na, .ref ga, .ref sa, .ref xr, .int size])), (ka, .inl (G.2.1 0, 1000, .inl kf)), (na, .inl (G.2.1 1, 1000, .inl nf)), (ga, .inl (G.2.1 1, 1000, .inl gf)), (sa, .inl (G.2.1 1, 1000, .inl sf)), (xr, .inr (1, [.ref xa, .int xsz])), (xa, .inl (G.2.1 0, 1000, .inl xf)), (rd, .inr (3, [.ref tr, .ref t, .int at0])), (tr, .inr (1, [.ref ta, .int tsz])), (ta, .inl (G.2.1 0, 1000, .inl tf))] H := hP
  have hD : va_D A [(t, .inr (2, [.ref ka, .ref na, .ref ga, .ref sa, .ref xr, .int size])), (ka, .inl (G.2.1 0, 1000, .inl kf)), (na, .inl (G.2.1 1, 1000, .inl nf)), (ga, .inl (G.2.1 1, 1000, .inl gf)), (sa, .inl (G.2.1 1, 1000, .inl sf)), (xr, .inr (1, [.ref xa, .int xsz])), (xa, .inl (G.2.1 0, 1000, .inl xf)), (rd, .inr (3, [.ref tr, .ref t, .int at0])), (tr, .inr (1, [.ref ta, .int tsz])), (ta, .inl (G.2.1 0, 1000, .inl tf))] := hD
  refine lv_if_ne (tgt := 23) hx hb d_Reader_number_18 (by decide) (fun c_48 => ?_) (fun c_48 => ?_)
  · refine lv_aload_n hx hb d_Reader_number_23 rfl (lv_at hl 1 rfl) ?_
    refine lv_aload_n hx hb d_Reader_number_24 rfl (lv_at hl 1 rfl) ?_
    refine va_get (D := G.1) (ci := 3) (v := .int at0) (C := R_Reader) (T := F_Reader) (N := 3) hx hb hw i_Reader hown hE.1 hP 7 rfl rfl 2 (by decide) (hw _ m_117) (fun _ h9 => h9) rfl d_Reader_number_25 ?_
    refine lv_iload_n hx hb d_Reader_number_28 rfl (lv_at hl 0 rfl) ?_
    refine lv_iadd hx hb d_Reader_number_29 ?_
    refine lv_topi (fun y_49 ey_49 => ?_)
    refine gc_i (wr := [(t, .inr (2, [.ref ka, .ref na, .ref ga, .ref sa, .ref xr, .int size])), (ka, .inl (G.2.1 0, 1000, .inl kf)), (na, .inl (G.2.1 1, 1000, .inl nf)), (ga, .inl (G.2.1 1, 1000, .inl gf)), (sa, .inl (G.2.1 1, 1000, .inl sf)), (xr, .inr (1, [.ref xa, .int xsz])), (xa, .inl (G.2.1 0, 1000, .inl xf))]) (gc_V (wc := [(rd, .inr (3, [.ref tr, .ref t, .int at0])), (tr, .inr (1, [.ref ta, .int tsz])), (ta, .inl (G.2.1 0, 1000, .inl tf))]) (As := [.int y_49]) (rest := []) ⟨hx, hb, hml, hown, hw⟩ (c_Reader_afterWhite l G rd t at0 tr ta tsz tf y_49 htp H.size) (cwV 1 hw (good_V m_138 m_140 ms_1 m_5 m_141) rfl rfl rfl hy_Reader_afterWhite ⟨Nat.le_of_ble_eq_true rfl, Nat.le_of_ble_eq_true rfl⟩) hE hP hD hS hA (va_recv hE.1 hP (ci := 3) (q0 := 7) rfl rfl) [7, 8, 9] rfl (by decide) rfl hl rfl (Nat.le_of_ble_eq_true rfl) d_Reader_number_30 ⟨Nat.le_of_ble_eq_true rfl, Nat.le_of_ble_eq_true rfl⟩) hP hD hS hA [7, 8, 9] [0, 1, 2, 3, 4, 5, 6] rfl rfl (by decide) (by decide) (fun r_50 u_51 H locs hw_52 hP hD hS => ?_)
    have hP : va_P G.1 vwCl [(t, .inr (2, [.ref ka, .ref na, .ref ga, .ref sa, .ref xr, .int size])), (ka, .inl (G.2.1 0, 1000, .inl kf)), (na, .inl (G.2.1 1, 1000, .inl nf)), (ga, .inl (G.2.1 1, 1000, .inl gf)), (sa, .inl (G.2.1 1, 1000, .inl sf)), (xr, .inr (1, [.ref xa, .int xsz])), (xa, .inl (G.2.1 0, 1000, .inl xf)), (rd, .inr (3, [.ref tr, .ref t, .int at0])), (tr, .inr (1, [.ref ta, .int tsz])), (ta, .inl (G.2.1 0, 1000, .inl tf))] H := hP
    have hD : va_D A [(t, .inr (2, [.ref ka, .ref na, .ref ga, .ref sa, .ref xr, .int size])), (ka, .inl (G.2.1 0, 1000, .inl kf)), (na, .inl (G.2.1 1, 1000, .inl nf)), (ga, .inl (G.2.1 1, 1000, .inl gf)), (sa, .inl (G.2.1 1, 1000, .inl sf)), (xr, .inr (1, [.ref xa, .int xsz])), (xa, .inl (G.2.1 0, 1000, .inl xf)), (rd, .inr (3, [.ref tr, .ref t, .int at0])), (tr, .inr (1, [.ref ta, .int tsz])), (ta, .inl (G.2.1 0, 1000, .inl tf))] := hD
    refine lv_istore_n (lv' := [(2, .int r_50), (1, .int r_41), (0, .ref rd)]) hx hb d_Reader_number_33 rfl hl (by decide) rfl (fun ls hl => ?_)
    refine lv_aload_n hx hb d_Reader_number_34 rfl (lv_at hl 2 rfl) ?_
    refine lv_iload_n hx hb d_Reader_number_35 rfl (lv_at hl 0 rfl) ?_
    refine gc_i (wr := [(t, .inr (2, [.ref ka, .ref na, .ref ga, .ref sa, .ref xr, .int size])), (ka, .inl (G.2.1 0, 1000, .inl kf)), (na, .inl (G.2.1 1, 1000, .inl nf)), (ga, .inl (G.2.1 1, 1000, .inl gf)), (sa, .inl (G.2.1 1, 1000, .inl sf)), (xr, .inr (1, [.ref xa, .int xsz])), (xa, .inl (G.2.1 0, 1000, .inl xf))]) (gc_V (wc := [(rd, .inr (3, [.ref tr, .ref t, .int at0])), (tr, .inr (1, [.ref ta, .int tsz])), (ta, .inl (G.2.1 0, 1000, .inl tf))]) (As := [.int r_50]) (rest := []) ⟨hx, hb, hml, hown, hw⟩ (c_Reader_wordLength l G rd t at0 tr ta tsz tf r_50 htp H.size) (cwV 1 hw (good_V m_154 m_156 ms_3 m_5 m_157) rfl rfl rfl hy_Reader_wordLength ⟨Nat.le_of_ble_eq_true rfl, Nat.le_of_ble_eq_true rfl⟩) hE hP hD hS hA (va_recv hE.1 hP (ci := 3) (q0 := 7) rfl rfl) [7, 8, 9] rfl (by decide) rfl hl rfl (Nat.le_of_ble_eq_true rfl) d_Reader_number_36 ⟨Nat.le_of_ble_eq_true rfl, Nat.le_of_ble_eq_true rfl⟩) hP hD hS hA [7, 8, 9] [0, 1, 2, 3, 4, 5, 6] rfl rfl (by decide) (by decide) (fun r_53 u_54 H locs hw_55 hP hD hS => ?_)
    have hP : va_P G.1 vwCl [(t, .inr (2, [.ref ka, .ref na, .ref ga, .ref sa, .ref xr, .int size])), (ka, .inl (G.2.1 0, 1000, .inl kf)), (na, .inl (G.2.1 1, 1000, .inl nf)), (ga, .inl (G.2.1 1, 1000, .inl gf)), (sa, .inl (G.2.1 1, 1000, .inl sf)), (xr, .inr (1, [.ref xa, .int xsz])), (xa, .inl (G.2.1 0, 1000, .inl xf)), (rd, .inr (3, [.ref tr, .ref t, .int at0])), (tr, .inr (1, [.ref ta, .int tsz])), (ta, .inl (G.2.1 0, 1000, .inl tf))] H := hP
    have hD : va_D A [(t, .inr (2, [.ref ka, .ref na, .ref ga, .ref sa, .ref xr, .int size])), (ka, .inl (G.2.1 0, 1000, .inl kf)), (na, .inl (G.2.1 1, 1000, .inl nf)), (ga, .inl (G.2.1 1, 1000, .inl gf)), (sa, .inl (G.2.1 1, 1000, .inl sf)), (xr, .inr (1, [.ref xa, .int xsz])), (xa, .inl (G.2.1 0, 1000, .inl xf)), (rd, .inr (3, [.ref tr, .ref t, .int at0])), (tr, .inr (1, [.ref ta, .int tsz])), (ta, .inl (G.2.1 0, 1000, .inl tf))] := hD
    refine lv_istore_n (lv' := [(3, .int r_53), (2, .int r_50), (1, .int r_41), (0, .ref rd)]) hx hb d_Reader_number_39 rfl hl (by decide) rfl (fun ls hl => ?_)
    refine lv_aload_n hx hb d_Reader_number_40 rfl (lv_at hl 3 rfl) ?_
    refine lv_iload_n hx hb d_Reader_number_41 rfl (lv_at hl 1 rfl) ?_
    refine lv_iload_n hx hb d_Reader_number_42 rfl (lv_at hl 0 rfl) ?_
    refine lv_iadd hx hb d_Reader_number_43 ?_
    refine lv_topi (fun y_56 ey_56 => ?_)
    refine gc_i (wr := [(t, .inr (2, [.ref ka, .ref na, .ref ga, .ref sa, .ref xr, .int size])), (ka, .inl (G.2.1 0, 1000, .inl kf)), (na, .inl (G.2.1 1, 1000, .inl nf)), (ga, .inl (G.2.1 1, 1000, .inl gf)), (sa, .inl (G.2.1 1, 1000, .inl sf)), (xr, .inr (1, [.ref xa, .int xsz])), (xa, .inl (G.2.1 0, 1000, .inl xf))]) (gc_V (wc := [(rd, .inr (3, [.ref tr, .ref t, .int at0])), (tr, .inr (1, [.ref ta, .int tsz])), (ta, .inl (G.2.1 0, 1000, .inl tf))]) (As := [.int y_56]) (rest := []) ⟨hx, hb, hml, hown, hw⟩ (c_Reader_afterWhite l G rd t at0 tr ta tsz tf y_56 htp H.size) (cwV 1 hw (good_V m_138 m_140 ms_1 m_5 m_141) rfl rfl rfl hy_Reader_afterWhite ⟨Nat.le_of_ble_eq_true rfl, Nat.le_of_ble_eq_true rfl⟩) hE hP hD hS hA (va_recv hE.1 hP (ci := 3) (q0 := 7) rfl rfl) [7, 8, 9] rfl (by decide) rfl hl rfl (Nat.le_of_ble_eq_true rfl) d_Reader_number_44 ⟨Nat.le_of_ble_eq_true rfl, Nat.le_of_ble_eq_true rfl⟩) hP hD hS hA [7, 8, 9] [0, 1, 2, 3, 4, 5, 6] rfl rfl (by decide) (by decide) (fun r_57 u_58 H locs hw_59 hP hD hS => ?_)
    have hP : va_P G.1 vwCl [(t, .inr (2, [.ref ka, .ref na, .ref ga, .ref sa, .ref xr, .int size])), (ka, .inl (G.2.1 0, 1000, .inl kf)), (na, .inl (G.2.1 1, 1000, .inl nf)), (ga, .inl (G.2.1 1, 1000, .inl gf)), (sa, .inl (G.2.1 1, 1000, .inl sf)), (xr, .inr (1, [.ref xa, .int xsz])), (xa, .inl (G.2.1 0, 1000, .inl xf)), (rd, .inr (3, [.ref tr, .ref t, .int at0])), (tr, .inr (1, [.ref ta, .int tsz])), (ta, .inl (G.2.1 0, 1000, .inl tf))] H := hP
    have hD : va_D A [(t, .inr (2, [.ref ka, .ref na, .ref ga, .ref sa, .ref xr, .int size])), (ka, .inl (G.2.1 0, 1000, .inl kf)), (na, .inl (G.2.1 1, 1000, .inl nf)), (ga, .inl (G.2.1 1, 1000, .inl gf)), (sa, .inl (G.2.1 1, 1000, .inl sf)), (xr, .inr (1, [.ref xa, .int xsz])), (xa, .inl (G.2.1 0, 1000, .inl xf)), (rd, .inr (3, [.ref tr, .ref t, .int at0])), (tr, .inr (1, [.ref ta, .int tsz])), (ta, .inl (G.2.1 0, 1000, .inl tf))] := hD
    refine lv_istore (lv' := [(4, .int r_57), (3, .int r_53), (2, .int r_50), (1, .int r_41), (0, .ref rd)]) hx hb d_Reader_number_47 hl (by decide) rfl (fun ls hl => ?_)
    refine lv_aload_n hx hb d_Reader_number_49 rfl (lv_at hl 4 rfl) ?_
    refine lv_iload hx hb d_Reader_number_50 (lv_at hl 0 rfl) ?_
    refine gc_i (wr := [(t, .inr (2, [.ref ka, .ref na, .ref ga, .ref sa, .ref xr, .int size])), (ka, .inl (G.2.1 0, 1000, .inl kf)), (na, .inl (G.2.1 1, 1000, .inl nf)), (ga, .inl (G.2.1 1, 1000, .inl gf)), (sa, .inl (G.2.1 1, 1000, .inl sf)), (xr, .inr (1, [.ref xa, .int xsz])), (xa, .inl (G.2.1 0, 1000, .inl xf))]) (gc_V (wc := [(rd, .inr (3, [.ref tr, .ref t, .int at0])), (tr, .inr (1, [.ref ta, .int tsz])), (ta, .inl (G.2.1 0, 1000, .inl tf))]) (As := [.int r_57]) (rest := []) ⟨hx, hb, hml, hown, hw⟩ (c_Reader_wordLength l G rd t at0 tr ta tsz tf r_57 htp H.size) (cwV 1 hw (good_V m_154 m_156 ms_3 m_5 m_157) rfl rfl rfl hy_Reader_wordLength ⟨Nat.le_of_ble_eq_true rfl, Nat.le_of_ble_eq_true rfl⟩) hE hP hD hS hA (va_recv hE.1 hP (ci := 3) (q0 := 7) rfl rfl) [7, 8, 9] rfl (by decide) rfl hl rfl (Nat.le_of_ble_eq_true rfl) d_Reader_number_52 ⟨Nat.le_of_ble_eq_true rfl, Nat.le_of_ble_eq_true rfl⟩) hP hD hS hA [7, 8, 9] [0, 1, 2, 3, 4, 5, 6] rfl rfl (by decide) (by decide) (fun r_60 u_61 H locs hw_62 hP hD hS => ?_)
    have hP : va_P G.1 vwCl [(t, .inr (2, [.ref ka, .ref na, .ref ga, .ref sa, .ref xr, .int size])), (ka, .inl (G.2.1 0, 1000, .inl kf)), (na, .inl (G.2.1 1, 1000, .inl nf)), (ga, .inl (G.2.1 1, 1000, .inl gf)), (sa, .inl (G.2.1 1, 1000, .inl sf)), (xr, .inr (1, [.ref xa, .int xsz])), (xa, .inl (G.2.1 0, 1000, .inl xf)), (rd, .inr (3, [.ref tr, .ref t, .int at0])), (tr, .inr (1, [.ref ta, .int tsz])), (ta, .inl (G.2.1 0, 1000, .inl tf))] H := hP
    have hD : va_D A [(t, .inr (2, [.ref ka, .ref na, .ref ga, .ref sa, .ref xr, .int size])), (ka, .inl (G.2.1 0, 1000, .inl kf)), (na, .inl (G.2.1 1, 1000, .inl nf)), (ga, .inl (G.2.1 1, 1000, .inl gf)), (sa, .inl (G.2.1 1, 1000, .inl sf)), (xr, .inr (1, [.ref xa, .int xsz])), (xa, .inl (G.2.1 0, 1000, .inl xf)), (rd, .inr (3, [.ref tr, .ref t, .int at0])), (tr, .inr (1, [.ref ta, .int tsz])), (ta, .inl (G.2.1 0, 1000, .inl tf))] := hD
    refine lv_iconst (v := 1) hx hb d_Reader_number_55 (by decide) ?_
    refine lv_icmp_ne (tgt := 77) hx hb d_Reader_number_56 (by decide) (fun c_63 => ?_) (fun c_63 => ?_)
    · exact J_77 r_57 r_53 r_50 r_41 at0 kf nf gf sf size xsz xf hs hxs _ _ (hP.sub [7, 8, 9, 0, 1, 2, 3, 4, 5, 6] rfl) (hD.sub [7, 8, 9, 0, 1, 2, 3, 4, 5, 6] (by decide) rfl) hS _ (lv_sub hl [0, 1, 2, 3, 4] rfl)
    · refine lv_aload_n hx hb d_Reader_number_59 rfl (lv_at hl 4 rfl) ?_
      refine va_get (D := G.1) (ci := 3) (v := .ref tr) (C := R_Reader) (T := F_Reader) (N := 3) hx hb hw i_Reader hown hE.1 hP 7 rfl rfl 0 (by decide) (hw _ m_115) (fun _ h9 => h9) rfl d_Reader_number_60 ?_
      refine lv_iload hx hb d_Reader_number_63 (lv_at hl 0 rfl) ?_
      refine gc_i (wr := [(t, .inr (2, [.ref ka, .ref na, .ref ga, .ref sa, .ref xr, .int size])), (ka, .inl (G.2.1 0, 1000, .inl kf)), (na, .inl (G.2.1 1, 1000, .inl nf)), (ga, .inl (G.2.1 1, 1000, .inl gf)), (sa, .inl (G.2.1 1, 1000, .inl sf)), (xr, .inr (1, [.ref xa, .int xsz])), (xa, .inl (G.2.1 0, 1000, .inl xf)), (rd, .inr (3, [.ref tr, .ref t, .int at0]))]) (gc_V (wc := [(tr, .inr (1, [.ref ta, .int tsz])), (ta, .inl (G.2.1 0, 1000, .inl tf))]) (As := [.int r_57]) (rest := []) ⟨hx, hb, hml, hown, hw⟩ (c_Row_get l G tr ta 1000 tsz tf r_57 (by decide) htp H.size) (cwV 1 hw (good_V m_143 m_144 m_145 m_2 m_146) rfl rfl rfl hy_Row_get ⟨Nat.le_of_ble_eq_true rfl, Nat.le_of_ble_eq_true rfl⟩) hE hP hD hS hA (va_recv hE.1 hP (ci := 1) (q0 := 8) rfl rfl) [8, 9] rfl (by decide) rfl hl rfl (Nat.le_of_ble_eq_true rfl) d_Reader_number_65 ⟨Nat.le_of_ble_eq_true rfl, Nat.le_of_ble_eq_true rfl⟩) hP hD hS hA [8, 9] [0, 1, 2, 3, 4, 5, 6, 7] rfl rfl (by decide) (by decide) (fun r_64 u_65 H locs hw_66 hP hD hS => ?_)
      have hP : va_P G.1 vwCl [(t, .inr (2, [.ref ka, .ref na, .ref ga, .ref sa, .ref xr, .int size])), (ka, .inl (G.2.1 0, 1000, .inl kf)), (na, .inl (G.2.1 1, 1000, .inl nf)), (ga, .inl (G.2.1 1, 1000, .inl gf)), (sa, .inl (G.2.1 1, 1000, .inl sf)), (xr, .inr (1, [.ref xa, .int xsz])), (xa, .inl (G.2.1 0, 1000, .inl xf)), (rd, .inr (3, [.ref tr, .ref t, .int at0])), (tr, .inr (1, [.ref ta, .int tsz])), (ta, .inl (G.2.1 0, 1000, .inl tf))] H := hP
      have hD : va_D A [(t, .inr (2, [.ref ka, .ref na, .ref ga, .ref sa, .ref xr, .int size])), (ka, .inl (G.2.1 0, 1000, .inl kf)), (na, .inl (G.2.1 1, 1000, .inl nf)), (ga, .inl (G.2.1 1, 1000, .inl gf)), (sa, .inl (G.2.1 1, 1000, .inl sf)), (xr, .inr (1, [.ref xa, .int xsz])), (xa, .inl (G.2.1 0, 1000, .inl xf)), (rd, .inr (3, [.ref tr, .ref t, .int at0])), (tr, .inr (1, [.ref ta, .int tsz])), (ta, .inl (G.2.1 0, 1000, .inl tf))] := hD
      refine lv_bipush (v := 82) hx hb d_Reader_number_68 (by decide) ?_
      refine lv_icmp_ne (tgt := 77) hx hb d_Reader_number_70 (by decide) (fun c_67 => ?_) (fun c_67 => ?_)
      · exact J_77 r_57 r_53 r_50 r_41 at0 kf nf gf sf size xsz xf hs hxs _ _ (hP.sub [7, 8, 9, 0, 1, 2, 3, 4, 5, 6] rfl) (hD.sub [7, 8, 9, 0, 1, 2, 3, 4, 5, 6] (by decide) rfl) hS _ (lv_sub hl [0, 1, 2, 3, 4] rfl)
      · refine lv_iconst (v := 1) hx hb d_Reader_number_73 (by decide) ?_
        refine lv_goto (tgt := 78) hx hb d_Reader_number_74 (by decide) ?_
        exact J_78 r_57 r_53 r_50 r_41 1 at0 kf nf gf sf size xsz xf hs hxs _ _ (hP.sub [7, 8, 9, 0, 1, 2, 3, 4, 5, 6] rfl) (hD.sub [7, 8, 9, 0, 1, 2, 3, 4, 5, 6] (by decide) rfl) hS _ (lv_sub hl [0, 1, 2, 3, 4] rfl)
  · refine lv_iconst (v := 0) hx hb d_Reader_number_21 (by decide) ?_
    exact ret 0 (at0, kf, nf, gf, sf, size, xsz, xf) (Nat.le_of_ble_eq_true rfl) (Nat.le_of_ble_eq_true rfl) d_Reader_number_22 rfl ⟨hs, hxs, (by first | assumption | decide)⟩ (hP.sub [7, 8, 9, 0, 1, 2, 3, 4, 5, 6] rfl) (hD.sub [7, 8, 9, 0, 1, 2, 3, 4, 5, 6] (by decide) rfl) hS
def rm_Reader_init : Room := { frames := 1, cells := 0, slots := 0, locals := 12 }
set_option maxHeartbeats 4000000 in
set_option maxRecDepth 100000 in
theorem c_Reader_init (l : Launch) (G : GG) (rd : Nat) (tr : Nat) (t : Nat) : MV l y_Reader_init b_Reader_init 3 rm_Reader_init G [.ref rd, .ref tr, .ref t] [(rd, .inr (3, [.null, .null, .int 0]))] (fun (u : Unit) => True) (fun (u : Unit) => [(rd, .inr (3, [.ref tr, .ref t, .int 0]))]) 0 0 := by
  refine MV.of (cc := b_Reader_init) (maxL := 3) (C := R_Reader) (by decide +kernel) rfl (Nat.le_of_ble_eq_true rfl) ?_
  intro p e s m args below meth c A Q H ls hx hb hml hown hw hE hA hP hD hS hin ret hl
  have hl : lv_has ls 3 [(0, .ref rd), (1, .ref tr), (2, .ref t)] := hl
  refine lv_aload_n hx hb d_Reader_init_0 rfl (lv_at hl 0 rfl) ?_
  refine W.objInit hx hb hown (hw _ m_114) (hw _ m_21) (hw _ m_oi) rfl (by rw [hml]; exact hl.1) rfl d_Reader_init_1 (Nat.le_of_ble_eq_true rfl) (Nat.le_of_ble_eq_true rfl) ?_
  refine W.eq (g2 := F0 m 4 ls []) rfl ?_
  refine lv_aload_n hx hb d_Reader_init_4 rfl (lv_at hl 0 rfl) ?_
  refine lv_aload_n hx hb d_Reader_init_5 rfl (lv_at hl 1 rfl) ?_
  refine va_putF (D := G.1) (ci := 3) (v := .ref tr) (ty := (.object "ValueTexts$Row")) (C := R_Reader) (T := F_Reader) (N := 3) hx hb hw i_Reader t_Reader t_Reader_ok n_Reader hown hE.1 hP hD hS 0 rfl rfl 0 (by decide) (hw _ m_115) (fun _ h9 => h9) rfl hin rfl (by decide +kernel) rfl rfl (Nat.le_of_ble_eq_true rfl) d_Reader_init_6 (fun H locs hP hD hS => ?_)
  have hP : va_P G.1 vwCl [(rd, .inr (3, [.ref tr, .null, .int 0]))] H := hP
  have hD : va_D A [(rd, .inr (3, [.ref tr, .null, .int 0]))] := hD
  refine lv_aload_n hx hb d_Reader_init_9 rfl (lv_at hl 0 rfl) ?_
  refine lv_aload_n hx hb d_Reader_init_10 rfl (lv_at hl 2 rfl) ?_
  refine va_putF (D := G.1) (ci := 3) (v := .ref t) (ty := (.object "ValueTexts$Tree")) (C := R_Reader) (T := F_Reader) (N := 3) hx hb hw i_Reader t_Reader t_Reader_ok n_Reader hown hE.1 hP hD hS 0 rfl rfl 1 (by decide) (hw _ m_116) (fun _ h9 => h9) rfl hin rfl (by decide +kernel) rfl rfl (Nat.le_of_ble_eq_true rfl) d_Reader_init_11 (fun H locs hP hD hS => ?_)
  have hP : va_P G.1 vwCl [(rd, .inr (3, [.ref tr, .ref t, .int 0]))] H := hP
  have hD : va_D A [(rd, .inr (3, [.ref tr, .ref t, .int 0]))] := hD
  refine lv_aload_n hx hb d_Reader_init_14 rfl (lv_at hl 0 rfl) ?_
  refine lv_iconst (v := 0) hx hb d_Reader_init_15 (by decide) ?_
  refine va_put (D := G.1) (ci := 3) (v := .int 0) (ty := .int) (C := R_Reader) (T := F_Reader) (N := 3) hx hb hw i_Reader t_Reader t_Reader_ok n_Reader hown hE.1 hP hD hS 0 rfl rfl 2 (by decide) (hw _ m_117) (fun _ h9 => h9) rfl (by decide +kernel) rfl rfl (Nat.le_of_ble_eq_true rfl) d_Reader_init_16 (fun H locs hP hD hS => ?_)
  have hP : va_P G.1 vwCl [(rd, .inr (3, [.ref tr, .ref t, .int 0]))] H := hP
  have hD : va_D A [(rd, .inr (3, [.ref tr, .ref t, .int 0]))] := hD
  exact ret () (Nat.le_of_ble_eq_true rfl) (Nat.le_of_ble_eq_true rfl) d_Reader_init_19 trivial (hP.sub [0] rfl) (hD.sub [0] (by decide) rfl) hS
end
section
def rm_Ra (n : Nat) : Room := { frames := 7 + 2 * n, cells := 0, slots := 0, locals := 151 + 45 * n }
def rm_Ro (n : Nat) : Room := { frames := 7 + (2 * n + 1), cells := 0, slots := 0, locals := 151 + (45 * n + 24) }
theorem rd_pred {d : Int32} {n : Nat} (hd : d.toInt = 8 - (n : Int)) (c : d < 8) : ∃ kk, n = kk + 1 := by
  rw [z_lt, show (8 : Int32).toInt = 8 from by decide] at c
  exact ⟨n - 1, by omega⟩
theorem rd_next {d y : Int32} {n kk : Nat} (hd : d.toInt = 8 - (n : Int)) (h : n = kk + 1) (e : y = d + 1) : y.toInt = 8 - (kk : Int) := by
  have h1 := z_b d
  rw [e, z_add (by rw [z_1]; omega) (by rw [z_1]; omega), z_1]
  omega
def C_object (l : Launch) (G : GG) (n : Nat) : Prop := ∀ (rd : Nat) (at0 : Int32) (tr : Nat) (ta : Nat) (tsz : Int32) (tf : Nat → Int32) (t : Nat) (ka : Nat) (na : Nat) (ga : Nat) (sa : Nat) (xr : Nat) (xa : Nat) (kf : Nat → Int32) (nf : Nat → Int32) (gf : Nat → Int32) (sf : Nat → Int32) (size : Int32) (xsz : Int32) (xf : Nat → Int32) (d : Int32) (htp : RowOk 1000 tsz) (hs : RowOk 1000 size) (hxs : RowOk 1000 xsz) (hd : d.toInt = 8 - (n : Int)), MI l y_Reader_object b_Reader_object 2 .boolean (rm_Ro n) G [.ref rd, .int d] [(rd, .inr (3, [.ref tr, .ref t, .int at0])), (tr, .inr (1, [.ref ta, .int tsz])), (ta, .inl (G.2.1 0, 1000, .inl tf)), (t, .inr (2, [.ref ka, .ref na, .ref ga, .ref sa, .ref xr, .int size])), (ka, .inl (G.2.1 0, 1000, .inl kf)), (na, .inl (G.2.1 1, 1000, .inl nf)), (ga, .inl (G.2.1 1, 1000, .inl gf)), (sa, .inl (G.2.1 1, 1000, .inl sf)), (xr, .inr (1, [.ref xa, .int xsz])), (xa, .inl (G.2.1 0, 1000, .inl xf))] (fun (v : Int32) (u : Int32 × (Nat → Int32) × (Nat → Int32) × (Nat → Int32) × (Nat → Int32) × Int32 × Int32 × (Nat → Int32)) => (RowOk 1000 u.2.2.2.2.2.1) ∧ (RowOk 1000 u.2.2.2.2.2.2.1) ∧ (v = 0 ∨ v = 1)) (fun (u : Int32 × (Nat → Int32) × (Nat → Int32) × (Nat → Int32) × (Nat → Int32) × Int32 × Int32 × (Nat → Int32)) => [(rd, .inr (3, [.ref tr, .ref t, .int u.1])), (tr, .inr (1, [.ref ta, .int tsz])), (ta, .inl (G.2.1 0, 1000, .inl tf)), (t, .inr (2, [.ref ka, .ref na, .ref ga, .ref sa, .ref xr, .int u.2.2.2.2.2.1])), (ka, .inl (G.2.1 0, 1000, .inl u.2.1)), (na, .inl (G.2.1 1, 1000, .inl u.2.2.1)), (ga, .inl (G.2.1 1, 1000, .inl u.2.2.2.1)), (sa, .inl (G.2.1 1, 1000, .inl u.2.2.2.2.1)), (xr, .inr (1, [.ref xa, .int u.2.2.2.2.2.2.1])), (xa, .inl (G.2.1 0, 1000, .inl u.2.2.2.2.2.2.2))]) 0 0
def C_array (l : Launch) (G : GG) (n : Nat) : Prop := ∀ (rd : Nat) (at0 : Int32) (tr : Nat) (ta : Nat) (tsz : Int32) (tf : Nat → Int32) (t : Nat) (ka : Nat) (na : Nat) (ga : Nat) (sa : Nat) (xr : Nat) (xa : Nat) (kf : Nat → Int32) (nf : Nat → Int32) (gf : Nat → Int32) (sf : Nat → Int32) (size : Int32) (xsz : Int32) (xf : Nat → Int32) (d : Int32) (htp : RowOk 1000 tsz) (hs : RowOk 1000 size) (hxs : RowOk 1000 xsz) (hd : d.toInt = 8 - (n : Int)), MI l y_Reader_array b_Reader_array 4 .boolean (rm_Ra n) G [.ref rd, .int d] [(rd, .inr (3, [.ref tr, .ref t, .int at0])), (tr, .inr (1, [.ref ta, .int tsz])), (ta, .inl (G.2.1 0, 1000, .inl tf)), (t, .inr (2, [.ref ka, .ref na, .ref ga, .ref sa, .ref xr, .int size])), (ka, .inl (G.2.1 0, 1000, .inl kf)), (na, .inl (G.2.1 1, 1000, .inl nf)), (ga, .inl (G.2.1 1, 1000, .inl gf)), (sa, .inl (G.2.1 1, 1000, .inl sf)), (xr, .inr (1, [.ref xa, .int xsz])), (xa, .inl (G.2.1 0, 1000, .inl xf))] (fun (v : Int32) (u : Int32 × (Nat → Int32) × (Nat → Int32) × (Nat → Int32) × (Nat → Int32) × Int32 × Int32 × (Nat → Int32)) => (RowOk 1000 u.2.2.2.2.2.1) ∧ (RowOk 1000 u.2.2.2.2.2.2.1) ∧ (v = 0 ∨ v = 1)) (fun (u : Int32 × (Nat → Int32) × (Nat → Int32) × (Nat → Int32) × (Nat → Int32) × Int32 × Int32 × (Nat → Int32)) => [(rd, .inr (3, [.ref tr, .ref t, .int u.1])), (tr, .inr (1, [.ref ta, .int tsz])), (ta, .inl (G.2.1 0, 1000, .inl tf)), (t, .inr (2, [.ref ka, .ref na, .ref ga, .ref sa, .ref xr, .int u.2.2.2.2.2.1])), (ka, .inl (G.2.1 0, 1000, .inl u.2.1)), (na, .inl (G.2.1 1, 1000, .inl u.2.2.1)), (ga, .inl (G.2.1 1, 1000, .inl u.2.2.2.1)), (sa, .inl (G.2.1 1, 1000, .inl u.2.2.2.2.1)), (xr, .inr (1, [.ref xa, .int u.2.2.2.2.2.2.1])), (xa, .inl (G.2.1 0, 1000, .inl u.2.2.2.2.2.2.2))]) 0 0
def C_dict (l : Launch) (G : GG) (n : Nat) : Prop := ∀ (rd : Nat) (at0 : Int32) (tr : Nat) (ta : Nat) (tsz : Int32) (tf : Nat → Int32) (t : Nat) (ka : Nat) (na : Nat) (ga : Nat) (sa : Nat) (xr : Nat) (xa : Nat) (kf : Nat → Int32) (nf : Nat → Int32) (gf : Nat → Int32) (sf : Nat → Int32) (size : Int32) (xsz : Int32) (xf : Nat → Int32) (d : Int32) (htp : RowOk 1000 tsz) (hs : RowOk 1000 size) (hxs : RowOk 1000 xsz) (hd : d.toInt = 8 - (n : Int)), MI l y_Reader_dict b_Reader_dict 5 .boolean (rm_Ra n) G [.ref rd, .int d] [(rd, .inr (3, [.ref tr, .ref t, .int at0])), (tr, .inr (1, [.ref ta, .int tsz])), (ta, .inl (G.2.1 0, 1000, .inl tf)), (t, .inr (2, [.ref ka, .ref na, .ref ga, .ref sa, .ref xr, .int size])), (ka, .inl (G.2.1 0, 1000, .inl kf)), (na, .inl (G.2.1 1, 1000, .inl nf)), (ga, .inl (G.2.1 1, 1000, .inl gf)), (sa, .inl (G.2.1 1, 1000, .inl sf)), (xr, .inr (1, [.ref xa, .int xsz])), (xa, .inl (G.2.1 0, 1000, .inl xf))] (fun (v : Int32) (u : Int32 × (Nat → Int32) × (Nat → Int32) × (Nat → Int32) × (Nat → Int32) × Int32 × Int32 × (Nat → Int32)) => (RowOk 1000 u.2.2.2.2.2.1) ∧ (RowOk 1000 u.2.2.2.2.2.2.1) ∧ (v = 0 ∨ v = 1)) (fun (u : Int32 × (Nat → Int32) × (Nat → Int32) × (Nat → Int32) × (Nat → Int32) × Int32 × Int32 × (Nat → Int32)) => [(rd, .inr (3, [.ref tr, .ref t, .int u.1])), (tr, .inr (1, [.ref ta, .int tsz])), (ta, .inl (G.2.1 0, 1000, .inl tf)), (t, .inr (2, [.ref ka, .ref na, .ref ga, .ref sa, .ref xr, .int u.2.2.2.2.2.1])), (ka, .inl (G.2.1 0, 1000, .inl u.2.1)), (na, .inl (G.2.1 1, 1000, .inl u.2.2.1)), (ga, .inl (G.2.1 1, 1000, .inl u.2.2.2.1)), (sa, .inl (G.2.1 1, 1000, .inl u.2.2.2.2.1)), (xr, .inr (1, [.ref xa, .int u.2.2.2.2.2.2.1])), (xa, .inl (G.2.1 0, 1000, .inl u.2.2.2.2.2.2.2))]) 0 0
set_option maxHeartbeats 4000000 in
set_option maxRecDepth 100000 in
theorem s_array (l : Launch) (G : GG) (n : Nat) (ho : ∀ k, n = k + 1 → C_object l G k) : C_array l G n := by
  intro rd at0 tr ta tsz tf t ka na ga sa xr xa kf nf gf sf size xsz xf d htp hs hxs hd
  refine MI.of (cc := b_Reader_array) (maxL := 4) (ty := .boolean) (C := R_Reader) (by decide +kernel) rfl (Nat.le_of_ble_eq_true rfl) ?_
  intro p e s m args below meth c A Q H ls hx hb hml hown hw hE hA hP hD hS ret hl
  have hl : lv_has ls 4 [(0, .ref rd), (1, .int d)] := hl
  have J_32 : ∀ (fu : Nat) (x3_32 : Int32) (x2_32 : Int32) (at2_32 : Int32) (kf2_32 : Nat → Int32) (nf2_32 : Nat → Int32) (gf2_32 : Nat → Int32) (sf2_32 : Nat → Int32) (size2_32 : Int32) (xsz2_32 : Int32) (xf2_32 : Nat → Int32) (hj0_32 : RowOk 1000 size2_32) (hj1_32 : RowOk 1000 xsz2_32) (hk0_32 : d < 8), ((60 : Int32).toInt + 1 - x3_32.toInt).toNat < fu → ∀ (H : Heap) (locs : List Loc), va_P G.1 vwCl [(rd, .inr (3, [.ref tr, .ref t, .int at2_32])), (tr, .inr (1, [.ref ta, .int tsz])), (ta, .inl (G.2.1 0, 1000, .inl tf)), (t, .inr (2, [.ref ka, .ref na, .ref ga, .ref sa, .ref xr, .int size2_32])), (ka, .inl (G.2.1 0, 1000, .inl kf2_32)), (na, .inl (G.2.1 1, 1000, .inl nf2_32)), (ga, .inl (G.2.1 1, 1000, .inl gf2_32)), (sa, .inl (G.2.1 1, 1000, .inl sf2_32)), (xr, .inr (1, [.ref xa, .int xsz2_32])), (xa, .inl (G.2.1 0, 1000, .inl xf2_32))] H → va_D A [(rd, .inr (3, [.ref tr, .ref t, .int at2_32])), (tr, .inr (1, [.ref ta, .int tsz])), (ta, .inl (G.2.1 0, 1000, .inl tf)), (t, .inr (2, [.ref ka, .ref na, .ref ga, .ref sa, .ref xr, .int size2_32])), (ka, .inl (G.2.1 0, 1000, .inl kf2_32)), (na, .inl (G.2.1 1, 1000, .inl nf2_32)), (ga, .inl (G.2.1 1, 1000, .inl gf2_32)), (sa, .inl (G.2.1 1, 1000, .inl sf2_32)), (xr, .inr (1, [.ref xa, .int xsz2_32])), (xa, .inl (G.2.1 0, 1000, .inl xf2_32))] → va_S A s.heap H locs → ∀ ls : Array Slot, lv_has ls 4 [(3, .int x3_32), (2, .int x2_32), (0, .ref rd), (1, .int d)] → W p l e (rm_Ra n) s m args below meth c H locs 0 0 Q (F0 m 32 ls []) := by
    intro fu
    induction fu with
    | zero =>
      intro x3_32 x2_32 at2_32 kf2_32 nf2_32 gf2_32 sf2_32 size2_32 xsz2_32 xf2_32 hj0_32 hj1_32 hk0_32 hm
      exact absurd hm (Nat.not_lt_zero _)
    | succ fu ih_32 =>
      intro x3_32 x2_32 at2_32 kf2_32 nf2_32 gf2_32 sf2_32 size2_32 xsz2_32 xf2_32 hj0_32 hj1_32 hk0_32 hm_32 H locs hP hD hS ls hl
      refine lv_iload_n hx hb d_Reader_array_32 rfl (lv_at hl 0 rfl) ?_
      refine lv_bipush (v := 60) hx hb d_Reader_array_33 (by decide) ?_
      refine lv_icmp_gt (tgt := 104) hx hb d_Reader_array_35 (by decide) (fun c_1 => ?_) (fun c_1 => ?_)
      · refine lv_iconst (v := 0) hx hb d_Reader_array_104 (by decide) ?_
        exact ret 0 (at2_32, kf2_32, nf2_32, gf2_32, sf2_32, size2_32, xsz2_32, xf2_32) (Nat.le_of_ble_eq_true rfl) (Nat.le_of_ble_eq_true rfl) d_Reader_array_105 rfl ⟨hj0_32, hj1_32, (by first | assumption | decide)⟩ (hP.sub [0, 1, 2, 3, 4, 5, 6, 7, 8, 9] rfl) (hD.sub [0, 1, 2, 3, 4, 5, 6, 7, 8, 9] (by decide) rfl) hS
      · refine lv_aload_n hx hb d_Reader_array_38 rfl (lv_at hl 2 rfl) ?_
        refine lv_aload_n hx hb d_Reader_array_39 rfl (lv_at hl 2 rfl) ?_
        refine lv_aload_n hx hb d_Reader_array_40 rfl (lv_at hl 2 rfl) ?_
        refine va_get (D := G.1) (ci := 3) (v := .int at2_32) (C := R_Reader) (T := F_Reader) (N := 3) hx hb hw i_Reader hown hE.1 hP 0 rfl rfl 2 (by decide) (hw _ m_117) (fun _ h9 => h9) rfl d_Reader_array_41 ?_
        refine gc_i (wr := [(t, .inr (2, [.ref ka, .ref na, .ref ga, .ref sa, .ref xr, .int size2_32])), (ka, .inl (G.2.1 0, 1000, .inl kf2_32)), (na, .inl (G.2.1 1, 1000, .inl nf2_32)), (ga, .inl (G.2.1 1, 1000, .inl gf2_32)), (sa, .inl (G.2.1 1, 1000, .inl sf2_32)), (xr, .inr (1, [.ref xa, .int xsz2_32])), (xa, .inl (G.2.1 0, 1000, .inl xf2_32))]) (gc_V (wc := [(rd, .inr (3, [.ref tr, .ref t, .int at2_32])), (tr, .inr (1, [.ref ta, .int tsz])), (ta, .inl (G.2.1 0, 1000, .inl tf))]) (As := [.int at2_32]) (rest := [.ref rd]) ⟨hx, hb, hml, hown, hw⟩ (c_Reader_afterWhite l G rd t at2_32 tr ta tsz tf at2_32 htp H.size) (cwV 1 hw (good_V m_138 m_140 ms_1 m_5 m_141) rfl rfl rfl hy_Reader_afterWhite ⟨Nat.le_trans (Nat.le_of_ble_eq_true rfl) (Nat.le_add_right 7 _), Nat.le_trans (Nat.le_of_ble_eq_true rfl) (Nat.le_add_right 151 _)⟩) hE hP hD hS hA (va_recv hE.1 hP (ci := 3) (q0 := 0) rfl rfl) [0, 1, 2] rfl (by decide) rfl hl rfl (Nat.le_of_ble_eq_true rfl) d_Reader_array_44 ⟨Nat.le_of_ble_eq_true rfl, Nat.le_of_ble_eq_true rfl⟩) hP hD hS hA [0, 1, 2] [3, 4, 5, 6, 7, 8, 9] rfl rfl (by decide) (by decide) (fun r_2 u_3 H locs hw_4 hP hD hS => ?_)
        have hP : va_P G.1 vwCl [(t, .inr (2, [.ref ka, .ref na, .ref ga, .ref sa, .ref xr, .int size2_32])), (ka, .inl (G.2.1 0, 1000, .inl kf2_32)), (na, .inl (G.2.1 1, 1000, .inl nf2_32)), (ga, .inl (G.2.1 1, 1000, .inl gf2_32)), (sa, .inl (G.2.1 1, 1000, .inl sf2_32)), (xr, .inr (1, [.ref xa, .int xsz2_32])), (xa, .inl (G.2.1 0, 1000, .inl xf2_32)), (rd, .inr (3, [.ref tr, .ref t, .int at2_32])), (tr, .inr (1, [.ref ta, .int tsz])), (ta, .inl (G.2.1 0, 1000, .inl tf))] H := hP
        have hD : va_D A [(t, .inr (2, [.ref ka, .ref na, .ref ga, .ref sa, .ref xr, .int size2_32])), (ka, .inl (G.2.1 0, 1000, .inl kf2_32)), (na, .inl (G.2.1 1, 1000, .inl nf2_32)), (ga, .inl (G.2.1 1, 1000, .inl gf2_32)), (sa, .inl (G.2.1 1, 1000, .inl sf2_32)), (xr, .inr (1, [.ref xa, .int xsz2_32])), (xa, .inl (G.2.1 0, 1000, .inl xf2_32)), (rd, .inr (3, [.ref tr, .ref t, .int at2_32])), (tr, .inr (1, [.ref ta, .int tsz])), (ta, .inl (G.2.1 0, 1000, .inl tf))] := hD
        refine va_put (D := G.1) (ci := 3) (v := .int r_2) (ty := .int) (C := R_Reader) (T := F_Reader) (N := 3) hx hb hw i_Reader t_Reader t_Reader_ok n_Reader hown hE.1 hP hD hS 7 rfl rfl 2 (by decide) (hw _ m_117) (fun _ h9 => h9) rfl (by decide +kernel) rfl rfl (Nat.le_of_ble_eq_true rfl) d_Reader_array_47 (fun H locs hP hD hS => ?_)
        have hP : va_P G.1 vwCl [(t, .inr (2, [.ref ka, .ref na, .ref ga, .ref sa, .ref xr, .int size2_32])), (ka, .inl (G.2.1 0, 1000, .inl kf2_32)), (na, .inl (G.2.1 1, 1000, .inl nf2_32)), (ga, .inl (G.2.1 1, 1000, .inl gf2_32)), (sa, .inl (G.2.1 1, 1000, .inl sf2_32)), (xr, .inr (1, [.ref xa, .int xsz2_32])), (xa, .inl (G.2.1 0, 1000, .inl xf2_32)), (rd, .inr (3, [.ref tr, .ref t, .int r_2])), (tr, .inr (1, [.ref ta, .int tsz])), (ta, .inl (G.2.1 0, 1000, .inl tf))] H := hP
        have hD : va_D A [(t, .inr (2, [.ref ka, .ref na, .ref ga, .ref sa, .ref xr, .int size2_32])), (ka, .inl (G.2.1 0, 1000, .inl kf2_32)), (na, .inl (G.2.1 1, 1000, .inl nf2_32)), (ga, .inl (G.2.1 1, 1000, .inl gf2_32)), (sa, .inl (G.2.1 1, 1000, .inl sf2_32)), (xr, .inr (1, [.ref xa, .int xsz2_32])), (xa, .inl (G.2.1 0, 1000, .inl xf2_32)), (rd, .inr (3, [.ref tr, .ref t, .int r_2])), (tr, .inr (1, [.ref ta, .int tsz])), (ta, .inl (G.2.1 0, 1000, .inl tf))] := hD
        refine lv_aload_n hx hb d_Reader_array_50 rfl (lv_at hl 2 rfl) ?_
        refine va_get (D := G.1) (ci := 3) (v := .ref tr) (C := R_Reader) (T := F_Reader) (N := 3) hx hb hw i_Reader hown hE.1 hP 7 rfl rfl 0 (by decide) (hw _ m_115) (fun _ h9 => h9) rfl d_Reader_array_51 ?_
        refine lv_aload_n hx hb d_Reader_array_54 rfl (lv_at hl 2 rfl) ?_
        refine va_get (D := G.1) (ci := 3) (v := .int r_2) (C := R_Reader) (T := F_Reader) (N := 3) hx hb hw i_Reader hown hE.1 hP 7 rfl rfl 2 (by decide) (hw _ m_117) (fun _ h9 => h9) rfl d_Reader_array_55 ?_
        refine gc_i (wr := [(t, .inr (2, [.ref ka, .ref na, .ref ga, .ref sa, .ref xr, .int size2_32])), (ka, .inl (G.2.1 0, 1000, .inl kf2_32)), (na, .inl (G.2.1 1, 1000, .inl nf2_32)), (ga, .inl (G.2.1 1, 1000, .inl gf2_32)), (sa, .inl (G.2.1 1, 1000, .inl sf2_32)), (xr, .inr (1, [.ref xa, .int xsz2_32])), (xa, .inl (G.2.1 0, 1000, .inl xf2_32)), (rd, .inr (3, [.ref tr, .ref t, .int r_2]))]) (gc_V (wc := [(tr, .inr (1, [.ref ta, .int tsz])), (ta, .inl (G.2.1 0, 1000, .inl tf))]) (As := [.int r_2]) (rest := []) ⟨hx, hb, hml, hown, hw⟩ (c_Row_get l G tr ta 1000 tsz tf r_2 (by decide) htp H.size) (cwV 1 hw (good_V m_143 m_144 m_145 m_2 m_146) rfl rfl rfl hy_Row_get ⟨Nat.le_trans (Nat.le_of_ble_eq_true rfl) (Nat.le_add_right 7 _), Nat.le_trans (Nat.le_of_ble_eq_true rfl) (Nat.le_add_right 151 _)⟩) hE hP hD hS hA (va_recv hE.1 hP (ci := 1) (q0 := 8) rfl rfl) [8, 9] rfl (by decide) rfl hl rfl (Nat.le_of_ble_eq_true rfl) d_Reader_array_58 ⟨Nat.le_of_ble_eq_true rfl, Nat.le_of_ble_eq_true rfl⟩) hP hD hS hA [8, 9] [0, 1, 2, 3, 4, 5, 6, 7] rfl rfl (by decide) (by decide) (fun r_5 u_6 H locs hw_7 hP hD hS => ?_)
        have hP : va_P G.1 vwCl [(t, .inr (2, [.ref ka, .ref na, .ref ga, .ref sa, .ref xr, .int size2_32])), (ka, .inl (G.2.1 0, 1000, .inl kf2_32)), (na, .inl (G.2.1 1, 1000, .inl nf2_32)), (ga, .inl (G.2.1 1, 1000, .inl gf2_32)), (sa, .inl (G.2.1 1, 1000, .inl sf2_32)), (xr, .inr (1, [.ref xa, .int xsz2_32])), (xa, .inl (G.2.1 0, 1000, .inl xf2_32)), (rd, .inr (3, [.ref tr, .ref t, .int r_2])), (tr, .inr (1, [.ref ta, .int tsz])), (ta, .inl (G.2.1 0, 1000, .inl tf))] H := hP
        have hD : va_D A [(t, .inr (2, [.ref ka, .ref na, .ref ga, .ref sa, .ref xr, .int size2_32])), (ka, .inl (G.2.1 0, 1000, .inl kf2_32)), (na, .inl (G.2.1 1, 1000, .inl nf2_32)), (ga, .inl (G.2.1 1, 1000, .inl gf2_32)), (sa, .inl (G.2.1 1, 1000, .inl sf2_32)), (xr, .inr (1, [.ref xa, .int xsz2_32])), (xa, .inl (G.2.1 0, 1000, .inl xf2_32)), (rd, .inr (3, [.ref tr, .ref t, .int r_2])), (tr, .inr (1, [.ref ta, .int tsz])), (ta, .inl (G.2.1 0, 1000, .inl tf))] := hD
        refine lv_bipush (v := 93) hx hb d_Reader_array_61 (by decide) ?_
        refine lv_icmp_ne (tgt := 78) hx hb d_Reader_array_63 (by decide) (fun c_8 => ?_) (fun c_8 => ?_)
        · obtain ⟨kk, hkk⟩ : ∃ kk, n = kk + 1 := rd_pred hd hk0_32
          refine lv_aload_n hx hb d_Reader_array_78 rfl (lv_at hl 2 rfl) ?_
          refine lv_iload_n hx hb d_Reader_array_79 rfl (lv_at hl 3 rfl) ?_
          refine lv_iconst (v := 1) hx hb d_Reader_array_80 (by decide) ?_
          refine lv_iadd hx hb d_Reader_array_81 ?_
          refine lv_topi (fun y_9 ey_9 => ?_)
          refine gc_i (wr := []) (gc_V (wc := [(rd, .inr (3, [.ref tr, .ref t, .int r_2])), (tr, .inr (1, [.ref ta, .int tsz])), (ta, .inl (G.2.1 0, 1000, .inl tf)), (t, .inr (2, [.ref ka, .ref na, .ref ga, .ref sa, .ref xr, .int size2_32])), (ka, .inl (G.2.1 0, 1000, .inl kf2_32)), (na, .inl (G.2.1 1, 1000, .inl nf2_32)), (ga, .inl (G.2.1 1, 1000, .inl gf2_32)), (sa, .inl (G.2.1 1, 1000, .inl sf2_32)), (xr, .inr (1, [.ref xa, .int xsz2_32])), (xa, .inl (G.2.1 0, 1000, .inl xf2_32))]) (As := [.int y_9]) (rest := []) ⟨hx, hb, hml, hown, hw⟩ ((ho kk hkk) rd r_2 tr ta tsz tf t ka na ga sa xr xa kf2_32 nf2_32 gf2_32 sf2_32 size2_32 xsz2_32 xf2_32 y_9 htp hj0_32 hj1_32 (rd_next hd hkk (by assumption)) H.size) (cwV 1 hw (good_V m_134 m_136 ms_0 m_5 m_137) rfl rfl rfl hy_Reader_object ⟨by show 7 + (2 * kk + 1) + 1 ≤ 7 + 2 * n; omega, by show 8 + (2 + 11) + (151 + (45 * kk + 24)) ≤ 151 + 45 * n; omega⟩) hE hP hD hS hA (va_recv hE.1 hP (ci := 3) (q0 := 7) rfl rfl) [7, 8, 9, 0, 1, 2, 3, 4, 5, 6] rfl (by decide) rfl hl rfl (Nat.le_of_ble_eq_true rfl) d_Reader_array_82 ⟨Nat.le_of_ble_eq_true rfl, Nat.le_of_ble_eq_true rfl⟩) hP hD hS hA [7, 8, 9, 0, 1, 2, 3, 4, 5, 6] [] rfl rfl (by decide) (by decide) (fun r_10 u_11 H locs hw_12 hP hD hS => ?_)
          obtain ⟨at2_13, kf2_14, nf2_15, gf2_16, sf2_17, size2_18, xsz2_19, xf2_20⟩ := u_11
          try dsimp only at hw_12
          obtain ⟨h_21, h_22, h_23⟩ := hw_12
          have hP : va_P G.1 vwCl [(rd, .inr (3, [.ref tr, .ref t, .int at2_13])), (tr, .inr (1, [.ref ta, .int tsz])), (ta, .inl (G.2.1 0, 1000, .inl tf)), (t, .inr (2, [.ref ka, .ref na, .ref ga, .ref sa, .ref xr, .int size2_18])), (ka, .inl (G.2.1 0, 1000, .inl kf2_14)), (na, .inl (G.2.1 1, 1000, .inl nf2_15)), (ga, .inl (G.2.1 1, 1000, .inl gf2_16)), (sa, .inl (G.2.1 1, 1000, .inl sf2_17)), (xr, .inr (1, [.ref xa, .int xsz2_19])), (xa, .inl (G.2.1 0, 1000, .inl xf2_20))] H := hP
          have hD : va_D A [(rd, .inr (3, [.ref tr, .ref t, .int at2_13])), (tr, .inr (1, [.ref ta, .int tsz])), (ta, .inl (G.2.1 0, 1000, .inl tf)), (t, .inr (2, [.ref ka, .ref na, .ref ga, .ref sa, .ref xr, .int size2_18])), (ka, .inl (G.2.1 0, 1000, .inl kf2_14)), (na, .inl (G.2.1 1, 1000, .inl nf2_15)), (ga, .inl (G.2.1 1, 1000, .inl gf2_16)), (sa, .inl (G.2.1 1, 1000, .inl sf2_17)), (xr, .inr (1, [.ref xa, .int xsz2_19])), (xa, .inl (G.2.1 0, 1000, .inl xf2_20))] := hD
          refine lv_if_ne (tgt := 90) hx hb d_Reader_array_85 (by decide) (fun c_24 => ?_) (fun c_24 => ?_)
          · refine lv_aload_n hx hb d_Reader_array_90 rfl (lv_at hl 2 rfl) ?_
            refine va_get (D := G.1) (ci := 3) (v := .ref t) (C := R_Reader) (T := F_Reader) (N := 3) hx hb hw i_Reader hown hE.1 hP 0 rfl rfl 1 (by decide) (hw _ m_116) (fun _ h9 => h9) rfl d_Reader_array_91 ?_
            refine lv_iload_n hx hb d_Reader_array_94 rfl (lv_at hl 1 rfl) ?_
            refine gc_v (wr := [(rd, .inr (3, [.ref tr, .ref t, .int at2_13])), (tr, .inr (1, [.ref ta, .int tsz])), (ta, .inl (G.2.1 0, 1000, .inl tf))]) (gc_V (wc := [(t, .inr (2, [.ref ka, .ref na, .ref ga, .ref sa, .ref xr, .int size2_18])), (ka, .inl (G.2.1 0, 1000, .inl kf2_14)), (na, .inl (G.2.1 1, 1000, .inl nf2_15)), (ga, .inl (G.2.1 1, 1000, .inl gf2_16)), (sa, .inl (G.2.1 1, 1000, .inl sf2_17)), (xr, .inr (1, [.ref xa, .int xsz2_19])), (xa, .inl (G.2.1 0, 1000, .inl xf2_20))]) (As := [.int x2_32]) (rest := []) ⟨hx, hb, hml, hown, hw⟩ (c_Tree_countPart l G t ka na ga sa xr xa kf2_14 nf2_15 gf2_16 sf2_17 size2_18 xsz2_19 xf2_20 x2_32 h_21 h_22 H.size) (cwV 1 hw (good_V m_219 m_220 m_221 m_3 m_222) rfl rfl rfl hy_Tree_countPart ⟨Nat.le_trans (Nat.le_of_ble_eq_true rfl) (Nat.le_add_right 7 _), Nat.le_trans (Nat.le_of_ble_eq_true rfl) (Nat.le_add_right 151 _)⟩) hE hP hD hS hA (va_recv hE.1 hP (ci := 2) (q0 := 3) rfl rfl) [3, 4, 5, 6, 7, 8, 9] rfl (by decide) rfl hl rfl (Nat.le_of_ble_eq_true rfl) d_Reader_array_95 ⟨Nat.le_of_ble_eq_true rfl, Nat.le_of_ble_eq_true rfl⟩) hP hD hS hA [3, 4, 5, 6, 7, 8, 9] [0, 1, 2] rfl rfl (by decide) (by decide) (fun u_26 H locs hw_27 hP hD hS => ?_)
            obtain ⟨nf2_28, sf2_29⟩ := u_26
            have hP : va_P G.1 vwCl [(rd, .inr (3, [.ref tr, .ref t, .int at2_13])), (tr, .inr (1, [.ref ta, .int tsz])), (ta, .inl (G.2.1 0, 1000, .inl tf)), (t, .inr (2, [.ref ka, .ref na, .ref ga, .ref sa, .ref xr, .int size2_18])), (ka, .inl (G.2.1 0, 1000, .inl kf2_14)), (na, .inl (G.2.1 1, 1000, .inl nf2_28)), (ga, .inl (G.2.1 1, 1000, .inl gf2_16)), (sa, .inl (G.2.1 1, 1000, .inl sf2_29)), (xr, .inr (1, [.ref xa, .int xsz2_19])), (xa, .inl (G.2.1 0, 1000, .inl xf2_20))] H := hP
            have hD : va_D A [(rd, .inr (3, [.ref tr, .ref t, .int at2_13])), (tr, .inr (1, [.ref ta, .int tsz])), (ta, .inl (G.2.1 0, 1000, .inl tf)), (t, .inr (2, [.ref ka, .ref na, .ref ga, .ref sa, .ref xr, .int size2_18])), (ka, .inl (G.2.1 0, 1000, .inl kf2_14)), (na, .inl (G.2.1 1, 1000, .inl nf2_28)), (ga, .inl (G.2.1 1, 1000, .inl gf2_16)), (sa, .inl (G.2.1 1, 1000, .inl sf2_29)), (xr, .inr (1, [.ref xa, .int xsz2_19])), (xa, .inl (G.2.1 0, 1000, .inl xf2_20))] := hD
            obtain ⟨y_30, ey_30⟩ : ∃ y : Int32, y = x3_32 + 1 := ⟨_, rfl⟩
            refine lv_iinc (v := y_30) (lv' := [(3, .int y_30), (2, .int x2_32), (0, .ref rd), (1, .int d)]) hx hb d_Reader_array_98 hl (k := 0) rfl (by rw [ey_30]; rfl) (by decide) rfl (fun ls hl => ?_)
            refine lv_goto (tgt := 32) hx hb d_Reader_array_101 (by decide) ?_
            exact ih_32 y_30 x2_32 at2_13 kf2_14 nf2_28 gf2_16 sf2_29 size2_18 xsz2_19 xf2_20 h_21 h_22 hk0_32 (ms_upe (B := 60) (by assumption) (by assumption) (by decide) hm_32) _ _ (hP.sub [0, 1, 2, 3, 4, 5, 6, 7, 8, 9] rfl) (hD.sub [0, 1, 2, 3, 4, 5, 6, 7, 8, 9] (by decide) rfl) hS _ (lv_sub hl [0, 1, 2, 3] rfl)
          · refine lv_iconst (v := 0) hx hb d_Reader_array_88 (by decide) ?_
            exact ret 0 (at2_13, kf2_14, nf2_15, gf2_16, sf2_17, size2_18, xsz2_19, xf2_20) (Nat.le_of_ble_eq_true rfl) (Nat.le_of_ble_eq_true rfl) d_Reader_array_89 rfl ⟨h_21, h_22, (by first | assumption | decide)⟩ (hP.sub [0, 1, 2, 3, 4, 5, 6, 7, 8, 9] rfl) (hD.sub [0, 1, 2, 3, 4, 5, 6, 7, 8, 9] (by decide) rfl) hS
        · refine lv_aload_n hx hb d_Reader_array_66 rfl (lv_at hl 2 rfl) ?_
          refine lv_dup hx hb d_Reader_array_67 rfl ?_
          refine va_get (D := G.1) (ci := 3) (v := .int r_2) (C := R_Reader) (T := F_Reader) (N := 3) hx hb hw i_Reader hown hE.1 hP 7 rfl rfl 2 (by decide) (hw _ m_117) (fun _ h9 => h9) rfl d_Reader_array_68 ?_
          refine lv_iconst (v := 1) hx hb d_Reader_array_71 (by decide) ?_
          refine lv_iadd hx hb d_Reader_array_72 ?_
          refine lv_topi (fun y_31 ey_31 => ?_)
          refine va_put (D := G.1) (ci := 3) (v := .int y_31) (ty := .int) (C := R_Reader) (T := F_Reader) (N := 3) hx hb hw i_Reader t_Reader t_Reader_ok n_Reader hown hE.1 hP hD hS 7 rfl rfl 2 (by decide) (hw _ m_117) (fun _ h9 => h9) rfl (by decide +kernel) rfl rfl (Nat.le_of_ble_eq_true rfl) d_Reader_array_73 (fun H locs hP hD hS => ?_)
          have hP : va_P G.1 vwCl [(t, .inr (2, [.ref ka, .ref na, .ref ga, .ref sa, .ref xr, .int size2_32])), (ka, .inl (G.2.1 0, 1000, .inl kf2_32)), (na, .inl (G.2.1 1, 1000, .inl nf2_32)), (ga, .inl (G.2.1 1, 1000, .inl gf2_32)), (sa, .inl (G.2.1 1, 1000, .inl sf2_32)), (xr, .inr (1, [.ref xa, .int xsz2_32])), (xa, .inl (G.2.1 0, 1000, .inl xf2_32)), (rd, .inr (3, [.ref tr, .ref t, .int y_31])), (tr, .inr (1, [.ref ta, .int tsz])), (ta, .inl (G.2.1 0, 1000, .inl tf))] H := hP
          have hD : va_D A [(t, .inr (2, [.ref ka, .ref na, .ref ga, .ref sa, .ref xr, .int size2_32])), (ka, .inl (G.2.1 0, 1000, .inl kf2_32)), (na, .inl (G.2.1 1, 1000, .inl nf2_32)), (ga, .inl (G.2.1 1, 1000, .inl gf2_32)), (sa, .inl (G.2.1 1, 1000, .inl sf2_32)), (xr, .inr (1, [.ref xa, .int xsz2_32])), (xa, .inl (G.2.1 0, 1000, .inl xf2_32)), (rd, .inr (3, [.ref tr, .ref t, .int y_31])), (tr, .inr (1, [.ref ta, .int tsz])), (ta, .inl (G.2.1 0, 1000, .inl tf))] := hD
          refine lv_iconst (v := 1) hx hb d_Reader_array_76 (by decide) ?_
          exact ret 1 (y_31, kf2_32, nf2_32, gf2_32, sf2_32, size2_32, xsz2_32, xf2_32) (Nat.le_of_ble_eq_true rfl) (Nat.le_of_ble_eq_true rfl) d_Reader_array_77 rfl ⟨hj0_32, hj1_32, (by first | assumption | decide)⟩ (hP.sub [7, 8, 9, 0, 1, 2, 3, 4, 5, 6] rfl) (hD.sub [7, 8, 9, 0, 1, 2, 3, 4, 5, 6] (by decide) rfl) hS
  refine lv_iload_n hx hb d_Reader_array_0 rfl (lv_at hl 1 rfl) ?_
  refine lv_bipush (v := 8) hx hb d_Reader_array_1 (by decide) ?_
  refine lv_icmp_lt (tgt := 8) hx hb d_Reader_array_3 (by decide) (fun c_32 => ?_) (fun c_32 => ?_)
  · refine lv_aload_n hx hb d_Reader_array_8 rfl (lv_at hl 0 rfl) ?_
    refine lv_dup hx hb d_Reader_array_9 rfl ?_
    refine va_get (D := G.1) (ci := 3) (v := .int at0) (C := R_Reader) (T := F_Reader) (N := 3) hx hb hw i_Reader hown hE.1 hP 0 rfl rfl 2 (by decide) (hw _ m_117) (fun _ h9 => h9) rfl d_Reader_array_10 ?_
    refine lv_iconst (v := 1) hx hb d_Reader_array_13 (by decide) ?_
    refine lv_iadd hx hb d_Reader_array_14 ?_
    refine lv_topi (fun y_33 ey_33 => ?_)
    refine va_put (D := G.1) (ci := 3) (v := .int y_33) (ty := .int) (C := R_Reader) (T := F_Reader) (N := 3) hx hb hw i_Reader t_Reader t_Reader_ok n_Reader hown hE.1 hP hD hS 0 rfl rfl 2 (by decide) (hw _ m_117) (fun _ h9 => h9) rfl (by decide +kernel) rfl rfl (Nat.le_of_ble_eq_true rfl) d_Reader_array_15 (fun H locs hP hD hS => ?_)
    have hP : va_P G.1 vwCl [(rd, .inr (3, [.ref tr, .ref t, .int y_33])), (tr, .inr (1, [.ref ta, .int tsz])), (ta, .inl (G.2.1 0, 1000, .inl tf)), (t, .inr (2, [.ref ka, .ref na, .ref ga, .ref sa, .ref xr, .int size])), (ka, .inl (G.2.1 0, 1000, .inl kf)), (na, .inl (G.2.1 1, 1000, .inl nf)), (ga, .inl (G.2.1 1, 1000, .inl gf)), (sa, .inl (G.2.1 1, 1000, .inl sf)), (xr, .inr (1, [.ref xa, .int xsz])), (xa, .inl (G.2.1 0, 1000, .inl xf))] H := hP
    have hD : va_D A [(rd, .inr (3, [.ref tr, .ref t, .int y_33])), (tr, .inr (1, [.ref ta, .int tsz])), (ta, .inl (G.2.1 0, 1000, .inl tf)), (t, .inr (2, [.ref ka, .ref na, .ref ga, .ref sa, .ref xr, .int size])), (ka, .inl (G.2.1 0, 1000, .inl kf)), (na, .inl (G.2.1 1, 1000, .inl nf)), (ga, .inl (G.2.1 1, 1000, .inl gf)), (sa, .inl (G.2.1 1, 1000, .inl sf)), (xr, .inr (1, [.ref xa, .int xsz])), (xa, .inl (G.2.1 0, 1000, .inl xf))] := hD
    refine lv_aload_n hx hb d_Reader_array_18 rfl (lv_at hl 0 rfl) ?_
    refine va_get (D := G.1) (ci := 3) (v := .ref t) (C := R_Reader) (T := F_Reader) (N := 3) hx hb hw i_Reader hown hE.1 hP 0 rfl rfl 1 (by decide) (hw _ m_116) (fun _ h9 => h9) rfl d_Reader_array_19 ?_
    refine lv_bipush (v := 6) hx hb d_Reader_array_22 (by decide) ?_
    refine lv_iconst (v := 0) hx hb d_Reader_array_24 (by decide) ?_
    refine lv_iconst (v := 0) hx hb d_Reader_array_25 (by decide) ?_
    refine gc_i (wr := [(rd, .inr (3, [.ref tr, .ref t, .int y_33])), (tr, .inr (1, [.ref ta, .int tsz])), (ta, .inl (G.2.1 0, 1000, .inl tf))]) (gc_V (wc := [(t, .inr (2, [.ref ka, .ref na, .ref ga, .ref sa, .ref xr, .int size])), (ka, .inl (G.2.1 0, 1000, .inl kf)), (na, .inl (G.2.1 1, 1000, .inl nf)), (ga, .inl (G.2.1 1, 1000, .inl gf)), (sa, .inl (G.2.1 1, 1000, .inl sf)), (xr, .inr (1, [.ref xa, .int xsz])), (xa, .inl (G.2.1 0, 1000, .inl xf))]) (As := [.int 6, .int 0, .int 0]) (rest := []) ⟨hx, hb, hml, hown, hw⟩ (c_Tree_add l G t ka na ga sa xr xa kf nf gf sf size xsz xf 6 0 0 hs hxs H.size) (cwV 3 hw (good_V m_165 m_166 m_167 m_3 m_168) rfl rfl rfl hy_Tree_add ⟨Nat.le_trans (Nat.le_of_ble_eq_true rfl) (Nat.le_add_right 7 _), Nat.le_trans (Nat.le_of_ble_eq_true rfl) (Nat.le_add_right 151 _)⟩) hE hP hD hS hA (va_recv hE.1 hP (ci := 2) (q0 := 3) rfl rfl) [3, 4, 5, 6, 7, 8, 9] rfl (by decide) rfl hl rfl (Nat.le_of_ble_eq_true rfl) d_Reader_array_26 ⟨Nat.le_of_ble_eq_true rfl, Nat.le_of_ble_eq_true rfl⟩) hP hD hS hA [3, 4, 5, 6, 7, 8, 9] [0, 1, 2] rfl rfl (by decide) (by decide) (fun r_34 u_35 H locs hw_36 hP hD hS => ?_)
    obtain ⟨kf2_37, nf2_38, gf2_39, sf2_40, size2_41⟩ := u_35
    try dsimp only at hw_36
    have h_42 := hw_36
    have hP : va_P G.1 vwCl [(rd, .inr (3, [.ref tr, .ref t, .int y_33])), (tr, .inr (1, [.ref ta, .int tsz])), (ta, .inl (G.2.1 0, 1000, .inl tf)), (t, .inr (2, [.ref ka, .ref na, .ref ga, .ref sa, .ref xr, .int size2_41])), (ka, .inl (G.2.1 0, 1000, .inl kf2_37)), (na, .inl (G.2.1 1, 1000, .inl nf2_38)), (ga, .inl (G.2.1 1, 1000, .inl gf2_39)), (sa, .inl (G.2.1 1, 1000, .inl sf2_40)), (xr, .inr (1, [.ref xa, .int xsz])), (xa, .inl (G.2.1 0, 1000, .inl xf))] H := hP
    have hD : va_D A [(rd, .inr (3, [.ref tr, .ref t, .int y_33])), (tr, .inr (1, [.ref ta, .int tsz])), (ta, .inl (G.2.1 0, 1000, .inl tf)), (t, .inr (2, [.ref ka, .ref na, .ref ga, .ref sa, .ref xr, .int size2_41])), (ka, .inl (G.2.1 0, 1000, .inl kf2_37)), (na, .inl (G.2.1 1, 1000, .inl nf2_38)), (ga, .inl (G.2.1 1, 1000, .inl gf2_39)), (sa, .inl (G.2.1 1, 1000, .inl sf2_40)), (xr, .inr (1, [.ref xa, .int xsz])), (xa, .inl (G.2.1 0, 1000, .inl xf))] := hD
    refine lv_istore_n (lv' := [(2, .int r_34), (0, .ref rd), (1, .int d)]) hx hb d_Reader_array_29 rfl hl (by decide) rfl (fun ls hl => ?_)
    refine lv_iconst (v := 0) hx hb d_Reader_array_30 (by decide) ?_
    refine lv_istore_n (lv' := [(3, .int 0), (2, .int r_34), (0, .ref rd), (1, .int d)]) hx hb d_Reader_array_31 rfl hl (by decide) rfl (fun ls hl => ?_)
    exact J_32 _ 0 r_34 y_33 kf2_37 nf2_38 gf2_39 sf2_40 size2_41 xsz xf h_42 hxs (by first | assumption | trivial | (try dsimp only; omega)) (Nat.lt_succ_self _) _ _ (hP.sub [0, 1, 2, 3, 4, 5, 6, 7, 8, 9] rfl) (hD.sub [0, 1, 2, 3, 4, 5, 6, 7, 8, 9] (by decide) rfl) hS _ (lv_sub hl [0, 1, 2, 3] rfl)
  · refine lv_iconst (v := 0) hx hb d_Reader_array_6 (by decide) ?_
    exact ret 0 (at0, kf, nf, gf, sf, size, xsz, xf) (Nat.le_of_ble_eq_true rfl) (Nat.le_of_ble_eq_true rfl) d_Reader_array_7 rfl ⟨hs, hxs, (by first | assumption | decide)⟩ (hP.sub [0, 1, 2, 3, 4, 5, 6, 7, 8, 9] rfl) (hD.sub [0, 1, 2, 3, 4, 5, 6, 7, 8, 9] (by decide) rfl) hS
set_option maxHeartbeats 4000000 in
set_option maxRecDepth 100000 in
theorem s_dict (l : Launch) (G : GG) (n : Nat) (ho : ∀ k, n = k + 1 → C_object l G k) : C_dict l G n := by
  intro rd at0 tr ta tsz tf t ka na ga sa xr xa kf nf gf sf size xsz xf d htp hs hxs hd
  refine MI.of (cc := b_Reader_dict) (maxL := 5) (ty := .boolean) (C := R_Reader) (by decide +kernel) rfl (Nat.le_of_ble_eq_true rfl) ?_
  intro p e s m args below meth c A Q H ls hx hb hml hown hw hE hA hP hD hS ret hl
  have hl : lv_has ls 5 [(0, .ref rd), (1, .int d)] := hl
  have J_32 : ∀ (fu : Nat) (x3_32 : Int32) (x2_32 : Int32) (at2_32 : Int32) (kf2_32 : Nat → Int32) (nf2_32 : Nat → Int32) (gf2_32 : Nat → Int32) (sf2_32 : Nat → Int32) (size2_32 : Int32) (xsz2_32 : Int32) (xf2_32 : Nat → Int32) (hj0_32 : RowOk 1000 size2_32) (hj1_32 : RowOk 1000 xsz2_32) (hk0_32 : d < 8), ((30 : Int32).toInt + 1 - x3_32.toInt).toNat < fu → ∀ (H : Heap) (locs : List Loc), va_P G.1 vwCl [(rd, .inr (3, [.ref tr, .ref t, .int at2_32])), (tr, .inr (1, [.ref ta, .int tsz])), (ta, .inl (G.2.1 0, 1000, .inl tf)), (t, .inr (2, [.ref ka, .ref na, .ref ga, .ref sa, .ref xr, .int size2_32])), (ka, .inl (G.2.1 0, 1000, .inl kf2_32)), (na, .inl (G.2.1 1, 1000, .inl nf2_32)), (ga, .inl (G.2.1 1, 1000, .inl gf2_32)), (sa, .inl (G.2.1 1, 1000, .inl sf2_32)), (xr, .inr (1, [.ref xa, .int xsz2_32])), (xa, .inl (G.2.1 0, 1000, .inl xf2_32))] H → va_D A [(rd, .inr (3, [.ref tr, .ref t, .int at2_32])), (tr, .inr (1, [.ref ta, .int tsz])), (ta, .inl (G.2.1 0, 1000, .inl tf)), (t, .inr (2, [.ref ka, .ref na, .ref ga, .ref sa, .ref xr, .int size2_32])), (ka, .inl (G.2.1 0, 1000, .inl kf2_32)), (na, .inl (G.2.1 1, 1000, .inl nf2_32)), (ga, .inl (G.2.1 1, 1000, .inl gf2_32)), (sa, .inl (G.2.1 1, 1000, .inl sf2_32)), (xr, .inr (1, [.ref xa, .int xsz2_32])), (xa, .inl (G.2.1 0, 1000, .inl xf2_32))] → va_S A s.heap H locs → ∀ ls : Array Slot, lv_has ls 5 [(3, .int x3_32), (2, .int x2_32), (0, .ref rd), (1, .int d)] → W p l e (rm_Ra n) s m args below meth c H locs 0 0 Q (F0 m 32 ls []) := by
    intro fu
    induction fu with
    | zero =>
      intro x3_32 x2_32 at2_32 kf2_32 nf2_32 gf2_32 sf2_32 size2_32 xsz2_32 xf2_32 hj0_32 hj1_32 hk0_32 hm
      exact absurd hm (Nat.not_lt_zero _)
    | succ fu ih_32 =>
      intro x3_32 x2_32 at2_32 kf2_32 nf2_32 gf2_32 sf2_32 size2_32 xsz2_32 xf2_32 hj0_32 hj1_32 hk0_32 hm_32 H locs hP hD hS ls hl
      have J_134 : ∀ (k0_134 : Int32) (at2_134 : Int32) (kf2_134 : Nat → Int32) (nf2_134 : Nat → Int32) (gf2_134 : Nat → Int32) (sf2_134 : Nat → Int32) (size2_134 : Int32) (xsz2_134 : Int32) (xf2_134 : Nat → Int32) (hj0_134 : RowOk 1000 size2_134) (hj1_134 : RowOk 1000 xsz2_134) (hk0_134 : ¬ 30 < x3_32) (H : Heap) (locs : List Loc), va_P G.1 vwCl [(rd, .inr (3, [.ref tr, .ref t, .int at2_134])), (tr, .inr (1, [.ref ta, .int tsz])), (ta, .inl (G.2.1 0, 1000, .inl tf)), (t, .inr (2, [.ref ka, .ref na, .ref ga, .ref sa, .ref xr, .int size2_134])), (ka, .inl (G.2.1 0, 1000, .inl kf2_134)), (na, .inl (G.2.1 1, 1000, .inl nf2_134)), (ga, .inl (G.2.1 1, 1000, .inl gf2_134)), (sa, .inl (G.2.1 1, 1000, .inl sf2_134)), (xr, .inr (1, [.ref xa, .int xsz2_134])), (xa, .inl (G.2.1 0, 1000, .inl xf2_134))] H → va_D A [(rd, .inr (3, [.ref tr, .ref t, .int at2_134])), (tr, .inr (1, [.ref ta, .int tsz])), (ta, .inl (G.2.1 0, 1000, .inl tf)), (t, .inr (2, [.ref ka, .ref na, .ref ga, .ref sa, .ref xr, .int size2_134])), (ka, .inl (G.2.1 0, 1000, .inl kf2_134)), (na, .inl (G.2.1 1, 1000, .inl nf2_134)), (ga, .inl (G.2.1 1, 1000, .inl gf2_134)), (sa, .inl (G.2.1 1, 1000, .inl sf2_134)), (xr, .inr (1, [.ref xa, .int xsz2_134])), (xa, .inl (G.2.1 0, 1000, .inl xf2_134))] → va_S A s.heap H locs → ∀ ls : Array Slot, lv_has ls 5 [(3, .int x3_32), (2, .int x2_32), (0, .ref rd), (1, .int d)] → W p l e (rm_Ra n) s m args below meth c H locs 0 0 Q (F0 m 134 ls [.int k0_134]) := by
        intro k0_134 at2_134 kf2_134 nf2_134 gf2_134 sf2_134 size2_134 xsz2_134 xf2_134 hj0_134 hj1_134 hk0_134 H locs hP hD hS ls hl
        refine lv_istore (lv' := [(4, .int k0_134), (3, .int x3_32), (2, .int x2_32), (0, .ref rd), (1, .int d)]) hx hb d_Reader_dict_134 hl (by decide) rfl (fun ls hl => ?_)
        refine lv_aload_n hx hb d_Reader_dict_136 rfl (lv_at hl 3 rfl) ?_
        refine va_get (D := G.1) (ci := 3) (v := .ref tr) (C := R_Reader) (T := F_Reader) (N := 3) hx hb hw i_Reader hown hE.1 hP 0 rfl rfl 0 (by decide) (hw _ m_115) (fun _ h9 => h9) rfl d_Reader_dict_137 ?_
        refine lv_aload_n hx hb d_Reader_dict_140 rfl (lv_at hl 3 rfl) ?_
        refine va_get (D := G.1) (ci := 3) (v := .int at2_134) (C := R_Reader) (T := F_Reader) (N := 3) hx hb hw i_Reader hown hE.1 hP 0 rfl rfl 2 (by decide) (hw _ m_117) (fun _ h9 => h9) rfl d_Reader_dict_141 ?_
        refine gc_i (wr := [(rd, .inr (3, [.ref tr, .ref t, .int at2_134])), (t, .inr (2, [.ref ka, .ref na, .ref ga, .ref sa, .ref xr, .int size2_134])), (ka, .inl (G.2.1 0, 1000, .inl kf2_134)), (na, .inl (G.2.1 1, 1000, .inl nf2_134)), (ga, .inl (G.2.1 1, 1000, .inl gf2_134)), (sa, .inl (G.2.1 1, 1000, .inl sf2_134)), (xr, .inr (1, [.ref xa, .int xsz2_134])), (xa, .inl (G.2.1 0, 1000, .inl xf2_134))]) (gc_V (wc := [(tr, .inr (1, [.ref ta, .int tsz])), (ta, .inl (G.2.1 0, 1000, .inl tf))]) (As := [.int at2_134]) (rest := []) ⟨hx, hb, hml, hown, hw⟩ (c_Row_get l G tr ta 1000 tsz tf at2_134 (by decide) htp H.size) (cwV 1 hw (good_V m_143 m_144 m_145 m_2 m_146) rfl rfl rfl hy_Row_get ⟨Nat.le_trans (Nat.le_of_ble_eq_true rfl) (Nat.le_add_right 7 _), Nat.le_trans (Nat.le_of_ble_eq_true rfl) (Nat.le_add_right 151 _)⟩) hE hP hD hS hA (va_recv hE.1 hP (ci := 1) (q0 := 1) rfl rfl) [1, 2] rfl (by decide) rfl hl rfl (Nat.le_of_ble_eq_true rfl) d_Reader_dict_144 ⟨Nat.le_of_ble_eq_true rfl, Nat.le_of_ble_eq_true rfl⟩) hP hD hS hA [1, 2] [0, 3, 4, 5, 6, 7, 8, 9] rfl rfl (by decide) (by decide) (fun r_1 u_2 H locs hw_3 hP hD hS => ?_)
        have hP : va_P G.1 vwCl [(rd, .inr (3, [.ref tr, .ref t, .int at2_134])), (t, .inr (2, [.ref ka, .ref na, .ref ga, .ref sa, .ref xr, .int size2_134])), (ka, .inl (G.2.1 0, 1000, .inl kf2_134)), (na, .inl (G.2.1 1, 1000, .inl nf2_134)), (ga, .inl (G.2.1 1, 1000, .inl gf2_134)), (sa, .inl (G.2.1 1, 1000, .inl sf2_134)), (xr, .inr (1, [.ref xa, .int xsz2_134])), (xa, .inl (G.2.1 0, 1000, .inl xf2_134)), (tr, .inr (1, [.ref ta, .int tsz])), (ta, .inl (G.2.1 0, 1000, .inl tf))] H := hP
        have hD : va_D A [(rd, .inr (3, [.ref tr, .ref t, .int at2_134])), (t, .inr (2, [.ref ka, .ref na, .ref ga, .ref sa, .ref xr, .int size2_134])), (ka, .inl (G.2.1 0, 1000, .inl kf2_134)), (na, .inl (G.2.1 1, 1000, .inl nf2_134)), (ga, .inl (G.2.1 1, 1000, .inl gf2_134)), (sa, .inl (G.2.1 1, 1000, .inl sf2_134)), (xr, .inr (1, [.ref xa, .int xsz2_134])), (xa, .inl (G.2.1 0, 1000, .inl xf2_134)), (tr, .inr (1, [.ref ta, .int tsz])), (ta, .inl (G.2.1 0, 1000, .inl tf))] := hD
        refine lv_bipush (v := 47) hx hb d_Reader_dict_147 (by decide) ?_
        refine lv_icmp_ne (tgt := 174) hx hb d_Reader_dict_149 (by decide) (fun c_4 => ?_) (fun c_4 => ?_)
        · refine lv_iconst (v := 0) hx hb d_Reader_dict_174 (by decide) ?_
          exact ret 0 (at2_134, kf2_134, nf2_134, gf2_134, sf2_134, size2_134, xsz2_134, xf2_134) (Nat.le_of_ble_eq_true rfl) (Nat.le_of_ble_eq_true rfl) d_Reader_dict_175 rfl ⟨hj0_134, hj1_134, (by first | assumption | decide)⟩ (hP.sub [0, 8, 9, 1, 2, 3, 4, 5, 6, 7] rfl) (hD.sub [0, 8, 9, 1, 2, 3, 4, 5, 6, 7] (by decide) rfl) hS
        · refine lv_iload hx hb d_Reader_dict_152 (lv_at hl 0 rfl) ?_
          refine lv_if_ne (tgt := 174) hx hb d_Reader_dict_154 (by decide) (fun c_5 => ?_) (fun c_5 => ?_)
          · refine lv_iconst (v := 0) hx hb d_Reader_dict_174 (by decide) ?_
            exact ret 0 (at2_134, kf2_134, nf2_134, gf2_134, sf2_134, size2_134, xsz2_134, xf2_134) (Nat.le_of_ble_eq_true rfl) (Nat.le_of_ble_eq_true rfl) d_Reader_dict_175 rfl ⟨hj0_134, hj1_134, (by first | assumption | decide)⟩ (hP.sub [0, 8, 9, 1, 2, 3, 4, 5, 6, 7] rfl) (hD.sub [0, 8, 9, 1, 2, 3, 4, 5, 6, 7] (by decide) rfl) hS
          · refine lv_aload_n hx hb d_Reader_dict_157 rfl (lv_at hl 3 rfl) ?_
            refine gc_i (wr := []) (gc_V (wc := [(rd, .inr (3, [.ref tr, .ref t, .int at2_134])), (tr, .inr (1, [.ref ta, .int tsz])), (ta, .inl (G.2.1 0, 1000, .inl tf)), (t, .inr (2, [.ref ka, .ref na, .ref ga, .ref sa, .ref xr, .int size2_134])), (ka, .inl (G.2.1 0, 1000, .inl kf2_134)), (na, .inl (G.2.1 1, 1000, .inl nf2_134)), (ga, .inl (G.2.1 1, 1000, .inl gf2_134)), (sa, .inl (G.2.1 1, 1000, .inl sf2_134)), (xr, .inr (1, [.ref xa, .int xsz2_134])), (xa, .inl (G.2.1 0, 1000, .inl xf2_134))]) (As := []) (rest := []) ⟨hx, hb, hml, hown, hw⟩ (c_Reader_name l G rd at2_134 tr ta tsz tf t ka na ga sa xr xa kf2_134 nf2_134 gf2_134 sf2_134 size2_134 xsz2_134 xf2_134 htp hj0_134 hj1_134 H.size) (cwV 0 hw (good_V m_150 m_152 ms_2 m_5 m_153) rfl rfl rfl hy_Reader_name ⟨Nat.le_trans (Nat.le_of_ble_eq_true rfl) (Nat.le_add_right 7 _), Nat.le_trans (Nat.le_of_ble_eq_true rfl) (Nat.le_add_right 151 _)⟩) hE hP hD hS hA (va_recv hE.1 hP (ci := 3) (q0 := 0) rfl rfl) [0, 8, 9, 1, 2, 3, 4, 5, 6, 7] rfl (by decide) rfl hl rfl (Nat.le_of_ble_eq_true rfl) d_Reader_dict_158 ⟨Nat.le_of_ble_eq_true rfl, Nat.le_of_ble_eq_true rfl⟩) hP hD hS hA [0, 8, 9, 1, 2, 3, 4, 5, 6, 7] [] rfl rfl (by decide) (by decide) (fun r_6 u_7 H locs hw_8 hP hD hS => ?_)
            obtain ⟨at2_9, kf2_10, nf2_11, gf2_12, sf2_13, size2_14, xsz2_15, xf2_16⟩ := u_7
            try dsimp only at hw_8
            obtain ⟨h_17, h_18, h_19⟩ := hw_8
            have hP : va_P G.1 vwCl [(rd, .inr (3, [.ref tr, .ref t, .int at2_9])), (tr, .inr (1, [.ref ta, .int tsz])), (ta, .inl (G.2.1 0, 1000, .inl tf)), (t, .inr (2, [.ref ka, .ref na, .ref ga, .ref sa, .ref xr, .int size2_14])), (ka, .inl (G.2.1 0, 1000, .inl kf2_10)), (na, .inl (G.2.1 1, 1000, .inl nf2_11)), (ga, .inl (G.2.1 1, 1000, .inl gf2_12)), (sa, .inl (G.2.1 1, 1000, .inl sf2_13)), (xr, .inr (1, [.ref xa, .int xsz2_15])), (xa, .inl (G.2.1 0, 1000, .inl xf2_16))] H := hP
            have hD : va_D A [(rd, .inr (3, [.ref tr, .ref t, .int at2_9])), (tr, .inr (1, [.ref ta, .int tsz])), (ta, .inl (G.2.1 0, 1000, .inl tf)), (t, .inr (2, [.ref ka, .ref na, .ref ga, .ref sa, .ref xr, .int size2_14])), (ka, .inl (G.2.1 0, 1000, .inl kf2_10)), (na, .inl (G.2.1 1, 1000, .inl nf2_11)), (ga, .inl (G.2.1 1, 1000, .inl gf2_12)), (sa, .inl (G.2.1 1, 1000, .inl sf2_13)), (xr, .inr (1, [.ref xa, .int xsz2_15])), (xa, .inl (G.2.1 0, 1000, .inl xf2_16))] := hD
            refine lv_if_eq (tgt := 174) hx hb d_Reader_dict_161 (by decide) (fun c_20 => ?_) (fun c_20 => ?_)
            · refine lv_iconst (v := 0) hx hb d_Reader_dict_174 (by decide) ?_
              exact ret 0 (at2_9, kf2_10, nf2_11, gf2_12, sf2_13, size2_14, xsz2_15, xf2_16) (Nat.le_of_ble_eq_true rfl) (Nat.le_of_ble_eq_true rfl) d_Reader_dict_175 rfl ⟨h_17, h_18, (by first | assumption | decide)⟩ (hP.sub [0, 1, 2, 3, 4, 5, 6, 7, 8, 9] rfl) (hD.sub [0, 1, 2, 3, 4, 5, 6, 7, 8, 9] (by decide) rfl) hS
            · refine lv_aload_n hx hb d_Reader_dict_164 rfl (lv_at hl 3 rfl) ?_
              refine lv_iload_n hx hb d_Reader_dict_165 rfl (lv_at hl 4 rfl) ?_
              refine lv_iconst (v := 1) hx hb d_Reader_dict_166 (by decide) ?_
              refine lv_iadd hx hb d_Reader_dict_167 ?_
              refine lv_topi (fun y_21 ey_21 => ?_)
              obtain ⟨kk, hkk⟩ : ∃ kk, n = kk + 1 := rd_pred hd hk0_32
              refine gc_i (wr := []) (gc_V (wc := [(rd, .inr (3, [.ref tr, .ref t, .int at2_9])), (tr, .inr (1, [.ref ta, .int tsz])), (ta, .inl (G.2.1 0, 1000, .inl tf)), (t, .inr (2, [.ref ka, .ref na, .ref ga, .ref sa, .ref xr, .int size2_14])), (ka, .inl (G.2.1 0, 1000, .inl kf2_10)), (na, .inl (G.2.1 1, 1000, .inl nf2_11)), (ga, .inl (G.2.1 1, 1000, .inl gf2_12)), (sa, .inl (G.2.1 1, 1000, .inl sf2_13)), (xr, .inr (1, [.ref xa, .int xsz2_15])), (xa, .inl (G.2.1 0, 1000, .inl xf2_16))]) (As := [.int y_21]) (rest := []) ⟨hx, hb, hml, hown, hw⟩ ((ho kk hkk) rd at2_9 tr ta tsz tf t ka na ga sa xr xa kf2_10 nf2_11 gf2_12 sf2_13 size2_14 xsz2_15 xf2_16 y_21 htp h_17 h_18 (rd_next hd hkk (by assumption)) H.size) (cwV 1 hw (good_V m_134 m_136 ms_0 m_5 m_137) rfl rfl rfl hy_Reader_object ⟨by show 7 + (2 * kk + 1) + 1 ≤ 7 + 2 * n; omega, by show 8 + (2 + 11) + (151 + (45 * kk + 24)) ≤ 151 + 45 * n; omega⟩) hE hP hD hS hA (va_recv hE.1 hP (ci := 3) (q0 := 0) rfl rfl) [0, 1, 2, 3, 4, 5, 6, 7, 8, 9] rfl (by decide) rfl hl rfl (Nat.le_of_ble_eq_true rfl) d_Reader_dict_168 ⟨Nat.le_of_ble_eq_true rfl, Nat.le_of_ble_eq_true rfl⟩) hP hD hS hA [0, 1, 2, 3, 4, 5, 6, 7, 8, 9] [] rfl rfl (by decide) (by decide) (fun r_22 u_23 H locs hw_24 hP hD hS => ?_)
              obtain ⟨at2_25, kf2_26, nf2_27, gf2_28, sf2_29, size2_30, xsz2_31, xf2_32⟩ := u_23
              try dsimp only at hw_24
              obtain ⟨h_33, h_34, h_35⟩ := hw_24
              have hP : va_P G.1 vwCl [(rd, .inr (3, [.ref tr, .ref t, .int at2_25])), (tr, .inr (1, [.ref ta, .int tsz])), (ta, .inl (G.2.1 0, 1000, .inl tf)), (t, .inr (2, [.ref ka, .ref na, .ref ga, .ref sa, .ref xr, .int size2_30])), (ka, .inl (G.2.1 0, 1000, .inl kf2_26)), (na, .inl (G.2.1 1, 1000, .inl nf2_27)), (ga, .inl (G.2.1 1, 1000, .inl gf2_28)), (sa, .inl (G.2.1 1, 1000, .inl sf2_29)), (xr, .inr (1, [.ref xa, .int xsz2_31])), (xa, .inl (G.2.1 0, 1000, .inl xf2_32))] H := hP
              have hD : va_D A [(rd, .inr (3, [.ref tr, .ref t, .int at2_25])), (tr, .inr (1, [.ref ta, .int tsz])), (ta, .inl (G.2.1 0, 1000, .inl tf)), (t, .inr (2, [.ref ka, .ref na, .ref ga, .ref sa, .ref xr, .int size2_30])), (ka, .inl (G.2.1 0, 1000, .inl kf2_26)), (na, .inl (G.2.1 1, 1000, .inl nf2_27)), (ga, .inl (G.2.1 1, 1000, .inl gf2_28)), (sa, .inl (G.2.1 1, 1000, .inl sf2_29)), (xr, .inr (1, [.ref xa, .int xsz2_31])), (xa, .inl (G.2.1 0, 1000, .inl xf2_32))] := hD
              refine lv_if_ne (tgt := 176) hx hb d_Reader_dict_171 (by decide) (fun c_36 => ?_) (fun c_36 => ?_)
              · refine lv_aload_n hx hb d_Reader_dict_176 rfl (lv_at hl 3 rfl) ?_
                refine va_get (D := G.1) (ci := 3) (v := .ref t) (C := R_Reader) (T := F_Reader) (N := 3) hx hb hw i_Reader hown hE.1 hP 0 rfl rfl 1 (by decide) (hw _ m_116) (fun _ h9 => h9) rfl d_Reader_dict_177 ?_
                refine lv_iload_n hx hb d_Reader_dict_180 rfl (lv_at hl 2 rfl) ?_
                refine gc_v (wr := [(rd, .inr (3, [.ref tr, .ref t, .int at2_25])), (tr, .inr (1, [.ref ta, .int tsz])), (ta, .inl (G.2.1 0, 1000, .inl tf))]) (gc_V (wc := [(t, .inr (2, [.ref ka, .ref na, .ref ga, .ref sa, .ref xr, .int size2_30])), (ka, .inl (G.2.1 0, 1000, .inl kf2_26)), (na, .inl (G.2.1 1, 1000, .inl nf2_27)), (ga, .inl (G.2.1 1, 1000, .inl gf2_28)), (sa, .inl (G.2.1 1, 1000, .inl sf2_29)), (xr, .inr (1, [.ref xa, .int xsz2_31])), (xa, .inl (G.2.1 0, 1000, .inl xf2_32))]) (As := [.int x2_32]) (rest := []) ⟨hx, hb, hml, hown, hw⟩ (c_Tree_countPart l G t ka na ga sa xr xa kf2_26 nf2_27 gf2_28 sf2_29 size2_30 xsz2_31 xf2_32 x2_32 h_33 h_34 H.size) (cwV 1 hw (good_V m_219 m_220 m_221 m_3 m_222) rfl rfl rfl hy_Tree_countPart ⟨Nat.le_trans (Nat.le_of_ble_eq_true rfl) (Nat.le_add_right 7 _), Nat.le_trans (Nat.le_of_ble_eq_true rfl) (Nat.le_add_right 151 _)⟩) hE hP hD hS hA (va_recv hE.1 hP (ci := 2) (q0 := 3) rfl rfl) [3, 4, 5, 6, 7, 8, 9] rfl (by decide) rfl hl rfl (Nat.le_of_ble_eq_true rfl) d_Reader_dict_181 ⟨Nat.le_of_ble_eq_true rfl, Nat.le_of_ble_eq_true rfl⟩) hP hD hS hA [3, 4, 5, 6, 7, 8, 9] [0, 1, 2] rfl rfl (by decide) (by decide) (fun u_38 H locs hw_39 hP hD hS => ?_)
                obtain ⟨nf2_40, sf2_41⟩ := u_38
                have hP : va_P G.1 vwCl [(rd, .inr (3, [.ref tr, .ref t, .int at2_25])), (tr, .inr (1, [.ref ta, .int tsz])), (ta, .inl (G.2.1 0, 1000, .inl tf)), (t, .inr (2, [.ref ka, .ref na, .ref ga, .ref sa, .ref xr, .int size2_30])), (ka, .inl (G.2.1 0, 1000, .inl kf2_26)), (na, .inl (G.2.1 1, 1000, .inl nf2_40)), (ga, .inl (G.2.1 1, 1000, .inl gf2_28)), (sa, .inl (G.2.1 1, 1000, .inl sf2_41)), (xr, .inr (1, [.ref xa, .int xsz2_31])), (xa, .inl (G.2.1 0, 1000, .inl xf2_32))] H := hP
                have hD : va_D A [(rd, .inr (3, [.ref tr, .ref t, .int at2_25])), (tr, .inr (1, [.ref ta, .int tsz])), (ta, .inl (G.2.1 0, 1000, .inl tf)), (t, .inr (2, [.ref ka, .ref na, .ref ga, .ref sa, .ref xr, .int size2_30])), (ka, .inl (G.2.1 0, 1000, .inl kf2_26)), (na, .inl (G.2.1 1, 1000, .inl nf2_40)), (ga, .inl (G.2.1 1, 1000, .inl gf2_28)), (sa, .inl (G.2.1 1, 1000, .inl sf2_41)), (xr, .inr (1, [.ref xa, .int xsz2_31])), (xa, .inl (G.2.1 0, 1000, .inl xf2_32))] := hD
                obtain ⟨y_42, ey_42⟩ : ∃ y : Int32, y = x3_32 + 1 := ⟨_, rfl⟩
                refine lv_iinc (v := y_42) (lv' := [(3, .int y_42), (4, .int k0_134), (2, .int x2_32), (0, .ref rd), (1, .int d)]) hx hb d_Reader_dict_184 hl (k := 1) rfl (by rw [ey_42]; rfl) (by decide) rfl (fun ls hl => ?_)
                refine lv_goto (tgt := 32) hx hb d_Reader_dict_187 (by decide) ?_
                exact ih_32 y_42 x2_32 at2_25 kf2_26 nf2_40 gf2_28 sf2_41 size2_30 xsz2_31 xf2_32 h_33 h_34 (by first | assumption | trivial | (try dsimp only; omega)) (ms_upe (B := 30) (by assumption) (by assumption) (by decide) hm_32) _ _ (hP.sub [0, 1, 2, 3, 4, 5, 6, 7, 8, 9] rfl) (hD.sub [0, 1, 2, 3, 4, 5, 6, 7, 8, 9] (by decide) rfl) hS _ (lv_sub hl [0, 2, 3, 4] rfl)
              · refine lv_iconst (v := 0) hx hb d_Reader_dict_174 (by decide) ?_
                exact ret 0 (at2_25, kf2_26, nf2_27, gf2_28, sf2_29, size2_30, xsz2_31, xf2_32) (Nat.le_of_ble_eq_true rfl) (Nat.le_of_ble_eq_true rfl) d_Reader_dict_175 rfl ⟨h_33, h_34, (by first | assumption | decide)⟩ (hP.sub [0, 1, 2, 3, 4, 5, 6, 7, 8, 9] rfl) (hD.sub [0, 1, 2, 3, 4, 5, 6, 7, 8, 9] (by decide) rfl) hS
      have J_96 : ∀ (at2_96 : Int32) (kf2_96 : Nat → Int32) (nf2_96 : Nat → Int32) (gf2_96 : Nat → Int32) (sf2_96 : Nat → Int32) (size2_96 : Int32) (xsz2_96 : Int32) (xf2_96 : Nat → Int32) (hj0_96 : RowOk 1000 size2_96) (hj1_96 : RowOk 1000 xsz2_96) (hk0_96 : ¬ 30 < x3_32) (H : Heap) (locs : List Loc), va_P G.1 vwCl [(rd, .inr (3, [.ref tr, .ref t, .int at2_96])), (tr, .inr (1, [.ref ta, .int tsz])), (ta, .inl (G.2.1 0, 1000, .inl tf)), (t, .inr (2, [.ref ka, .ref na, .ref ga, .ref sa, .ref xr, .int size2_96])), (ka, .inl (G.2.1 0, 1000, .inl kf2_96)), (na, .inl (G.2.1 1, 1000, .inl nf2_96)), (ga, .inl (G.2.1 1, 1000, .inl gf2_96)), (sa, .inl (G.2.1 1, 1000, .inl sf2_96)), (xr, .inr (1, [.ref xa, .int xsz2_96])), (xa, .inl (G.2.1 0, 1000, .inl xf2_96))] H → va_D A [(rd, .inr (3, [.ref tr, .ref t, .int at2_96])), (tr, .inr (1, [.ref ta, .int tsz])), (ta, .inl (G.2.1 0, 1000, .inl tf)), (t, .inr (2, [.ref ka, .ref na, .ref ga, .ref sa, .ref xr, .int size2_96])), (ka, .inl (G.2.1 0, 1000, .inl kf2_96)), (na, .inl (G.2.1 1, 1000, .inl nf2_96)), (ga, .inl (G.2.1 1, 1000, .inl gf2_96)), (sa, .inl (G.2.1 1, 1000, .inl sf2_96)), (xr, .inr (1, [.ref xa, .int xsz2_96])), (xa, .inl (G.2.1 0, 1000, .inl xf2_96))] → va_S A s.heap H locs → ∀ ls : Array Slot, lv_has ls 5 [(3, .int x3_32), (2, .int x2_32), (0, .ref rd), (1, .int d)] → W p l e (rm_Ra n) s m args below meth c H locs 0 0 Q (F0 m 96 ls []) := by
        intro at2_96 kf2_96 nf2_96 gf2_96 sf2_96 size2_96 xsz2_96 xf2_96 hj0_96 hj1_96 hk0_96 H locs hP hD hS ls hl
        refine lv_aload_n hx hb d_Reader_dict_96 rfl (lv_at hl 2 rfl) ?_
        refine va_get (D := G.1) (ci := 3) (v := .ref t) (C := R_Reader) (T := F_Reader) (N := 3) hx hb hw i_Reader hown hE.1 hP 0 rfl rfl 1 (by decide) (hw _ m_116) (fun _ h9 => h9) rfl d_Reader_dict_97 ?_
        refine lv_iload_n hx hb d_Reader_dict_100 rfl (lv_at hl 1 rfl) ?_
        refine lv_aload_n hx hb d_Reader_dict_101 rfl (lv_at hl 2 rfl) ?_
        refine va_get (D := G.1) (ci := 3) (v := .ref tr) (C := R_Reader) (T := F_Reader) (N := 3) hx hb hw i_Reader hown hE.1 hP 0 rfl rfl 0 (by decide) (hw _ m_115) (fun _ h9 => h9) rfl d_Reader_dict_102 ?_
        refine lv_aload_n hx hb d_Reader_dict_105 rfl (lv_at hl 2 rfl) ?_
        refine va_get (D := G.1) (ci := 3) (v := .int at2_96) (C := R_Reader) (T := F_Reader) (N := 3) hx hb hw i_Reader hown hE.1 hP 0 rfl rfl 2 (by decide) (hw _ m_117) (fun _ h9 => h9) rfl d_Reader_dict_106 ?_
        refine lv_iconst (v := 1) hx hb d_Reader_dict_109 (by decide) ?_
        refine lv_iadd hx hb d_Reader_dict_110 ?_
        refine lv_topi (fun y_43 ey_43 => ?_)
        refine lv_aload_n hx hb d_Reader_dict_111 rfl (lv_at hl 2 rfl) ?_
        refine lv_aload_n hx hb d_Reader_dict_112 rfl (lv_at hl 2 rfl) ?_
        refine va_get (D := G.1) (ci := 3) (v := .int at2_96) (C := R_Reader) (T := F_Reader) (N := 3) hx hb hw i_Reader hown hE.1 hP 0 rfl rfl 2 (by decide) (hw _ m_117) (fun _ h9 => h9) rfl d_Reader_dict_113 ?_
        refine lv_iconst (v := 1) hx hb d_Reader_dict_116 (by decide) ?_
        refine lv_iadd hx hb d_Reader_dict_117 ?_
        refine lv_topi (fun y_44 ey_44 => ?_)
        refine gc_i (wr := [(t, .inr (2, [.ref ka, .ref na, .ref ga, .ref sa, .ref xr, .int size2_96])), (ka, .inl (G.2.1 0, 1000, .inl kf2_96)), (na, .inl (G.2.1 1, 1000, .inl nf2_96)), (ga, .inl (G.2.1 1, 1000, .inl gf2_96)), (sa, .inl (G.2.1 1, 1000, .inl sf2_96)), (xr, .inr (1, [.ref xa, .int xsz2_96])), (xa, .inl (G.2.1 0, 1000, .inl xf2_96))]) (gc_V (wc := [(rd, .inr (3, [.ref tr, .ref t, .int at2_96])), (tr, .inr (1, [.ref ta, .int tsz])), (ta, .inl (G.2.1 0, 1000, .inl tf))]) (As := [.int y_44]) (rest := [.int y_43, .ref tr, .int x2_32, .ref t]) ⟨hx, hb, hml, hown, hw⟩ (c_Reader_wordLength l G rd t at2_96 tr ta tsz tf y_44 htp H.size) (cwV 1 hw (good_V m_154 m_156 ms_3 m_5 m_157) rfl rfl rfl hy_Reader_wordLength ⟨Nat.le_trans (Nat.le_of_ble_eq_true rfl) (Nat.le_add_right 7 _), Nat.le_trans (Nat.le_of_ble_eq_true rfl) (Nat.le_add_right 151 _)⟩) hE hP hD hS hA (va_recv hE.1 hP (ci := 3) (q0 := 0) rfl rfl) [0, 1, 2] rfl (by decide) rfl hl rfl (Nat.le_of_ble_eq_true rfl) d_Reader_dict_118 ⟨Nat.le_of_ble_eq_true rfl, Nat.le_of_ble_eq_true rfl⟩) hP hD hS hA [0, 1, 2] [3, 4, 5, 6, 7, 8, 9] rfl rfl (by decide) (by decide) (fun r_45 u_46 H locs hw_47 hP hD hS => ?_)
        have hP : va_P G.1 vwCl [(t, .inr (2, [.ref ka, .ref na, .ref ga, .ref sa, .ref xr, .int size2_96])), (ka, .inl (G.2.1 0, 1000, .inl kf2_96)), (na, .inl (G.2.1 1, 1000, .inl nf2_96)), (ga, .inl (G.2.1 1, 1000, .inl gf2_96)), (sa, .inl (G.2.1 1, 1000, .inl sf2_96)), (xr, .inr (1, [.ref xa, .int xsz2_96])), (xa, .inl (G.2.1 0, 1000, .inl xf2_96)), (rd, .inr (3, [.ref tr, .ref t, .int at2_96])), (tr, .inr (1, [.ref ta, .int tsz])), (ta, .inl (G.2.1 0, 1000, .inl tf))] H := hP
        have hD : va_D A [(t, .inr (2, [.ref ka, .ref na, .ref ga, .ref sa, .ref xr, .int size2_96])), (ka, .inl (G.2.1 0, 1000, .inl kf2_96)), (na, .inl (G.2.1 1, 1000, .inl nf2_96)), (ga, .inl (G.2.1 1, 1000, .inl gf2_96)), (sa, .inl (G.2.1 1, 1000, .inl sf2_96)), (xr, .inr (1, [.ref xa, .int xsz2_96])), (xa, .inl (G.2.1 0, 1000, .inl xf2_96)), (rd, .inr (3, [.ref tr, .ref t, .int at2_96])), (tr, .inr (1, [.ref ta, .int tsz])), (ta, .inl (G.2.1 0, 1000, .inl tf))] := hD
        refine gc_i (wr := [(rd, .inr (3, [.ref tr, .ref t, .int at2_96]))]) (gc_V (wc := [(t, .inr (2, [.ref ka, .ref na, .ref ga, .ref sa, .ref xr, .int size2_96])), (ka, .inl (G.2.1 0, 1000, .inl kf2_96)), (na, .inl (G.2.1 1, 1000, .inl nf2_96)), (ga, .inl (G.2.1 1, 1000, .inl gf2_96)), (sa, .inl (G.2.1 1, 1000, .inl sf2_96)), (xr, .inr (1, [.ref xa, .int xsz2_96])), (xa, .inl (G.2.1 0, 1000, .inl xf2_96)), (tr, .inr (1, [.ref ta, .int tsz])), (ta, .inl (G.2.1 0, 1000, .inl tf))]) (As := [.int x2_32, .ref tr, .int y_43, .int r_45]) (rest := []) ⟨hx, hb, hml, hown, hw⟩ (c_Tree_valueNamed l G t ka na ga sa xr xa kf2_96 nf2_96 gf2_96 sf2_96 size2_96 xsz2_96 xf2_96 tr ta 1000 tsz tf x2_32 y_43 r_45 hj0_96 hj1_96 (by decide) htp H.size) (cwV 4 hw (good_V m_191 m_192 m_193 m_3 m_194) rfl rfl rfl hy_Tree_valueNamed ⟨Nat.le_trans (Nat.le_of_ble_eq_true rfl) (Nat.le_add_right 7 _), Nat.le_trans (Nat.le_of_ble_eq_true rfl) (Nat.le_add_right 151 _)⟩) hE hP hD hS hA (va_recv hE.1 hP (ci := 2) (q0 := 0) rfl rfl) [0, 1, 2, 3, 4, 5, 6, 8, 9] rfl (by decide) rfl hl rfl (Nat.le_of_ble_eq_true rfl) d_Reader_dict_121 ⟨Nat.le_of_ble_eq_true rfl, Nat.le_of_ble_eq_true rfl⟩) hP hD hS hA [0, 1, 2, 3, 4, 5, 6, 8, 9] [7] rfl rfl (by decide) (by decide) (fun r_48 u_49 H locs hw_50 hP hD hS => ?_)
        have hP : va_P G.1 vwCl [(rd, .inr (3, [.ref tr, .ref t, .int at2_96])), (t, .inr (2, [.ref ka, .ref na, .ref ga, .ref sa, .ref xr, .int size2_96])), (ka, .inl (G.2.1 0, 1000, .inl kf2_96)), (na, .inl (G.2.1 1, 1000, .inl nf2_96)), (ga, .inl (G.2.1 1, 1000, .inl gf2_96)), (sa, .inl (G.2.1 1, 1000, .inl sf2_96)), (xr, .inr (1, [.ref xa, .int xsz2_96])), (xa, .inl (G.2.1 0, 1000, .inl xf2_96)), (tr, .inr (1, [.ref ta, .int tsz])), (ta, .inl (G.2.1 0, 1000, .inl tf))] H := hP
        have hD : va_D A [(rd, .inr (3, [.ref tr, .ref t, .int at2_96])), (t, .inr (2, [.ref ka, .ref na, .ref ga, .ref sa, .ref xr, .int size2_96])), (ka, .inl (G.2.1 0, 1000, .inl kf2_96)), (na, .inl (G.2.1 1, 1000, .inl nf2_96)), (ga, .inl (G.2.1 1, 1000, .inl gf2_96)), (sa, .inl (G.2.1 1, 1000, .inl sf2_96)), (xr, .inr (1, [.ref xa, .int xsz2_96])), (xa, .inl (G.2.1 0, 1000, .inl xf2_96)), (tr, .inr (1, [.ref ta, .int tsz])), (ta, .inl (G.2.1 0, 1000, .inl tf))] := hD
        refine lv_bipush (v := (-2)) hx hb d_Reader_dict_124 (by decide) ?_
        refine lv_icmp_eq (tgt := 133) hx hb d_Reader_dict_126 (by decide) (fun c_51 => ?_) (fun c_51 => ?_)
        · refine lv_iconst (v := 0) hx hb d_Reader_dict_133 (by decide) ?_
          exact J_134 0 at2_96 kf2_96 nf2_96 gf2_96 sf2_96 size2_96 xsz2_96 xf2_96 hj0_96 hj1_96 hk0_96 _ _ (hP.sub [0, 8, 9, 1, 2, 3, 4, 5, 6, 7] rfl) (hD.sub [0, 8, 9, 1, 2, 3, 4, 5, 6, 7] (by decide) rfl) hS _ (lv_sub hl [0, 1, 2, 3] rfl)
        · refine lv_iconst (v := 1) hx hb d_Reader_dict_129 (by decide) ?_
          refine lv_goto (tgt := 134) hx hb d_Reader_dict_130 (by decide) ?_
          exact J_134 1 at2_96 kf2_96 nf2_96 gf2_96 sf2_96 size2_96 xsz2_96 xf2_96 hj0_96 hj1_96 hk0_96 _ _ (hP.sub [0, 8, 9, 1, 2, 3, 4, 5, 6, 7] rfl) (hD.sub [0, 8, 9, 1, 2, 3, 4, 5, 6, 7] (by decide) rfl) hS _ (lv_sub hl [0, 1, 2, 3] rfl)
      refine lv_iload_n hx hb d_Reader_dict_32 rfl (lv_at hl 0 rfl) ?_
      refine lv_bipush (v := 30) hx hb d_Reader_dict_33 (by decide) ?_
      refine lv_icmp_gt (tgt := 190) hx hb d_Reader_dict_35 (by decide) (fun c_52 => ?_) (fun c_52 => ?_)
      · refine lv_iconst (v := 0) hx hb d_Reader_dict_190 (by decide) ?_
        exact ret 0 (at2_32, kf2_32, nf2_32, gf2_32, sf2_32, size2_32, xsz2_32, xf2_32) (Nat.le_of_ble_eq_true rfl) (Nat.le_of_ble_eq_true rfl) d_Reader_dict_191 rfl ⟨hj0_32, hj1_32, (by first | assumption | decide)⟩ (hP.sub [0, 1, 2, 3, 4, 5, 6, 7, 8, 9] rfl) (hD.sub [0, 1, 2, 3, 4, 5, 6, 7, 8, 9] (by decide) rfl) hS
      · refine lv_aload_n hx hb d_Reader_dict_38 rfl (lv_at hl 2 rfl) ?_
        refine lv_aload_n hx hb d_Reader_dict_39 rfl (lv_at hl 2 rfl) ?_
        refine lv_aload_n hx hb d_Reader_dict_40 rfl (lv_at hl 2 rfl) ?_
        refine va_get (D := G.1) (ci := 3) (v := .int at2_32) (C := R_Reader) (T := F_Reader) (N := 3) hx hb hw i_Reader hown hE.1 hP 0 rfl rfl 2 (by decide) (hw _ m_117) (fun _ h9 => h9) rfl d_Reader_dict_41 ?_
        refine gc_i (wr := [(t, .inr (2, [.ref ka, .ref na, .ref ga, .ref sa, .ref xr, .int size2_32])), (ka, .inl (G.2.1 0, 1000, .inl kf2_32)), (na, .inl (G.2.1 1, 1000, .inl nf2_32)), (ga, .inl (G.2.1 1, 1000, .inl gf2_32)), (sa, .inl (G.2.1 1, 1000, .inl sf2_32)), (xr, .inr (1, [.ref xa, .int xsz2_32])), (xa, .inl (G.2.1 0, 1000, .inl xf2_32))]) (gc_V (wc := [(rd, .inr (3, [.ref tr, .ref t, .int at2_32])), (tr, .inr (1, [.ref ta, .int tsz])), (ta, .inl (G.2.1 0, 1000, .inl tf))]) (As := [.int at2_32]) (rest := [.ref rd]) ⟨hx, hb, hml, hown, hw⟩ (c_Reader_afterWhite l G rd t at2_32 tr ta tsz tf at2_32 htp H.size) (cwV 1 hw (good_V m_138 m_140 ms_1 m_5 m_141) rfl rfl rfl hy_Reader_afterWhite ⟨Nat.le_trans (Nat.le_of_ble_eq_true rfl) (Nat.le_add_right 7 _), Nat.le_trans (Nat.le_of_ble_eq_true rfl) (Nat.le_add_right 151 _)⟩) hE hP hD hS hA (va_recv hE.1 hP (ci := 3) (q0 := 0) rfl rfl) [0, 1, 2] rfl (by decide) rfl hl rfl (Nat.le_of_ble_eq_true rfl) d_Reader_dict_44 ⟨Nat.le_of_ble_eq_true rfl, Nat.le_of_ble_eq_true rfl⟩) hP hD hS hA [0, 1, 2] [3, 4, 5, 6, 7, 8, 9] rfl rfl (by decide) (by decide) (fun r_53 u_54 H locs hw_55 hP hD hS => ?_)
        have hP : va_P G.1 vwCl [(t, .inr (2, [.ref ka, .ref na, .ref ga, .ref sa, .ref xr, .int size2_32])), (ka, .inl (G.2.1 0, 1000, .inl kf2_32)), (na, .inl (G.2.1 1, 1000, .inl nf2_32)), (ga, .inl (G.2.1 1, 1000, .inl gf2_32)), (sa, .inl (G.2.1 1, 1000, .inl sf2_32)), (xr, .inr (1, [.ref xa, .int xsz2_32])), (xa, .inl (G.2.1 0, 1000, .inl xf2_32)), (rd, .inr (3, [.ref tr, .ref t, .int at2_32])), (tr, .inr (1, [.ref ta, .int tsz])), (ta, .inl (G.2.1 0, 1000, .inl tf))] H := hP
        have hD : va_D A [(t, .inr (2, [.ref ka, .ref na, .ref ga, .ref sa, .ref xr, .int size2_32])), (ka, .inl (G.2.1 0, 1000, .inl kf2_32)), (na, .inl (G.2.1 1, 1000, .inl nf2_32)), (ga, .inl (G.2.1 1, 1000, .inl gf2_32)), (sa, .inl (G.2.1 1, 1000, .inl sf2_32)), (xr, .inr (1, [.ref xa, .int xsz2_32])), (xa, .inl (G.2.1 0, 1000, .inl xf2_32)), (rd, .inr (3, [.ref tr, .ref t, .int at2_32])), (tr, .inr (1, [.ref ta, .int tsz])), (ta, .inl (G.2.1 0, 1000, .inl tf))] := hD
        refine va_put (D := G.1) (ci := 3) (v := .int r_53) (ty := .int) (C := R_Reader) (T := F_Reader) (N := 3) hx hb hw i_Reader t_Reader t_Reader_ok n_Reader hown hE.1 hP hD hS 7 rfl rfl 2 (by decide) (hw _ m_117) (fun _ h9 => h9) rfl (by decide +kernel) rfl rfl (Nat.le_of_ble_eq_true rfl) d_Reader_dict_47 (fun H locs hP hD hS => ?_)
        have hP : va_P G.1 vwCl [(t, .inr (2, [.ref ka, .ref na, .ref ga, .ref sa, .ref xr, .int size2_32])), (ka, .inl (G.2.1 0, 1000, .inl kf2_32)), (na, .inl (G.2.1 1, 1000, .inl nf2_32)), (ga, .inl (G.2.1 1, 1000, .inl gf2_32)), (sa, .inl (G.2.1 1, 1000, .inl sf2_32)), (xr, .inr (1, [.ref xa, .int xsz2_32])), (xa, .inl (G.2.1 0, 1000, .inl xf2_32)), (rd, .inr (3, [.ref tr, .ref t, .int r_53])), (tr, .inr (1, [.ref ta, .int tsz])), (ta, .inl (G.2.1 0, 1000, .inl tf))] H := hP
        have hD : va_D A [(t, .inr (2, [.ref ka, .ref na, .ref ga, .ref sa, .ref xr, .int size2_32])), (ka, .inl (G.2.1 0, 1000, .inl kf2_32)), (na, .inl (G.2.1 1, 1000, .inl nf2_32)), (ga, .inl (G.2.1 1, 1000, .inl gf2_32)), (sa, .inl (G.2.1 1, 1000, .inl sf2_32)), (xr, .inr (1, [.ref xa, .int xsz2_32])), (xa, .inl (G.2.1 0, 1000, .inl xf2_32)), (rd, .inr (3, [.ref tr, .ref t, .int r_53])), (tr, .inr (1, [.ref ta, .int tsz])), (ta, .inl (G.2.1 0, 1000, .inl tf))] := hD
        refine lv_aload_n hx hb d_Reader_dict_50 rfl (lv_at hl 2 rfl) ?_
        refine va_get (D := G.1) (ci := 3) (v := .ref tr) (C := R_Reader) (T := F_Reader) (N := 3) hx hb hw i_Reader hown hE.1 hP 7 rfl rfl 0 (by decide) (hw _ m_115) (fun _ h9 => h9) rfl d_Reader_dict_51 ?_
        refine lv_aload_n hx hb d_Reader_dict_54 rfl (lv_at hl 2 rfl) ?_
        refine va_get (D := G.1) (ci := 3) (v := .int r_53) (C := R_Reader) (T := F_Reader) (N := 3) hx hb hw i_Reader hown hE.1 hP 7 rfl rfl 2 (by decide) (hw _ m_117) (fun _ h9 => h9) rfl d_Reader_dict_55 ?_
        refine gc_i (wr := [(t, .inr (2, [.ref ka, .ref na, .ref ga, .ref sa, .ref xr, .int size2_32])), (ka, .inl (G.2.1 0, 1000, .inl kf2_32)), (na, .inl (G.2.1 1, 1000, .inl nf2_32)), (ga, .inl (G.2.1 1, 1000, .inl gf2_32)), (sa, .inl (G.2.1 1, 1000, .inl sf2_32)), (xr, .inr (1, [.ref xa, .int xsz2_32])), (xa, .inl (G.2.1 0, 1000, .inl xf2_32)), (rd, .inr (3, [.ref tr, .ref t, .int r_53]))]) (gc_V (wc := [(tr, .inr (1, [.ref ta, .int tsz])), (ta, .inl (G.2.1 0, 1000, .inl tf))]) (As := [.int r_53]) (rest := []) ⟨hx, hb, hml, hown, hw⟩ (c_Row_get l G tr ta 1000 tsz tf r_53 (by decide) htp H.size) (cwV 1 hw (good_V m_143 m_144 m_145 m_2 m_146) rfl rfl rfl hy_Row_get ⟨Nat.le_trans (Nat.le_of_ble_eq_true rfl) (Nat.le_add_right 7 _), Nat.le_trans (Nat.le_of_ble_eq_true rfl) (Nat.le_add_right 151 _)⟩) hE hP hD hS hA (va_recv hE.1 hP (ci := 1) (q0 := 8) rfl rfl) [8, 9] rfl (by decide) rfl hl rfl (Nat.le_of_ble_eq_true rfl) d_Reader_dict_58 ⟨Nat.le_of_ble_eq_true rfl, Nat.le_of_ble_eq_true rfl⟩) hP hD hS hA [8, 9] [0, 1, 2, 3, 4, 5, 6, 7] rfl rfl (by decide) (by decide) (fun r_56 u_57 H locs hw_58 hP hD hS => ?_)
        have hP : va_P G.1 vwCl [(t, .inr (2, [.ref ka, .ref na, .ref ga, .ref sa, .ref xr, .int size2_32])), (ka, .inl (G.2.1 0, 1000, .inl kf2_32)), (na, .inl (G.2.1 1, 1000, .inl nf2_32)), (ga, .inl (G.2.1 1, 1000, .inl gf2_32)), (sa, .inl (G.2.1 1, 1000, .inl sf2_32)), (xr, .inr (1, [.ref xa, .int xsz2_32])), (xa, .inl (G.2.1 0, 1000, .inl xf2_32)), (rd, .inr (3, [.ref tr, .ref t, .int r_53])), (tr, .inr (1, [.ref ta, .int tsz])), (ta, .inl (G.2.1 0, 1000, .inl tf))] H := hP
        have hD : va_D A [(t, .inr (2, [.ref ka, .ref na, .ref ga, .ref sa, .ref xr, .int size2_32])), (ka, .inl (G.2.1 0, 1000, .inl kf2_32)), (na, .inl (G.2.1 1, 1000, .inl nf2_32)), (ga, .inl (G.2.1 1, 1000, .inl gf2_32)), (sa, .inl (G.2.1 1, 1000, .inl sf2_32)), (xr, .inr (1, [.ref xa, .int xsz2_32])), (xa, .inl (G.2.1 0, 1000, .inl xf2_32)), (rd, .inr (3, [.ref tr, .ref t, .int r_53])), (tr, .inr (1, [.ref ta, .int tsz])), (ta, .inl (G.2.1 0, 1000, .inl tf))] := hD
        refine lv_bipush (v := 62) hx hb d_Reader_dict_61 (by decide) ?_
        refine lv_icmp_ne (tgt := 96) hx hb d_Reader_dict_63 (by decide) (fun c_59 => ?_) (fun c_59 => ?_)
        · exact J_96 r_53 kf2_32 nf2_32 gf2_32 sf2_32 size2_32 xsz2_32 xf2_32 hj0_32 hj1_32 (by first | assumption | trivial | (try dsimp only; omega)) _ _ (hP.sub [7, 8, 9, 0, 1, 2, 3, 4, 5, 6] rfl) (hD.sub [7, 8, 9, 0, 1, 2, 3, 4, 5, 6] (by decide) rfl) hS _ (lv_sub hl [0, 1, 2, 3] rfl)
        · refine lv_aload_n hx hb d_Reader_dict_66 rfl (lv_at hl 2 rfl) ?_
          refine va_get (D := G.1) (ci := 3) (v := .ref tr) (C := R_Reader) (T := F_Reader) (N := 3) hx hb hw i_Reader hown hE.1 hP 7 rfl rfl 0 (by decide) (hw _ m_115) (fun _ h9 => h9) rfl d_Reader_dict_67 ?_
          refine lv_aload_n hx hb d_Reader_dict_70 rfl (lv_at hl 2 rfl) ?_
          refine va_get (D := G.1) (ci := 3) (v := .int r_53) (C := R_Reader) (T := F_Reader) (N := 3) hx hb hw i_Reader hown hE.1 hP 7 rfl rfl 2 (by decide) (hw _ m_117) (fun _ h9 => h9) rfl d_Reader_dict_71 ?_
          refine lv_iconst (v := 1) hx hb d_Reader_dict_74 (by decide) ?_
          refine lv_iadd hx hb d_Reader_dict_75 ?_
          refine lv_topi (fun y_60 ey_60 => ?_)
          refine gc_i (wr := [(t, .inr (2, [.ref ka, .ref na, .ref ga, .ref sa, .ref xr, .int size2_32])), (ka, .inl (G.2.1 0, 1000, .inl kf2_32)), (na, .inl (G.2.1 1, 1000, .inl nf2_32)), (ga, .inl (G.2.1 1, 1000, .inl gf2_32)), (sa, .inl (G.2.1 1, 1000, .inl sf2_32)), (xr, .inr (1, [.ref xa, .int xsz2_32])), (xa, .inl (G.2.1 0, 1000, .inl xf2_32)), (rd, .inr (3, [.ref tr, .ref t, .int r_53]))]) (gc_V (wc := [(tr, .inr (1, [.ref ta, .int tsz])), (ta, .inl (G.2.1 0, 1000, .inl tf))]) (As := [.int y_60]) (rest := []) ⟨hx, hb, hml, hown, hw⟩ (c_Row_get l G tr ta 1000 tsz tf y_60 (by decide) htp H.size) (cwV 1 hw (good_V m_143 m_144 m_145 m_2 m_146) rfl rfl rfl hy_Row_get ⟨Nat.le_trans (Nat.le_of_ble_eq_true rfl) (Nat.le_add_right 7 _), Nat.le_trans (Nat.le_of_ble_eq_true rfl) (Nat.le_add_right 151 _)⟩) hE hP hD hS hA (va_recv hE.1 hP (ci := 1) (q0 := 8) rfl rfl) [8, 9] rfl (by decide) rfl hl rfl (Nat.le_of_ble_eq_true rfl) d_Reader_dict_76 ⟨Nat.le_of_ble_eq_true rfl, Nat.le_of_ble_eq_true rfl⟩) hP hD hS hA [8, 9] [0, 1, 2, 3, 4, 5, 6, 7] rfl rfl (by decide) (by decide) (fun r_61 u_62 H locs hw_63 hP hD hS => ?_)
          have hP : va_P G.1 vwCl [(t, .inr (2, [.ref ka, .ref na, .ref ga, .ref sa, .ref xr, .int size2_32])), (ka, .inl (G.2.1 0, 1000, .inl kf2_32)), (na, .inl (G.2.1 1, 1000, .inl nf2_32)), (ga, .inl (G.2.1 1, 1000, .inl gf2_32)), (sa, .inl (G.2.1 1, 1000, .inl sf2_32)), (xr, .inr (1, [.ref xa, .int xsz2_32])), (xa, .inl (G.2.1 0, 1000, .inl xf2_32)), (rd, .inr (3, [.ref tr, .ref t, .int r_53])), (tr, .inr (1, [.ref ta, .int tsz])), (ta, .inl (G.2.1 0, 1000, .inl tf))] H := hP
          have hD : va_D A [(t, .inr (2, [.ref ka, .ref na, .ref ga, .ref sa, .ref xr, .int size2_32])), (ka, .inl (G.2.1 0, 1000, .inl kf2_32)), (na, .inl (G.2.1 1, 1000, .inl nf2_32)), (ga, .inl (G.2.1 1, 1000, .inl gf2_32)), (sa, .inl (G.2.1 1, 1000, .inl sf2_32)), (xr, .inr (1, [.ref xa, .int xsz2_32])), (xa, .inl (G.2.1 0, 1000, .inl xf2_32)), (rd, .inr (3, [.ref tr, .ref t, .int r_53])), (tr, .inr (1, [.ref ta, .int tsz])), (ta, .inl (G.2.1 0, 1000, .inl tf))] := hD
          refine lv_bipush (v := 62) hx hb d_Reader_dict_79 (by decide) ?_
          refine lv_icmp_ne (tgt := 96) hx hb d_Reader_dict_81 (by decide) (fun c_64 => ?_) (fun c_64 => ?_)
          · exact J_96 r_53 kf2_32 nf2_32 gf2_32 sf2_32 size2_32 xsz2_32 xf2_32 hj0_32 hj1_32 (by first | assumption | trivial | (try dsimp only; omega)) _ _ (hP.sub [7, 8, 9, 0, 1, 2, 3, 4, 5, 6] rfl) (hD.sub [7, 8, 9, 0, 1, 2, 3, 4, 5, 6] (by decide) rfl) hS _ (lv_sub hl [0, 1, 2, 3] rfl)
          · refine lv_aload_n hx hb d_Reader_dict_84 rfl (lv_at hl 2 rfl) ?_
            refine lv_dup hx hb d_Reader_dict_85 rfl ?_
            refine va_get (D := G.1) (ci := 3) (v := .int r_53) (C := R_Reader) (T := F_Reader) (N := 3) hx hb hw i_Reader hown hE.1 hP 7 rfl rfl 2 (by decide) (hw _ m_117) (fun _ h9 => h9) rfl d_Reader_dict_86 ?_
            refine lv_iconst (v := 2) hx hb d_Reader_dict_89 (by decide) ?_
            refine lv_iadd hx hb d_Reader_dict_90 ?_
            refine lv_topi (fun y_65 ey_65 => ?_)
            refine va_put (D := G.1) (ci := 3) (v := .int y_65) (ty := .int) (C := R_Reader) (T := F_Reader) (N := 3) hx hb hw i_Reader t_Reader t_Reader_ok n_Reader hown hE.1 hP hD hS 7 rfl rfl 2 (by decide) (hw _ m_117) (fun _ h9 => h9) rfl (by decide +kernel) rfl rfl (Nat.le_of_ble_eq_true rfl) d_Reader_dict_91 (fun H locs hP hD hS => ?_)
            have hP : va_P G.1 vwCl [(t, .inr (2, [.ref ka, .ref na, .ref ga, .ref sa, .ref xr, .int size2_32])), (ka, .inl (G.2.1 0, 1000, .inl kf2_32)), (na, .inl (G.2.1 1, 1000, .inl nf2_32)), (ga, .inl (G.2.1 1, 1000, .inl gf2_32)), (sa, .inl (G.2.1 1, 1000, .inl sf2_32)), (xr, .inr (1, [.ref xa, .int xsz2_32])), (xa, .inl (G.2.1 0, 1000, .inl xf2_32)), (rd, .inr (3, [.ref tr, .ref t, .int y_65])), (tr, .inr (1, [.ref ta, .int tsz])), (ta, .inl (G.2.1 0, 1000, .inl tf))] H := hP
            have hD : va_D A [(t, .inr (2, [.ref ka, .ref na, .ref ga, .ref sa, .ref xr, .int size2_32])), (ka, .inl (G.2.1 0, 1000, .inl kf2_32)), (na, .inl (G.2.1 1, 1000, .inl nf2_32)), (ga, .inl (G.2.1 1, 1000, .inl gf2_32)), (sa, .inl (G.2.1 1, 1000, .inl sf2_32)), (xr, .inr (1, [.ref xa, .int xsz2_32])), (xa, .inl (G.2.1 0, 1000, .inl xf2_32)), (rd, .inr (3, [.ref tr, .ref t, .int y_65])), (tr, .inr (1, [.ref ta, .int tsz])), (ta, .inl (G.2.1 0, 1000, .inl tf))] := hD
            refine lv_iconst (v := 1) hx hb d_Reader_dict_94 (by decide) ?_
            exact ret 1 (y_65, kf2_32, nf2_32, gf2_32, sf2_32, size2_32, xsz2_32, xf2_32) (Nat.le_of_ble_eq_true rfl) (Nat.le_of_ble_eq_true rfl) d_Reader_dict_95 rfl ⟨hj0_32, hj1_32, (by first | assumption | decide)⟩ (hP.sub [7, 8, 9, 0, 1, 2, 3, 4, 5, 6] rfl) (hD.sub [7, 8, 9, 0, 1, 2, 3, 4, 5, 6] (by decide) rfl) hS
  refine lv_iload_n hx hb d_Reader_dict_0 rfl (lv_at hl 1 rfl) ?_
  refine lv_bipush (v := 8) hx hb d_Reader_dict_1 (by decide) ?_
  refine lv_icmp_lt (tgt := 8) hx hb d_Reader_dict_3 (by decide) (fun c_66 => ?_) (fun c_66 => ?_)
  · refine lv_aload_n hx hb d_Reader_dict_8 rfl (lv_at hl 0 rfl) ?_
    refine lv_dup hx hb d_Reader_dict_9 rfl ?_
    refine va_get (D := G.1) (ci := 3) (v := .int at0) (C := R_Reader) (T := F_Reader) (N := 3) hx hb hw i_Reader hown hE.1 hP 0 rfl rfl 2 (by decide) (hw _ m_117) (fun _ h9 => h9) rfl d_Reader_dict_10 ?_
    refine lv_iconst (v := 2) hx hb d_Reader_dict_13 (by decide) ?_
    refine lv_iadd hx hb d_Reader_dict_14 ?_
    refine lv_topi (fun y_67 ey_67 => ?_)
    refine va_put (D := G.1) (ci := 3) (v := .int y_67) (ty := .int) (C := R_Reader) (T := F_Reader) (N := 3) hx hb hw i_Reader t_Reader t_Reader_ok n_Reader hown hE.1 hP hD hS 0 rfl rfl 2 (by decide) (hw _ m_117) (fun _ h9 => h9) rfl (by decide +kernel) rfl rfl (Nat.le_of_ble_eq_true rfl) d_Reader_dict_15 (fun H locs hP hD hS => ?_)
    have hP : va_P G.1 vwCl [(rd, .inr (3, [.ref tr, .ref t, .int y_67])), (tr, .inr (1, [.ref ta, .int tsz])), (ta, .inl (G.2.1 0, 1000, .inl tf)), (t, .inr (2, [.ref ka, .ref na, .ref ga, .ref sa, .ref xr, .int size])), (ka, .inl (G.2.1 0, 1000, .inl kf)), (na, .inl (G.2.1 1, 1000, .inl nf)), (ga, .inl (G.2.1 1, 1000, .inl gf)), (sa, .inl (G.2.1 1, 1000, .inl sf)), (xr, .inr (1, [.ref xa, .int xsz])), (xa, .inl (G.2.1 0, 1000, .inl xf))] H := hP
    have hD : va_D A [(rd, .inr (3, [.ref tr, .ref t, .int y_67])), (tr, .inr (1, [.ref ta, .int tsz])), (ta, .inl (G.2.1 0, 1000, .inl tf)), (t, .inr (2, [.ref ka, .ref na, .ref ga, .ref sa, .ref xr, .int size])), (ka, .inl (G.2.1 0, 1000, .inl kf)), (na, .inl (G.2.1 1, 1000, .inl nf)), (ga, .inl (G.2.1 1, 1000, .inl gf)), (sa, .inl (G.2.1 1, 1000, .inl sf)), (xr, .inr (1, [.ref xa, .int xsz])), (xa, .inl (G.2.1 0, 1000, .inl xf))] := hD
    refine lv_aload_n hx hb d_Reader_dict_18 rfl (lv_at hl 0 rfl) ?_
    refine va_get (D := G.1) (ci := 3) (v := .ref t) (C := R_Reader) (T := F_Reader) (N := 3) hx hb hw i_Reader hown hE.1 hP 0 rfl rfl 1 (by decide) (hw _ m_116) (fun _ h9 => h9) rfl d_Reader_dict_19 ?_
    refine lv_bipush (v := 7) hx hb d_Reader_dict_22 (by decide) ?_
    refine lv_iconst (v := 0) hx hb d_Reader_dict_24 (by decide) ?_
    refine lv_iconst (v := 0) hx hb d_Reader_dict_25 (by decide) ?_
    refine gc_i (wr := [(rd, .inr (3, [.ref tr, .ref t, .int y_67])), (tr, .inr (1, [.ref ta, .int tsz])), (ta, .inl (G.2.1 0, 1000, .inl tf))]) (gc_V (wc := [(t, .inr (2, [.ref ka, .ref na, .ref ga, .ref sa, .ref xr, .int size])), (ka, .inl (G.2.1 0, 1000, .inl kf)), (na, .inl (G.2.1 1, 1000, .inl nf)), (ga, .inl (G.2.1 1, 1000, .inl gf)), (sa, .inl (G.2.1 1, 1000, .inl sf)), (xr, .inr (1, [.ref xa, .int xsz])), (xa, .inl (G.2.1 0, 1000, .inl xf))]) (As := [.int 7, .int 0, .int 0]) (rest := []) ⟨hx, hb, hml, hown, hw⟩ (c_Tree_add l G t ka na ga sa xr xa kf nf gf sf size xsz xf 7 0 0 hs hxs H.size) (cwV 3 hw (good_V m_165 m_166 m_167 m_3 m_168) rfl rfl rfl hy_Tree_add ⟨Nat.le_trans (Nat.le_of_ble_eq_true rfl) (Nat.le_add_right 7 _), Nat.le_trans (Nat.le_of_ble_eq_true rfl) (Nat.le_add_right 151 _)⟩) hE hP hD hS hA (va_recv hE.1 hP (ci := 2) (q0 := 3) rfl rfl) [3, 4, 5, 6, 7, 8, 9] rfl (by decide) rfl hl rfl (Nat.le_of_ble_eq_true rfl) d_Reader_dict_26 ⟨Nat.le_of_ble_eq_true rfl, Nat.le_of_ble_eq_true rfl⟩) hP hD hS hA [3, 4, 5, 6, 7, 8, 9] [0, 1, 2] rfl rfl (by decide) (by decide) (fun r_68 u_69 H locs hw_70 hP hD hS => ?_)
    obtain ⟨kf2_71, nf2_72, gf2_73, sf2_74, size2_75⟩ := u_69
    try dsimp only at hw_70
    have h_76 := hw_70
    have hP : va_P G.1 vwCl [(rd, .inr (3, [.ref tr, .ref t, .int y_67])), (tr, .inr (1, [.ref ta, .int tsz])), (ta, .inl (G.2.1 0, 1000, .inl tf)), (t, .inr (2, [.ref ka, .ref na, .ref ga, .ref sa, .ref xr, .int size2_75])), (ka, .inl (G.2.1 0, 1000, .inl kf2_71)), (na, .inl (G.2.1 1, 1000, .inl nf2_72)), (ga, .inl (G.2.1 1, 1000, .inl gf2_73)), (sa, .inl (G.2.1 1, 1000, .inl sf2_74)), (xr, .inr (1, [.ref xa, .int xsz])), (xa, .inl (G.2.1 0, 1000, .inl xf))] H := hP
    have hD : va_D A [(rd, .inr (3, [.ref tr, .ref t, .int y_67])), (tr, .inr (1, [.ref ta, .int tsz])), (ta, .inl (G.2.1 0, 1000, .inl tf)), (t, .inr (2, [.ref ka, .ref na, .ref ga, .ref sa, .ref xr, .int size2_75])), (ka, .inl (G.2.1 0, 1000, .inl kf2_71)), (na, .inl (G.2.1 1, 1000, .inl nf2_72)), (ga, .inl (G.2.1 1, 1000, .inl gf2_73)), (sa, .inl (G.2.1 1, 1000, .inl sf2_74)), (xr, .inr (1, [.ref xa, .int xsz])), (xa, .inl (G.2.1 0, 1000, .inl xf))] := hD
    refine lv_istore_n (lv' := [(2, .int r_68), (0, .ref rd), (1, .int d)]) hx hb d_Reader_dict_29 rfl hl (by decide) rfl (fun ls hl => ?_)
    refine lv_iconst (v := 0) hx hb d_Reader_dict_30 (by decide) ?_
    refine lv_istore_n (lv' := [(3, .int 0), (2, .int r_68), (0, .ref rd), (1, .int d)]) hx hb d_Reader_dict_31 rfl hl (by decide) rfl (fun ls hl => ?_)
    exact J_32 _ 0 r_68 y_67 kf2_71 nf2_72 gf2_73 sf2_74 size2_75 xsz xf h_76 hxs (by first | assumption | trivial | (try dsimp only; omega)) (Nat.lt_succ_self _) _ _ (hP.sub [0, 1, 2, 3, 4, 5, 6, 7, 8, 9] rfl) (hD.sub [0, 1, 2, 3, 4, 5, 6, 7, 8, 9] (by decide) rfl) hS _ (lv_sub hl [0, 1, 2, 3] rfl)
  · refine lv_iconst (v := 0) hx hb d_Reader_dict_6 (by decide) ?_
    exact ret 0 (at0, kf, nf, gf, sf, size, xsz, xf) (Nat.le_of_ble_eq_true rfl) (Nat.le_of_ble_eq_true rfl) d_Reader_dict_7 rfl ⟨hs, hxs, (by first | assumption | decide)⟩ (hP.sub [0, 1, 2, 3, 4, 5, 6, 7, 8, 9] rfl) (hD.sub [0, 1, 2, 3, 4, 5, 6, 7, 8, 9] (by decide) rfl) hS
set_option maxHeartbeats 4000000 in
set_option maxRecDepth 100000 in
theorem s_object (l : Launch) (G : GG) (n : Nat) (ha : C_array l G n) (hdi : C_dict l G n) : C_object l G n := by
  intro rd at0 tr ta tsz tf t ka na ga sa xr xa kf nf gf sf size xsz xf d htp hs hxs hd
  refine MI.of (cc := b_Reader_object) (maxL := 2) (ty := .boolean) (C := R_Reader) (by decide +kernel) rfl (Nat.le_of_ble_eq_true rfl) ?_
  intro p e s m args below meth c A Q H ls hx hb hml hown hw hE hA hP hD hS ret hl
  have hl : lv_has ls 2 [(0, .ref rd), (1, .int d)] := hl
  have J_125 : ∀ (at2_125 : Int32) (kf2_125 : Nat → Int32) (nf2_125 : Nat → Int32) (gf2_125 : Nat → Int32) (sf2_125 : Nat → Int32) (size2_125 : Int32) (xsz2_125 : Int32) (xf2_125 : Nat → Int32) (hj0_125 : RowOk 1000 size2_125) (hj1_125 : RowOk 1000 xsz2_125) (H : Heap) (locs : List Loc), va_P G.1 vwCl [(rd, .inr (3, [.ref tr, .ref t, .int at2_125])), (tr, .inr (1, [.ref ta, .int tsz])), (ta, .inl (G.2.1 0, 1000, .inl tf)), (t, .inr (2, [.ref ka, .ref na, .ref ga, .ref sa, .ref xr, .int size2_125])), (ka, .inl (G.2.1 0, 1000, .inl kf2_125)), (na, .inl (G.2.1 1, 1000, .inl nf2_125)), (ga, .inl (G.2.1 1, 1000, .inl gf2_125)), (sa, .inl (G.2.1 1, 1000, .inl sf2_125)), (xr, .inr (1, [.ref xa, .int xsz2_125])), (xa, .inl (G.2.1 0, 1000, .inl xf2_125))] H → va_D A [(rd, .inr (3, [.ref tr, .ref t, .int at2_125])), (tr, .inr (1, [.ref ta, .int tsz])), (ta, .inl (G.2.1 0, 1000, .inl tf)), (t, .inr (2, [.ref ka, .ref na, .ref ga, .ref sa, .ref xr, .int size2_125])), (ka, .inl (G.2.1 0, 1000, .inl kf2_125)), (na, .inl (G.2.1 1, 1000, .inl nf2_125)), (ga, .inl (G.2.1 1, 1000, .inl gf2_125)), (sa, .inl (G.2.1 1, 1000, .inl sf2_125)), (xr, .inr (1, [.ref xa, .int xsz2_125])), (xa, .inl (G.2.1 0, 1000, .inl xf2_125))] → va_S A s.heap H locs → ∀ ls : Array Slot, lv_has ls 2 [(0, .ref rd), (1, .int d)] → W p l e (rm_Ro n) s m args below meth c H locs 0 0 Q (F0 m 125 ls []) := by
    intro at2_125 kf2_125 nf2_125 gf2_125 sf2_125 size2_125 xsz2_125 xf2_125 hj0_125 hj1_125 H locs hP hD hS ls hl
    refine lv_iconst (v := 1) hx hb d_Reader_object_125 (by decide) ?_
    refine lv_goto (tgt := 130) hx hb d_Reader_object_126 (by decide) ?_
    exact ret 1 (at2_125, kf2_125, nf2_125, gf2_125, sf2_125, size2_125, xsz2_125, xf2_125) (Nat.le_of_ble_eq_true rfl) (Nat.le_of_ble_eq_true rfl) d_Reader_object_130 rfl ⟨hj0_125, hj1_125, (by first | assumption | decide)⟩ (hP.sub [0, 1, 2, 3, 4, 5, 6, 7, 8, 9] rfl) (hD.sub [0, 1, 2, 3, 4, 5, 6, 7, 8, 9] (by decide) rfl) hS
  refine lv_aload_n hx hb d_Reader_object_0 rfl (lv_at hl 0 rfl) ?_
  refine lv_aload_n hx hb d_Reader_object_1 rfl (lv_at hl 0 rfl) ?_
  refine lv_aload_n hx hb d_Reader_object_2 rfl (lv_at hl 0 rfl) ?_
  refine va_get (D := G.1) (ci := 3) (v := .int at0) (C := R_Reader) (T := F_Reader) (N := 3) hx hb hw i_Reader hown hE.1 hP 0 rfl rfl 2 (by decide) (hw _ m_117) (fun _ h9 => h9) rfl d_Reader_object_3 ?_
  refine gc_i (wr := [(t, .inr (2, [.ref ka, .ref na, .ref ga, .ref sa, .ref xr, .int size])), (ka, .inl (G.2.1 0, 1000, .inl kf)), (na, .inl (G.2.1 1, 1000, .inl nf)), (ga, .inl (G.2.1 1, 1000, .inl gf)), (sa, .inl (G.2.1 1, 1000, .inl sf)), (xr, .inr (1, [.ref xa, .int xsz])), (xa, .inl (G.2.1 0, 1000, .inl xf))]) (gc_V (wc := [(rd, .inr (3, [.ref tr, .ref t, .int at0])), (tr, .inr (1, [.ref ta, .int tsz])), (ta, .inl (G.2.1 0, 1000, .inl tf))]) (As := [.int at0]) (rest := [.ref rd]) ⟨hx, hb, hml, hown, hw⟩ (c_Reader_afterWhite l G rd t at0 tr ta tsz tf at0 htp H.size) (cwV 1 hw (good_V m_138 m_140 ms_1 m_5 m_141) rfl rfl rfl hy_Reader_afterWhite ⟨Nat.le_trans (Nat.le_of_ble_eq_true rfl) (Nat.le_add_right 7 _), Nat.le_trans (Nat.le_of_ble_eq_true rfl) (Nat.le_add_right 151 _)⟩) hE hP hD hS hA (va_recv hE.1 hP (ci := 3) (q0 := 0) rfl rfl) [0, 1, 2] rfl (by decide) rfl hl rfl (Nat.le_of_ble_eq_true rfl) d_Reader_object_6 ⟨Nat.le_of_ble_eq_true rfl, Nat.le_of_ble_eq_true rfl⟩) hP hD hS hA [0, 1, 2] [3, 4, 5, 6, 7, 8, 9] rfl rfl (by decide) (by decide) (fun r_1 u_2 H locs hw_3 hP hD hS => ?_)
  have hP : va_P G.1 vwCl [(t, .inr (2, [.ref ka, .ref na, .ref ga, .ref sa, .ref xr, .int size])), (ka, .inl (G.2.1 0, 1000, .inl kf)), (na, .inl (G.2.1 1, 1000, .inl nf)), (ga, .inl (G.2.1 1, 1000, .inl gf)), (sa, .inl (G.2.1 1, 1000, .inl sf)), (xr, .inr (1, [.ref xa, .int xsz])), (xa, .inl (G.2.1 0, 1000, .inl xf)), (rd, .inr (3, [.ref tr, .ref t, .int at0])), (tr, .inr (1, [.ref ta, .int tsz])), (ta, .inl (G.2.1 0, 1000, .inl tf))] H := hP
  have hD : va_D A [(t, .inr (2, [.ref ka, .ref na, .ref ga, .ref sa, .ref xr, .int size])), (ka, .inl (G.2.1 0, 1000, .inl kf)), (na, .inl (G.2.1 1, 1000, .inl nf)), (ga, .inl (G.2.1 1, 1000, .inl gf)), (sa, .inl (G.2.1 1, 1000, .inl sf)), (xr, .inr (1, [.ref xa, .int xsz])), (xa, .inl (G.2.1 0, 1000, .inl xf)), (rd, .inr (3, [.ref tr, .ref t, .int at0])), (tr, .inr (1, [.ref ta, .int tsz])), (ta, .inl (G.2.1 0, 1000, .inl tf))] := hD
  refine va_put (D := G.1) (ci := 3) (v := .int r_1) (ty := .int) (C := R_Reader) (T := F_Reader) (N := 3) hx hb hw i_Reader t_Reader t_Reader_ok n_Reader hown hE.1 hP hD hS 7 rfl rfl 2 (by decide) (hw _ m_117) (fun _ h9 => h9) rfl (by decide +kernel) rfl rfl (Nat.le_of_ble_eq_true rfl) d_Reader_object_9 (fun H locs hP hD hS => ?_)
  have hP : va_P G.1 vwCl [(t, .inr (2, [.ref ka, .ref na, .ref ga, .ref sa, .ref xr, .int size])), (ka, .inl (G.2.1 0, 1000, .inl kf)), (na, .inl (G.2.1 1, 1000, .inl nf)), (ga, .inl (G.2.1 1, 1000, .inl gf)), (sa, .inl (G.2.1 1, 1000, .inl sf)), (xr, .inr (1, [.ref xa, .int xsz])), (xa, .inl (G.2.1 0, 1000, .inl xf)), (rd, .inr (3, [.ref tr, .ref t, .int r_1])), (tr, .inr (1, [.ref ta, .int tsz])), (ta, .inl (G.2.1 0, 1000, .inl tf))] H := hP
  have hD : va_D A [(t, .inr (2, [.ref ka, .ref na, .ref ga, .ref sa, .ref xr, .int size])), (ka, .inl (G.2.1 0, 1000, .inl kf)), (na, .inl (G.2.1 1, 1000, .inl nf)), (ga, .inl (G.2.1 1, 1000, .inl gf)), (sa, .inl (G.2.1 1, 1000, .inl sf)), (xr, .inr (1, [.ref xa, .int xsz])), (xa, .inl (G.2.1 0, 1000, .inl xf)), (rd, .inr (3, [.ref tr, .ref t, .int r_1])), (tr, .inr (1, [.ref ta, .int tsz])), (ta, .inl (G.2.1 0, 1000, .inl tf))] := hD
  refine lv_aload_n hx hb d_Reader_object_12 rfl (lv_at hl 0 rfl) ?_
  refine va_get (D := G.1) (ci := 3) (v := .ref tr) (C := R_Reader) (T := F_Reader) (N := 3) hx hb hw i_Reader hown hE.1 hP 7 rfl rfl 0 (by decide) (hw _ m_115) (fun _ h9 => h9) rfl d_Reader_object_13 ?_
  refine lv_aload_n hx hb d_Reader_object_16 rfl (lv_at hl 0 rfl) ?_
  refine va_get (D := G.1) (ci := 3) (v := .int r_1) (C := R_Reader) (T := F_Reader) (N := 3) hx hb hw i_Reader hown hE.1 hP 7 rfl rfl 2 (by decide) (hw _ m_117) (fun _ h9 => h9) rfl d_Reader_object_17 ?_
  refine gc_i (wr := [(t, .inr (2, [.ref ka, .ref na, .ref ga, .ref sa, .ref xr, .int size])), (ka, .inl (G.2.1 0, 1000, .inl kf)), (na, .inl (G.2.1 1, 1000, .inl nf)), (ga, .inl (G.2.1 1, 1000, .inl gf)), (sa, .inl (G.2.1 1, 1000, .inl sf)), (xr, .inr (1, [.ref xa, .int xsz])), (xa, .inl (G.2.1 0, 1000, .inl xf)), (rd, .inr (3, [.ref tr, .ref t, .int r_1]))]) (gc_V (wc := [(tr, .inr (1, [.ref ta, .int tsz])), (ta, .inl (G.2.1 0, 1000, .inl tf))]) (As := [.int r_1]) (rest := []) ⟨hx, hb, hml, hown, hw⟩ (c_Row_get l G tr ta 1000 tsz tf r_1 (by decide) htp H.size) (cwV 1 hw (good_V m_143 m_144 m_145 m_2 m_146) rfl rfl rfl hy_Row_get ⟨Nat.le_trans (Nat.le_of_ble_eq_true rfl) (Nat.le_add_right 7 _), Nat.le_trans (Nat.le_of_ble_eq_true rfl) (Nat.le_add_right 151 _)⟩) hE hP hD hS hA (va_recv hE.1 hP (ci := 1) (q0 := 8) rfl rfl) [8, 9] rfl (by decide) rfl hl rfl (Nat.le_of_ble_eq_true rfl) d_Reader_object_20 ⟨Nat.le_of_ble_eq_true rfl, Nat.le_of_ble_eq_true rfl⟩) hP hD hS hA [8, 9] [0, 1, 2, 3, 4, 5, 6, 7] rfl rfl (by decide) (by decide) (fun r_4 u_5 H locs hw_6 hP hD hS => ?_)
  have hP : va_P G.1 vwCl [(t, .inr (2, [.ref ka, .ref na, .ref ga, .ref sa, .ref xr, .int size])), (ka, .inl (G.2.1 0, 1000, .inl kf)), (na, .inl (G.2.1 1, 1000, .inl nf)), (ga, .inl (G.2.1 1, 1000, .inl gf)), (sa, .inl (G.2.1 1, 1000, .inl sf)), (xr, .inr (1, [.ref xa, .int xsz])), (xa, .inl (G.2.1 0, 1000, .inl xf)), (rd, .inr (3, [.ref tr, .ref t, .int r_1])), (tr, .inr (1, [.ref ta, .int tsz])), (ta, .inl (G.2.1 0, 1000, .inl tf))] H := hP
  have hD : va_D A [(t, .inr (2, [.ref ka, .ref na, .ref ga, .ref sa, .ref xr, .int size])), (ka, .inl (G.2.1 0, 1000, .inl kf)), (na, .inl (G.2.1 1, 1000, .inl nf)), (ga, .inl (G.2.1 1, 1000, .inl gf)), (sa, .inl (G.2.1 1, 1000, .inl sf)), (xr, .inr (1, [.ref xa, .int xsz])), (xa, .inl (G.2.1 0, 1000, .inl xf)), (rd, .inr (3, [.ref tr, .ref t, .int r_1])), (tr, .inr (1, [.ref ta, .int tsz])), (ta, .inl (G.2.1 0, 1000, .inl tf))] := hD
  by_cases w_7 : r_4 = 40
  · rw [w_7]
    refine lv_lookup (tgt := 69) (off := 46) hx hb d_Reader_object_23 (by decide) (by decide) (by decide) ?_
    refine lv_aload_n hx hb d_Reader_object_69 rfl (lv_at hl 0 rfl) ?_
    refine gc_i (wr := []) (gc_V (wc := [(rd, .inr (3, [.ref tr, .ref t, .int r_1])), (tr, .inr (1, [.ref ta, .int tsz])), (ta, .inl (G.2.1 0, 1000, .inl tf)), (t, .inr (2, [.ref ka, .ref na, .ref ga, .ref sa, .ref xr, .int size])), (ka, .inl (G.2.1 0, 1000, .inl kf)), (na, .inl (G.2.1 1, 1000, .inl nf)), (ga, .inl (G.2.1 1, 1000, .inl gf)), (sa, .inl (G.2.1 1, 1000, .inl sf)), (xr, .inr (1, [.ref xa, .int xsz])), (xa, .inl (G.2.1 0, 1000, .inl xf))]) (As := []) (rest := []) ⟨hx, hb, hml, hown, hw⟩ (c_Reader_plainString l G rd r_1 tr ta tsz tf t ka na ga sa xr xa kf nf gf sf size xsz xf htp hs hxs H.size) (cwV 0 hw (good_V m_174 m_176 ms_4 m_5 m_177) rfl rfl rfl hy_Reader_plainString ⟨Nat.le_trans (Nat.le_of_ble_eq_true rfl) (Nat.le_add_right 7 _), Nat.le_trans (Nat.le_of_ble_eq_true rfl) (Nat.le_add_right 151 _)⟩) hE hP hD hS hA (va_recv hE.1 hP (ci := 3) (q0 := 7) rfl rfl) [7, 8, 9, 0, 1, 2, 3, 4, 5, 6] rfl (by decide) rfl hl rfl (Nat.le_of_ble_eq_true rfl) d_Reader_object_70 ⟨Nat.le_of_ble_eq_true rfl, Nat.le_of_ble_eq_true rfl⟩) hP hD hS hA [7, 8, 9, 0, 1, 2, 3, 4, 5, 6] [] rfl rfl (by decide) (by decide) (fun r_8 u_9 H locs hw_10 hP hD hS => ?_)
    obtain ⟨at2_11, kf2_12, nf2_13, gf2_14, sf2_15, size2_16, xsz2_17, xf2_18⟩ := u_9
    try dsimp only at hw_10
    obtain ⟨h_19, h_20, h_21⟩ := hw_10
    have hP : va_P G.1 vwCl [(rd, .inr (3, [.ref tr, .ref t, .int at2_11])), (tr, .inr (1, [.ref ta, .int tsz])), (ta, .inl (G.2.1 0, 1000, .inl tf)), (t, .inr (2, [.ref ka, .ref na, .ref ga, .ref sa, .ref xr, .int size2_16])), (ka, .inl (G.2.1 0, 1000, .inl kf2_12)), (na, .inl (G.2.1 1, 1000, .inl nf2_13)), (ga, .inl (G.2.1 1, 1000, .inl gf2_14)), (sa, .inl (G.2.1 1, 1000, .inl sf2_15)), (xr, .inr (1, [.ref xa, .int xsz2_17])), (xa, .inl (G.2.1 0, 1000, .inl xf2_18))] H := hP
    have hD : va_D A [(rd, .inr (3, [.ref tr, .ref t, .int at2_11])), (tr, .inr (1, [.ref ta, .int tsz])), (ta, .inl (G.2.1 0, 1000, .inl tf)), (t, .inr (2, [.ref ka, .ref na, .ref ga, .ref sa, .ref xr, .int size2_16])), (ka, .inl (G.2.1 0, 1000, .inl kf2_12)), (na, .inl (G.2.1 1, 1000, .inl nf2_13)), (ga, .inl (G.2.1 1, 1000, .inl gf2_14)), (sa, .inl (G.2.1 1, 1000, .inl sf2_15)), (xr, .inr (1, [.ref xa, .int xsz2_17])), (xa, .inl (G.2.1 0, 1000, .inl xf2_18))] := hD
    exact ret r_8 (at2_11, kf2_12, nf2_13, gf2_14, sf2_15, size2_16, xsz2_17, xf2_18) (Nat.le_of_ble_eq_true rfl) (Nat.le_of_ble_eq_true rfl) d_Reader_object_73 (nb01 h_21) ⟨h_19, h_20, (by first | assumption | decide)⟩ (hP.sub [0, 1, 2, 3, 4, 5, 6, 7, 8, 9] rfl) (hD.sub [0, 1, 2, 3, 4, 5, 6, 7, 8, 9] (by decide) rfl) hS
  by_cases w_22 : r_4 = 47
  · rw [w_22]
    refine lv_lookup (tgt := 64) (off := 41) hx hb d_Reader_object_23 (by decide) (by decide) (by decide) ?_
    refine lv_aload_n hx hb d_Reader_object_64 rfl (lv_at hl 0 rfl) ?_
    refine gc_i (wr := []) (gc_V (wc := [(rd, .inr (3, [.ref tr, .ref t, .int r_1])), (tr, .inr (1, [.ref ta, .int tsz])), (ta, .inl (G.2.1 0, 1000, .inl tf)), (t, .inr (2, [.ref ka, .ref na, .ref ga, .ref sa, .ref xr, .int size])), (ka, .inl (G.2.1 0, 1000, .inl kf)), (na, .inl (G.2.1 1, 1000, .inl nf)), (ga, .inl (G.2.1 1, 1000, .inl gf)), (sa, .inl (G.2.1 1, 1000, .inl sf)), (xr, .inr (1, [.ref xa, .int xsz])), (xa, .inl (G.2.1 0, 1000, .inl xf))]) (As := []) (rest := []) ⟨hx, hb, hml, hown, hw⟩ (c_Reader_name l G rd r_1 tr ta tsz tf t ka na ga sa xr xa kf nf gf sf size xsz xf htp hs hxs H.size) (cwV 0 hw (good_V m_150 m_152 ms_2 m_5 m_153) rfl rfl rfl hy_Reader_name ⟨Nat.le_trans (Nat.le_of_ble_eq_true rfl) (Nat.le_add_right 7 _), Nat.le_trans (Nat.le_of_ble_eq_true rfl) (Nat.le_add_right 151 _)⟩) hE hP hD hS hA (va_recv hE.1 hP (ci := 3) (q0 := 7) rfl rfl) [7, 8, 9, 0, 1, 2, 3, 4, 5, 6] rfl (by decide) rfl hl rfl (Nat.le_of_ble_eq_true rfl) d_Reader_object_65 ⟨Nat.le_of_ble_eq_true rfl, Nat.le_of_ble_eq_true rfl⟩) hP hD hS hA [7, 8, 9, 0, 1, 2, 3, 4, 5, 6] [] rfl rfl (by decide) (by decide) (fun r_23 u_24 H locs hw_25 hP hD hS => ?_)
    obtain ⟨at2_26, kf2_27, nf2_28, gf2_29, sf2_30, size2_31, xsz2_32, xf2_33⟩ := u_24
    try dsimp only at hw_25
    obtain ⟨h_34, h_35, h_36⟩ := hw_25
    have hP : va_P G.1 vwCl [(rd, .inr (3, [.ref tr, .ref t, .int at2_26])), (tr, .inr (1, [.ref ta, .int tsz])), (ta, .inl (G.2.1 0, 1000, .inl tf)), (t, .inr (2, [.ref ka, .ref na, .ref ga, .ref sa, .ref xr, .int size2_31])), (ka, .inl (G.2.1 0, 1000, .inl kf2_27)), (na, .inl (G.2.1 1, 1000, .inl nf2_28)), (ga, .inl (G.2.1 1, 1000, .inl gf2_29)), (sa, .inl (G.2.1 1, 1000, .inl sf2_30)), (xr, .inr (1, [.ref xa, .int xsz2_32])), (xa, .inl (G.2.1 0, 1000, .inl xf2_33))] H := hP
    have hD : va_D A [(rd, .inr (3, [.ref tr, .ref t, .int at2_26])), (tr, .inr (1, [.ref ta, .int tsz])), (ta, .inl (G.2.1 0, 1000, .inl tf)), (t, .inr (2, [.ref ka, .ref na, .ref ga, .ref sa, .ref xr, .int size2_31])), (ka, .inl (G.2.1 0, 1000, .inl kf2_27)), (na, .inl (G.2.1 1, 1000, .inl nf2_28)), (ga, .inl (G.2.1 1, 1000, .inl gf2_29)), (sa, .inl (G.2.1 1, 1000, .inl sf2_30)), (xr, .inr (1, [.ref xa, .int xsz2_32])), (xa, .inl (G.2.1 0, 1000, .inl xf2_33))] := hD
    exact ret r_23 (at2_26, kf2_27, nf2_28, gf2_29, sf2_30, size2_31, xsz2_32, xf2_33) (Nat.le_of_ble_eq_true rfl) (Nat.le_of_ble_eq_true rfl) d_Reader_object_68 (nb01 h_36) ⟨h_34, h_35, (by first | assumption | decide)⟩ (hP.sub [0, 1, 2, 3, 4, 5, 6, 7, 8, 9] rfl) (hD.sub [0, 1, 2, 3, 4, 5, 6, 7, 8, 9] (by decide) rfl) hS
  by_cases w_37 : r_4 = 60
  · rw [w_37]
    refine lv_lookup (tgt := 74) (off := 51) hx hb d_Reader_object_23 (by decide) (by decide) (by decide) ?_
    refine lv_aload_n hx hb d_Reader_object_74 rfl (lv_at hl 0 rfl) ?_
    refine va_get (D := G.1) (ci := 3) (v := .ref tr) (C := R_Reader) (T := F_Reader) (N := 3) hx hb hw i_Reader hown hE.1 hP 7 rfl rfl 0 (by decide) (hw _ m_115) (fun _ h9 => h9) rfl d_Reader_object_75 ?_
    refine lv_aload_n hx hb d_Reader_object_78 rfl (lv_at hl 0 rfl) ?_
    refine va_get (D := G.1) (ci := 3) (v := .int r_1) (C := R_Reader) (T := F_Reader) (N := 3) hx hb hw i_Reader hown hE.1 hP 7 rfl rfl 2 (by decide) (hw _ m_117) (fun _ h9 => h9) rfl d_Reader_object_79 ?_
    refine lv_iconst (v := 1) hx hb d_Reader_object_82 (by decide) ?_
    refine lv_iadd hx hb d_Reader_object_83 ?_
    refine lv_topi (fun y_38 ey_38 => ?_)
    refine gc_i (wr := [(t, .inr (2, [.ref ka, .ref na, .ref ga, .ref sa, .ref xr, .int size])), (ka, .inl (G.2.1 0, 1000, .inl kf)), (na, .inl (G.2.1 1, 1000, .inl nf)), (ga, .inl (G.2.1 1, 1000, .inl gf)), (sa, .inl (G.2.1 1, 1000, .inl sf)), (xr, .inr (1, [.ref xa, .int xsz])), (xa, .inl (G.2.1 0, 1000, .inl xf)), (rd, .inr (3, [.ref tr, .ref t, .int r_1]))]) (gc_V (wc := [(tr, .inr (1, [.ref ta, .int tsz])), (ta, .inl (G.2.1 0, 1000, .inl tf))]) (As := [.int y_38]) (rest := []) ⟨hx, hb, hml, hown, hw⟩ (c_Row_get l G tr ta 1000 tsz tf y_38 (by decide) htp H.size) (cwV 1 hw (good_V m_143 m_144 m_145 m_2 m_146) rfl rfl rfl hy_Row_get ⟨Nat.le_trans (Nat.le_of_ble_eq_true rfl) (Nat.le_add_right 7 _), Nat.le_trans (Nat.le_of_ble_eq_true rfl) (Nat.le_add_right 151 _)⟩) hE hP hD hS hA (va_recv hE.1 hP (ci := 1) (q0 := 8) rfl rfl) [8, 9] rfl (by decide) rfl hl rfl (Nat.le_of_ble_eq_true rfl) d_Reader_object_84 ⟨Nat.le_of_ble_eq_true rfl, Nat.le_of_ble_eq_true rfl⟩) hP hD hS hA [8, 9] [0, 1, 2, 3, 4, 5, 6, 7] rfl rfl (by decide) (by decide) (fun r_39 u_40 H locs hw_41 hP hD hS => ?_)
    have hP : va_P G.1 vwCl [(t, .inr (2, [.ref ka, .ref na, .ref ga, .ref sa, .ref xr, .int size])), (ka, .inl (G.2.1 0, 1000, .inl kf)), (na, .inl (G.2.1 1, 1000, .inl nf)), (ga, .inl (G.2.1 1, 1000, .inl gf)), (sa, .inl (G.2.1 1, 1000, .inl sf)), (xr, .inr (1, [.ref xa, .int xsz])), (xa, .inl (G.2.1 0, 1000, .inl xf)), (rd, .inr (3, [.ref tr, .ref t, .int r_1])), (tr, .inr (1, [.ref ta, .int tsz])), (ta, .inl (G.2.1 0, 1000, .inl tf))] H := hP
    have hD : va_D A [(t, .inr (2, [.ref ka, .ref na, .ref ga, .ref sa, .ref xr, .int size])), (ka, .inl (G.2.1 0, 1000, .inl kf)), (na, .inl (G.2.1 1, 1000, .inl nf)), (ga, .inl (G.2.1 1, 1000, .inl gf)), (sa, .inl (G.2.1 1, 1000, .inl sf)), (xr, .inr (1, [.ref xa, .int xsz])), (xa, .inl (G.2.1 0, 1000, .inl xf)), (rd, .inr (3, [.ref tr, .ref t, .int r_1])), (tr, .inr (1, [.ref ta, .int tsz])), (ta, .inl (G.2.1 0, 1000, .inl tf))] := hD
    refine lv_bipush (v := 60) hx hb d_Reader_object_87 (by decide) ?_
    refine lv_icmp_ne (tgt := 100) hx hb d_Reader_object_89 (by decide) (fun c_42 => ?_) (fun c_42 => ?_)
    · refine lv_aload_n hx hb d_Reader_object_100 rfl (lv_at hl 0 rfl) ?_
      refine gc_i (wr := []) (gc_V (wc := [(rd, .inr (3, [.ref tr, .ref t, .int r_1])), (tr, .inr (1, [.ref ta, .int tsz])), (ta, .inl (G.2.1 0, 1000, .inl tf)), (t, .inr (2, [.ref ka, .ref na, .ref ga, .ref sa, .ref xr, .int size])), (ka, .inl (G.2.1 0, 1000, .inl kf)), (na, .inl (G.2.1 1, 1000, .inl nf)), (ga, .inl (G.2.1 1, 1000, .inl gf)), (sa, .inl (G.2.1 1, 1000, .inl sf)), (xr, .inr (1, [.ref xa, .int xsz])), (xa, .inl (G.2.1 0, 1000, .inl xf))]) (As := []) (rest := []) ⟨hx, hb, hml, hown, hw⟩ (c_Reader_hexString l G rd r_1 tr ta tsz tf t ka na ga sa xr xa kf nf gf sf size xsz xf htp hs hxs H.size) (cwV 0 hw (good_V m_223 m_225 ms_9 m_5 m_226) rfl rfl rfl hy_Reader_hexString ⟨Nat.le_trans (Nat.le_of_ble_eq_true rfl) (Nat.le_add_right 7 _), Nat.le_trans (Nat.le_of_ble_eq_true rfl) (Nat.le_add_right 151 _)⟩) hE hP hD hS hA (va_recv hE.1 hP (ci := 3) (q0 := 7) rfl rfl) [7, 8, 9, 0, 1, 2, 3, 4, 5, 6] rfl (by decide) rfl hl rfl (Nat.le_of_ble_eq_true rfl) d_Reader_object_101 ⟨Nat.le_of_ble_eq_true rfl, Nat.le_of_ble_eq_true rfl⟩) hP hD hS hA [7, 8, 9, 0, 1, 2, 3, 4, 5, 6] [] rfl rfl (by decide) (by decide) (fun r_43 u_44 H locs hw_45 hP hD hS => ?_)
      obtain ⟨at2_46, kf2_47, nf2_48, gf2_49, sf2_50, size2_51, xsz2_52, xf2_53⟩ := u_44
      try dsimp only at hw_45
      obtain ⟨h_54, h_55, h_56⟩ := hw_45
      have hP : va_P G.1 vwCl [(rd, .inr (3, [.ref tr, .ref t, .int at2_46])), (tr, .inr (1, [.ref ta, .int tsz])), (ta, .inl (G.2.1 0, 1000, .inl tf)), (t, .inr (2, [.ref ka, .ref na, .ref ga, .ref sa, .ref xr, .int size2_51])), (ka, .inl (G.2.1 0, 1000, .inl kf2_47)), (na, .inl (G.2.1 1, 1000, .inl nf2_48)), (ga, .inl (G.2.1 1, 1000, .inl gf2_49)), (sa, .inl (G.2.1 1, 1000, .inl sf2_50)), (xr, .inr (1, [.ref xa, .int xsz2_52])), (xa, .inl (G.2.1 0, 1000, .inl xf2_53))] H := hP
      have hD : va_D A [(rd, .inr (3, [.ref tr, .ref t, .int at2_46])), (tr, .inr (1, [.ref ta, .int tsz])), (ta, .inl (G.2.1 0, 1000, .inl tf)), (t, .inr (2, [.ref ka, .ref na, .ref ga, .ref sa, .ref xr, .int size2_51])), (ka, .inl (G.2.1 0, 1000, .inl kf2_47)), (na, .inl (G.2.1 1, 1000, .inl nf2_48)), (ga, .inl (G.2.1 1, 1000, .inl gf2_49)), (sa, .inl (G.2.1 1, 1000, .inl sf2_50)), (xr, .inr (1, [.ref xa, .int xsz2_52])), (xa, .inl (G.2.1 0, 1000, .inl xf2_53))] := hD
      exact ret r_43 (at2_46, kf2_47, nf2_48, gf2_49, sf2_50, size2_51, xsz2_52, xf2_53) (Nat.le_of_ble_eq_true rfl) (Nat.le_of_ble_eq_true rfl) d_Reader_object_104 (nb01 h_56) ⟨h_54, h_55, (by first | assumption | decide)⟩ (hP.sub [0, 1, 2, 3, 4, 5, 6, 7, 8, 9] rfl) (hD.sub [0, 1, 2, 3, 4, 5, 6, 7, 8, 9] (by decide) rfl) hS
    · refine lv_aload_n hx hb d_Reader_object_92 rfl (lv_at hl 0 rfl) ?_
      refine lv_iload_n hx hb d_Reader_object_93 rfl (lv_at hl 1 rfl) ?_
      refine gc_i (wr := []) (gc_V (wc := [(rd, .inr (3, [.ref tr, .ref t, .int r_1])), (tr, .inr (1, [.ref ta, .int tsz])), (ta, .inl (G.2.1 0, 1000, .inl tf)), (t, .inr (2, [.ref ka, .ref na, .ref ga, .ref sa, .ref xr, .int size])), (ka, .inl (G.2.1 0, 1000, .inl kf)), (na, .inl (G.2.1 1, 1000, .inl nf)), (ga, .inl (G.2.1 1, 1000, .inl gf)), (sa, .inl (G.2.1 1, 1000, .inl sf)), (xr, .inr (1, [.ref xa, .int xsz])), (xa, .inl (G.2.1 0, 1000, .inl xf))]) (As := [.int d]) (rest := []) ⟨hx, hb, hml, hown, hw⟩ (hdi rd r_1 tr ta tsz tf t ka na ga sa xr xa kf nf gf sf size xsz xf d htp hs hxs hd H.size) (cwV 1 hw (good_V m_187 m_189 ms_7 m_5 m_190) rfl rfl rfl hy_Reader_dict ⟨by show 7 + 2 * n + 1 ≤ 7 + (2 * n + 1); omega, by show 8 + (5 + 11) + (151 + 45 * n) ≤ 151 + (45 * n + 24); omega⟩) hE hP hD hS hA (va_recv hE.1 hP (ci := 3) (q0 := 7) rfl rfl) [7, 8, 9, 0, 1, 2, 3, 4, 5, 6] rfl (by decide) rfl hl rfl (Nat.le_of_ble_eq_true rfl) d_Reader_object_94 ⟨Nat.le_of_ble_eq_true rfl, Nat.le_of_ble_eq_true rfl⟩) hP hD hS hA [7, 8, 9, 0, 1, 2, 3, 4, 5, 6] [] rfl rfl (by decide) (by decide) (fun r_57 u_58 H locs hw_59 hP hD hS => ?_)
      obtain ⟨at2_60, kf2_61, nf2_62, gf2_63, sf2_64, size2_65, xsz2_66, xf2_67⟩ := u_58
      try dsimp only at hw_59
      obtain ⟨h_68, h_69, h_70⟩ := hw_59
      have hP : va_P G.1 vwCl [(rd, .inr (3, [.ref tr, .ref t, .int at2_60])), (tr, .inr (1, [.ref ta, .int tsz])), (ta, .inl (G.2.1 0, 1000, .inl tf)), (t, .inr (2, [.ref ka, .ref na, .ref ga, .ref sa, .ref xr, .int size2_65])), (ka, .inl (G.2.1 0, 1000, .inl kf2_61)), (na, .inl (G.2.1 1, 1000, .inl nf2_62)), (ga, .inl (G.2.1 1, 1000, .inl gf2_63)), (sa, .inl (G.2.1 1, 1000, .inl sf2_64)), (xr, .inr (1, [.ref xa, .int xsz2_66])), (xa, .inl (G.2.1 0, 1000, .inl xf2_67))] H := hP
      have hD : va_D A [(rd, .inr (3, [.ref tr, .ref t, .int at2_60])), (tr, .inr (1, [.ref ta, .int tsz])), (ta, .inl (G.2.1 0, 1000, .inl tf)), (t, .inr (2, [.ref ka, .ref na, .ref ga, .ref sa, .ref xr, .int size2_65])), (ka, .inl (G.2.1 0, 1000, .inl kf2_61)), (na, .inl (G.2.1 1, 1000, .inl nf2_62)), (ga, .inl (G.2.1 1, 1000, .inl gf2_63)), (sa, .inl (G.2.1 1, 1000, .inl sf2_64)), (xr, .inr (1, [.ref xa, .int xsz2_66])), (xa, .inl (G.2.1 0, 1000, .inl xf2_67))] := hD
      refine lv_goto (tgt := 104) hx hb d_Reader_object_97 (by decide) ?_
      exact ret r_57 (at2_60, kf2_61, nf2_62, gf2_63, sf2_64, size2_65, xsz2_66, xf2_67) (Nat.le_of_ble_eq_true rfl) (Nat.le_of_ble_eq_true rfl) d_Reader_object_104 (nb01 h_70) ⟨h_68, h_69, (by first | assumption | decide)⟩ (hP.sub [0, 1, 2, 3, 4, 5, 6, 7, 8, 9] rfl) (hD.sub [0, 1, 2, 3, 4, 5, 6, 7, 8, 9] (by decide) rfl) hS
  by_cases w_71 : r_4 = 91
  · rw [w_71]
    refine lv_lookup (tgt := 105) (off := 82) hx hb d_Reader_object_23 (by decide) (by decide) (by decide) ?_
    refine lv_aload_n hx hb d_Reader_object_105 rfl (lv_at hl 0 rfl) ?_
    refine lv_iload_n hx hb d_Reader_object_106 rfl (lv_at hl 1 rfl) ?_
    refine gc_i (wr := []) (gc_V (wc := [(rd, .inr (3, [.ref tr, .ref t, .int r_1])), (tr, .inr (1, [.ref ta, .int tsz])), (ta, .inl (G.2.1 0, 1000, .inl tf)), (t, .inr (2, [.ref ka, .ref na, .ref ga, .ref sa, .ref xr, .int size])), (ka, .inl (G.2.1 0, 1000, .inl kf)), (na, .inl (G.2.1 1, 1000, .inl nf)), (ga, .inl (G.2.1 1, 1000, .inl gf)), (sa, .inl (G.2.1 1, 1000, .inl sf)), (xr, .inr (1, [.ref xa, .int xsz])), (xa, .inl (G.2.1 0, 1000, .inl xf))]) (As := [.int d]) (rest := []) ⟨hx, hb, hml, hown, hw⟩ (ha rd r_1 tr ta tsz tf t ka na ga sa xr xa kf nf gf sf size xsz xf d htp hs hxs hd H.size) (cwV 1 hw (good_V m_231 m_233 ms_11 m_5 m_234) rfl rfl rfl hy_Reader_array ⟨by show 7 + 2 * n + 1 ≤ 7 + (2 * n + 1); omega, by show 8 + (4 + 11) + (151 + 45 * n) ≤ 151 + (45 * n + 24); omega⟩) hE hP hD hS hA (va_recv hE.1 hP (ci := 3) (q0 := 7) rfl rfl) [7, 8, 9, 0, 1, 2, 3, 4, 5, 6] rfl (by decide) rfl hl rfl (Nat.le_of_ble_eq_true rfl) d_Reader_object_107 ⟨Nat.le_of_ble_eq_true rfl, Nat.le_of_ble_eq_true rfl⟩) hP hD hS hA [7, 8, 9, 0, 1, 2, 3, 4, 5, 6] [] rfl rfl (by decide) (by decide) (fun r_72 u_73 H locs hw_74 hP hD hS => ?_)
    obtain ⟨at2_75, kf2_76, nf2_77, gf2_78, sf2_79, size2_80, xsz2_81, xf2_82⟩ := u_73
    try dsimp only at hw_74
    obtain ⟨h_83, h_84, h_85⟩ := hw_74
    have hP : va_P G.1 vwCl [(rd, .inr (3, [.ref tr, .ref t, .int at2_75])), (tr, .inr (1, [.ref ta, .int tsz])), (ta, .inl (G.2.1 0, 1000, .inl tf)), (t, .inr (2, [.ref ka, .ref na, .ref ga, .ref sa, .ref xr, .int size2_80])), (ka, .inl (G.2.1 0, 1000, .inl kf2_76)), (na, .inl (G.2.1 1, 1000, .inl nf2_77)), (ga, .inl (G.2.1 1, 1000, .inl gf2_78)), (sa, .inl (G.2.1 1, 1000, .inl sf2_79)), (xr, .inr (1, [.ref xa, .int xsz2_81])), (xa, .inl (G.2.1 0, 1000, .inl xf2_82))] H := hP
    have hD : va_D A [(rd, .inr (3, [.ref tr, .ref t, .int at2_75])), (tr, .inr (1, [.ref ta, .int tsz])), (ta, .inl (G.2.1 0, 1000, .inl tf)), (t, .inr (2, [.ref ka, .ref na, .ref ga, .ref sa, .ref xr, .int size2_80])), (ka, .inl (G.2.1 0, 1000, .inl kf2_76)), (na, .inl (G.2.1 1, 1000, .inl nf2_77)), (ga, .inl (G.2.1 1, 1000, .inl gf2_78)), (sa, .inl (G.2.1 1, 1000, .inl sf2_79)), (xr, .inr (1, [.ref xa, .int xsz2_81])), (xa, .inl (G.2.1 0, 1000, .inl xf2_82))] := hD
    exact ret r_72 (at2_75, kf2_76, nf2_77, gf2_78, sf2_79, size2_80, xsz2_81, xf2_82) (Nat.le_of_ble_eq_true rfl) (Nat.le_of_ble_eq_true rfl) d_Reader_object_110 (nb01 h_85) ⟨h_83, h_84, (by first | assumption | decide)⟩ (hP.sub [0, 1, 2, 3, 4, 5, 6, 7, 8, 9] rfl) (hD.sub [0, 1, 2, 3, 4, 5, 6, 7, 8, 9] (by decide) rfl) hS
  refine lv_lookup (tgt := 111) (off := 88) hx hb d_Reader_object_23 (by decide) (by show Op.lookupswitch.offset [(40, 46), (47, 41), (60, 51), (91, 82)] 88 _ = _; rw [lv_osw w_7 (by decide), lv_osw w_22 (by decide), lv_osw w_37 (by decide), lv_osw w_71 (by decide)]; rfl) (by decide) ?_
  refine lv_aload_n hx hb d_Reader_object_111 rfl (lv_at hl 0 rfl) ?_
  refine gc_i (wr := []) (gc_V (wc := [(rd, .inr (3, [.ref tr, .ref t, .int r_1])), (tr, .inr (1, [.ref ta, .int tsz])), (ta, .inl (G.2.1 0, 1000, .inl tf)), (t, .inr (2, [.ref ka, .ref na, .ref ga, .ref sa, .ref xr, .int size])), (ka, .inl (G.2.1 0, 1000, .inl kf)), (na, .inl (G.2.1 1, 1000, .inl nf)), (ga, .inl (G.2.1 1, 1000, .inl gf)), (sa, .inl (G.2.1 1, 1000, .inl sf)), (xr, .inr (1, [.ref xa, .int xsz])), (xa, .inl (G.2.1 0, 1000, .inl xf))]) (As := []) (rest := []) ⟨hx, hb, hml, hown, hw⟩ (c_Reader_number l G rd r_1 tr ta tsz tf t ka na ga sa xr xa kf nf gf sf size xsz xf htp hs hxs H.size) (cwV 0 hw (good_V m_235 m_237 ms_12 m_5 m_238) rfl rfl rfl hy_Reader_number ⟨Nat.le_trans (Nat.le_of_ble_eq_true rfl) (Nat.le_add_right 7 _), Nat.le_trans (Nat.le_of_ble_eq_true rfl) (Nat.le_add_right 151 _)⟩) hE hP hD hS hA (va_recv hE.1 hP (ci := 3) (q0 := 7) rfl rfl) [7, 8, 9, 0, 1, 2, 3, 4, 5, 6] rfl (by decide) rfl hl rfl (Nat.le_of_ble_eq_true rfl) d_Reader_object_112 ⟨Nat.le_of_ble_eq_true rfl, Nat.le_of_ble_eq_true rfl⟩) hP hD hS hA [7, 8, 9, 0, 1, 2, 3, 4, 5, 6] [] rfl rfl (by decide) (by decide) (fun r_86 u_87 H locs hw_88 hP hD hS => ?_)
  obtain ⟨at2_89, kf2_90, nf2_91, gf2_92, sf2_93, size2_94, xsz2_95, xf2_96⟩ := u_87
  try dsimp only at hw_88
  obtain ⟨h_97, h_98, h_99⟩ := hw_88
  have hP : va_P G.1 vwCl [(rd, .inr (3, [.ref tr, .ref t, .int at2_89])), (tr, .inr (1, [.ref ta, .int tsz])), (ta, .inl (G.2.1 0, 1000, .inl tf)), (t, .inr (2, [.ref ka, .ref na, .ref ga, .ref sa, .ref xr, .int size2_94])), (ka, .inl (G.2.1 0, 1000, .inl kf2_90)), (na, .inl (G.2.1 1, 1000, .inl nf2_91)), (ga, .inl (G.2.1 1, 1000, .inl gf2_92)), (sa, .inl (G.2.1 1, 1000, .inl sf2_93)), (xr, .inr (1, [.ref xa, .int xsz2_95])), (xa, .inl (G.2.1 0, 1000, .inl xf2_96))] H := hP
  have hD : va_D A [(rd, .inr (3, [.ref tr, .ref t, .int at2_89])), (tr, .inr (1, [.ref ta, .int tsz])), (ta, .inl (G.2.1 0, 1000, .inl tf)), (t, .inr (2, [.ref ka, .ref na, .ref ga, .ref sa, .ref xr, .int size2_94])), (ka, .inl (G.2.1 0, 1000, .inl kf2_90)), (na, .inl (G.2.1 1, 1000, .inl nf2_91)), (ga, .inl (G.2.1 1, 1000, .inl gf2_92)), (sa, .inl (G.2.1 1, 1000, .inl sf2_93)), (xr, .inr (1, [.ref xa, .int xsz2_95])), (xa, .inl (G.2.1 0, 1000, .inl xf2_96))] := hD
  refine lv_if_ne (tgt := 125) hx hb d_Reader_object_115 (by decide) (fun c_100 => ?_) (fun c_100 => ?_)
  · exact J_125 at2_89 kf2_90 nf2_91 gf2_92 sf2_93 size2_94 xsz2_95 xf2_96 h_97 h_98 _ _ (hP.sub [0, 1, 2, 3, 4, 5, 6, 7, 8, 9] rfl) (hD.sub [0, 1, 2, 3, 4, 5, 6, 7, 8, 9] (by decide) rfl) hS _ (lv_sub hl [0, 1] rfl)
  · refine lv_aload_n hx hb d_Reader_object_118 rfl (lv_at hl 0 rfl) ?_
    refine gc_i (wr := []) (gc_V (wc := [(rd, .inr (3, [.ref tr, .ref t, .int at2_89])), (tr, .inr (1, [.ref ta, .int tsz])), (ta, .inl (G.2.1 0, 1000, .inl tf)), (t, .inr (2, [.ref ka, .ref na, .ref ga, .ref sa, .ref xr, .int size2_94])), (ka, .inl (G.2.1 0, 1000, .inl kf2_90)), (na, .inl (G.2.1 1, 1000, .inl nf2_91)), (ga, .inl (G.2.1 1, 1000, .inl gf2_92)), (sa, .inl (G.2.1 1, 1000, .inl sf2_93)), (xr, .inr (1, [.ref xa, .int xsz2_95])), (xa, .inl (G.2.1 0, 1000, .inl xf2_96))]) (As := []) (rest := []) ⟨hx, hb, hml, hown, hw⟩ (c_Reader_word l G rd at2_89 tr ta tsz tf t ka na ga sa xr xa kf2_90 nf2_91 gf2_92 sf2_93 size2_94 xsz2_95 xf2_96 htp h_97 h_98 H.size) (cwV 0 hw (good_V m_252 m_254 ms_16 m_5 m_255) rfl rfl rfl hy_Reader_word ⟨Nat.le_trans (Nat.le_of_ble_eq_true rfl) (Nat.le_add_right 7 _), Nat.le_trans (Nat.le_of_ble_eq_true rfl) (Nat.le_add_right 151 _)⟩) hE hP hD hS hA (va_recv hE.1 hP (ci := 3) (q0 := 0) rfl rfl) [0, 1, 2, 3, 4, 5, 6, 7, 8, 9] rfl (by decide) rfl hl rfl (Nat.le_of_ble_eq_true rfl) d_Reader_object_119 ⟨Nat.le_of_ble_eq_true rfl, Nat.le_of_ble_eq_true rfl⟩) hP hD hS hA [0, 1, 2, 3, 4, 5, 6, 7, 8, 9] [] rfl rfl (by decide) (by decide) (fun r_101 u_102 H locs hw_103 hP hD hS => ?_)
    obtain ⟨at2_104, kf2_105, nf2_106, gf2_107, sf2_108, size2_109, xsz2_110, xf2_111⟩ := u_102
    try dsimp only at hw_103
    obtain ⟨h_112, h_113, h_114⟩ := hw_103
    have hP : va_P G.1 vwCl [(rd, .inr (3, [.ref tr, .ref t, .int at2_104])), (tr, .inr (1, [.ref ta, .int tsz])), (ta, .inl (G.2.1 0, 1000, .inl tf)), (t, .inr (2, [.ref ka, .ref na, .ref ga, .ref sa, .ref xr, .int size2_109])), (ka, .inl (G.2.1 0, 1000, .inl kf2_105)), (na, .inl (G.2.1 1, 1000, .inl nf2_106)), (ga, .inl (G.2.1 1, 1000, .inl gf2_107)), (sa, .inl (G.2.1 1, 1000, .inl sf2_108)), (xr, .inr (1, [.ref xa, .int xsz2_110])), (xa, .inl (G.2.1 0, 1000, .inl xf2_111))] H := hP
    have hD : va_D A [(rd, .inr (3, [.ref tr, .ref t, .int at2_104])), (tr, .inr (1, [.ref ta, .int tsz])), (ta, .inl (G.2.1 0, 1000, .inl tf)), (t, .inr (2, [.ref ka, .ref na, .ref ga, .ref sa, .ref xr, .int size2_109])), (ka, .inl (G.2.1 0, 1000, .inl kf2_105)), (na, .inl (G.2.1 1, 1000, .inl nf2_106)), (ga, .inl (G.2.1 1, 1000, .inl gf2_107)), (sa, .inl (G.2.1 1, 1000, .inl sf2_108)), (xr, .inr (1, [.ref xa, .int xsz2_110])), (xa, .inl (G.2.1 0, 1000, .inl xf2_111))] := hD
    refine lv_if_eq (tgt := 129) hx hb d_Reader_object_122 (by decide) (fun c_115 => ?_) (fun c_115 => ?_)
    · refine lv_iconst (v := 0) hx hb d_Reader_object_129 (by decide) ?_
      exact ret 0 (at2_104, kf2_105, nf2_106, gf2_107, sf2_108, size2_109, xsz2_110, xf2_111) (Nat.le_of_ble_eq_true rfl) (Nat.le_of_ble_eq_true rfl) d_Reader_object_130 rfl ⟨h_112, h_113, (by first | assumption | decide)⟩ (hP.sub [0, 1, 2, 3, 4, 5, 6, 7, 8, 9] rfl) (hD.sub [0, 1, 2, 3, 4, 5, 6, 7, 8, 9] (by decide) rfl) hS
    · exact J_125 at2_104 kf2_105 nf2_106 gf2_107 sf2_108 size2_109 xsz2_110 xf2_111 h_112 h_113 _ _ (hP.sub [0, 1, 2, 3, 4, 5, 6, 7, 8, 9] rfl) (hD.sub [0, 1, 2, 3, 4, 5, 6, 7, 8, 9] (by decide) rfl) hS _ (lv_sub hl [0, 1] rfl)
theorem rec_object (l : Launch) (G : GG) : ∀ n, C_object l G n := by
  intro n
  induction n with
  | zero => exact s_object l G 0 (s_array l G 0 (fun k h => by omega)) (s_dict l G 0 (fun k h => by omega))
  | succ n ih =>
    have ho : ∀ k, n + 1 = k + 1 → C_object l G k := fun k h => by
      have e : k = n := by omega
      rw [e]; exact ih
    exact s_object l G (n + 1) (s_array l G (n + 1) ho) (s_dict l G (n + 1) ho)
def rm_Reader_readsAll : Room := { frames := 25, cells := 0, slots := 0, locals := 556 }
set_option maxHeartbeats 4000000 in
set_option maxRecDepth 100000 in
theorem c_Reader_readsAll (l : Launch) (G : GG) (rd : Nat) (at0 : Int32) (tr : Nat) (ta : Nat) (tsz : Int32) (tf : Nat → Int32) (t : Nat) (ka : Nat) (na : Nat) (ga : Nat) (sa : Nat) (xr : Nat) (xa : Nat) (kf : Nat → Int32) (nf : Nat → Int32) (gf : Nat → Int32) (sf : Nat → Int32) (size : Int32) (xsz : Int32) (xf : Nat → Int32) (htp : RowOk 1000 tsz) (hs : RowOk 1000 size) (hxs : RowOk 1000 xsz) : MI l y_Reader_readsAll b_Reader_readsAll 1 .boolean rm_Reader_readsAll G [.ref rd] [(rd, .inr (3, [.ref tr, .ref t, .int at0])), (tr, .inr (1, [.ref ta, .int tsz])), (ta, .inl (G.2.1 0, 1000, .inl tf)), (t, .inr (2, [.ref ka, .ref na, .ref ga, .ref sa, .ref xr, .int size])), (ka, .inl (G.2.1 0, 1000, .inl kf)), (na, .inl (G.2.1 1, 1000, .inl nf)), (ga, .inl (G.2.1 1, 1000, .inl gf)), (sa, .inl (G.2.1 1, 1000, .inl sf)), (xr, .inr (1, [.ref xa, .int xsz])), (xa, .inl (G.2.1 0, 1000, .inl xf))] (fun (v : Int32) (u : Int32 × (Nat → Int32) × (Nat → Int32) × (Nat → Int32) × (Nat → Int32) × Int32 × Int32 × (Nat → Int32)) => (RowOk 1000 u.2.2.2.2.2.1) ∧ (RowOk 1000 u.2.2.2.2.2.2.1) ∧ (v = 0 ∨ v = 1)) (fun (u : Int32 × (Nat → Int32) × (Nat → Int32) × (Nat → Int32) × (Nat → Int32) × Int32 × Int32 × (Nat → Int32)) => [(rd, .inr (3, [.ref tr, .ref t, .int u.1])), (tr, .inr (1, [.ref ta, .int tsz])), (ta, .inl (G.2.1 0, 1000, .inl tf)), (t, .inr (2, [.ref ka, .ref na, .ref ga, .ref sa, .ref xr, .int u.2.2.2.2.2.1])), (ka, .inl (G.2.1 0, 1000, .inl u.2.1)), (na, .inl (G.2.1 1, 1000, .inl u.2.2.1)), (ga, .inl (G.2.1 1, 1000, .inl u.2.2.2.1)), (sa, .inl (G.2.1 1, 1000, .inl u.2.2.2.2.1)), (xr, .inr (1, [.ref xa, .int u.2.2.2.2.2.2.1])), (xa, .inl (G.2.1 0, 1000, .inl u.2.2.2.2.2.2.2))]) 0 0 := by
  refine MI.of (cc := b_Reader_readsAll) (maxL := 1) (ty := .boolean) (C := R_Reader) (by decide +kernel) rfl (Nat.le_of_ble_eq_true rfl) ?_
  intro p e s m args below meth c A Q H ls hx hb hml hown hw hE hA hP hD hS ret hl
  have hl : lv_has ls 1 [(0, .ref rd)] := hl
  refine lv_aload_n hx hb d_Reader_readsAll_0 rfl (lv_at hl 0 rfl) ?_
  refine va_get (D := G.1) (ci := 3) (v := .ref t) (C := R_Reader) (T := F_Reader) (N := 3) hx hb hw i_Reader hown hE.1 hP 0 rfl rfl 1 (by decide) (hw _ m_116) (fun _ h9 => h9) rfl d_Reader_readsAll_1 ?_
  refine gc_v (wr := [(rd, .inr (3, [.ref tr, .ref t, .int at0])), (tr, .inr (1, [.ref ta, .int tsz])), (ta, .inl (G.2.1 0, 1000, .inl tf))]) (gc_V (wc := [(t, .inr (2, [.ref ka, .ref na, .ref ga, .ref sa, .ref xr, .int size])), (ka, .inl (G.2.1 0, 1000, .inl kf)), (na, .inl (G.2.1 1, 1000, .inl nf)), (ga, .inl (G.2.1 1, 1000, .inl gf)), (sa, .inl (G.2.1 1, 1000, .inl sf)), (xr, .inr (1, [.ref xa, .int xsz])), (xa, .inl (G.2.1 0, 1000, .inl xf))]) (As := []) (rest := []) ⟨hx, hb, hml, hown, hw⟩ (c_Tree_clear l G t ka na ga sa xr xa kf nf gf sf size xsz xf hs hxs H.size) (cwV 0 hw (good_V m_129 m_130 m_131 m_3 m_132) rfl rfl rfl hy_Tree_clear ⟨Nat.le_of_ble_eq_true rfl, Nat.le_of_ble_eq_true rfl⟩) hE hP hD hS hA (va_recv hE.1 hP (ci := 2) (q0 := 3) rfl rfl) [3, 4, 5, 6, 7, 8, 9] rfl (by decide) rfl hl rfl (Nat.le_of_ble_eq_true rfl) d_Reader_readsAll_4 ⟨Nat.le_of_ble_eq_true rfl, Nat.le_of_ble_eq_true rfl⟩) hP hD hS hA [3, 4, 5, 6, 7, 8, 9] [0, 1, 2] rfl rfl (by decide) (by decide) (fun u_2 H locs hw_3 hP hD hS => ?_)
  obtain ⟨xsz2_4, rfl⟩ : ∃ z, z = u_2 := ⟨_, rfl⟩
  try dsimp only at hw_3
  have h_5 := hw_3
  have hP : va_P G.1 vwCl [(rd, .inr (3, [.ref tr, .ref t, .int at0])), (tr, .inr (1, [.ref ta, .int tsz])), (ta, .inl (G.2.1 0, 1000, .inl tf)), (t, .inr (2, [.ref ka, .ref na, .ref ga, .ref sa, .ref xr, .int 0])), (ka, .inl (G.2.1 0, 1000, .inl kf)), (na, .inl (G.2.1 1, 1000, .inl nf)), (ga, .inl (G.2.1 1, 1000, .inl gf)), (sa, .inl (G.2.1 1, 1000, .inl sf)), (xr, .inr (1, [.ref xa, .int xsz2_4])), (xa, .inl (G.2.1 0, 1000, .inl xf))] H := hP
  have hD : va_D A [(rd, .inr (3, [.ref tr, .ref t, .int at0])), (tr, .inr (1, [.ref ta, .int tsz])), (ta, .inl (G.2.1 0, 1000, .inl tf)), (t, .inr (2, [.ref ka, .ref na, .ref ga, .ref sa, .ref xr, .int 0])), (ka, .inl (G.2.1 0, 1000, .inl kf)), (na, .inl (G.2.1 1, 1000, .inl nf)), (ga, .inl (G.2.1 1, 1000, .inl gf)), (sa, .inl (G.2.1 1, 1000, .inl sf)), (xr, .inr (1, [.ref xa, .int xsz2_4])), (xa, .inl (G.2.1 0, 1000, .inl xf))] := hD
  refine lv_aload_n hx hb d_Reader_readsAll_7 rfl (lv_at hl 0 rfl) ?_
  refine lv_iconst (v := 0) hx hb d_Reader_readsAll_8 (by decide) ?_
  refine gc_i (wr := []) (gc_V (wc := [(rd, .inr (3, [.ref tr, .ref t, .int at0])), (tr, .inr (1, [.ref ta, .int tsz])), (ta, .inl (G.2.1 0, 1000, .inl tf)), (t, .inr (2, [.ref ka, .ref na, .ref ga, .ref sa, .ref xr, .int 0])), (ka, .inl (G.2.1 0, 1000, .inl kf)), (na, .inl (G.2.1 1, 1000, .inl nf)), (ga, .inl (G.2.1 1, 1000, .inl gf)), (sa, .inl (G.2.1 1, 1000, .inl sf)), (xr, .inr (1, [.ref xa, .int xsz2_4])), (xa, .inl (G.2.1 0, 1000, .inl xf))]) (As := [.int 0]) (rest := []) ⟨hx, hb, hml, hown, hw⟩ ((rec_object l G 8) rd at0 tr ta tsz tf t ka na ga sa xr xa kf nf gf sf 0 xsz2_4 xf 0 htp (by first | assumption | trivial | (try dsimp only; omega)) h_5 (by decide) H.size) (cwV 1 hw (good_V m_134 m_136 ms_0 m_5 m_137) rfl rfl rfl hy_Reader_object ⟨Nat.le_of_ble_eq_true rfl, Nat.le_of_ble_eq_true rfl⟩) hE hP hD hS hA (va_recv hE.1 hP (ci := 3) (q0 := 0) rfl rfl) [0, 1, 2, 3, 4, 5, 6, 7, 8, 9] rfl (by decide) rfl hl rfl (Nat.le_of_ble_eq_true rfl) d_Reader_readsAll_9 ⟨Nat.le_of_ble_eq_true rfl, Nat.le_of_ble_eq_true rfl⟩) hP hD hS hA [0, 1, 2, 3, 4, 5, 6, 7, 8, 9] [] rfl rfl (by decide) (by decide) (fun r_6 u_7 H locs hw_8 hP hD hS => ?_)
  obtain ⟨at2_9, kf2_10, nf2_11, gf2_12, sf2_13, size2_14, xsz2_15, xf2_16⟩ := u_7
  try dsimp only at hw_8
  obtain ⟨h_17, h_18, h_19⟩ := hw_8
  have hP : va_P G.1 vwCl [(rd, .inr (3, [.ref tr, .ref t, .int at2_9])), (tr, .inr (1, [.ref ta, .int tsz])), (ta, .inl (G.2.1 0, 1000, .inl tf)), (t, .inr (2, [.ref ka, .ref na, .ref ga, .ref sa, .ref xr, .int size2_14])), (ka, .inl (G.2.1 0, 1000, .inl kf2_10)), (na, .inl (G.2.1 1, 1000, .inl nf2_11)), (ga, .inl (G.2.1 1, 1000, .inl gf2_12)), (sa, .inl (G.2.1 1, 1000, .inl sf2_13)), (xr, .inr (1, [.ref xa, .int xsz2_15])), (xa, .inl (G.2.1 0, 1000, .inl xf2_16))] H := hP
  have hD : va_D A [(rd, .inr (3, [.ref tr, .ref t, .int at2_9])), (tr, .inr (1, [.ref ta, .int tsz])), (ta, .inl (G.2.1 0, 1000, .inl tf)), (t, .inr (2, [.ref ka, .ref na, .ref ga, .ref sa, .ref xr, .int size2_14])), (ka, .inl (G.2.1 0, 1000, .inl kf2_10)), (na, .inl (G.2.1 1, 1000, .inl nf2_11)), (ga, .inl (G.2.1 1, 1000, .inl gf2_12)), (sa, .inl (G.2.1 1, 1000, .inl sf2_13)), (xr, .inr (1, [.ref xa, .int xsz2_15])), (xa, .inl (G.2.1 0, 1000, .inl xf2_16))] := hD
  refine lv_if_ne (tgt := 17) hx hb d_Reader_readsAll_12 (by decide) (fun c_20 => ?_) (fun c_20 => ?_)
  · refine lv_aload_n hx hb d_Reader_readsAll_17 rfl (lv_at hl 0 rfl) ?_
    refine lv_aload_n hx hb d_Reader_readsAll_18 rfl (lv_at hl 0 rfl) ?_
    refine lv_aload_n hx hb d_Reader_readsAll_19 rfl (lv_at hl 0 rfl) ?_
    refine va_get (D := G.1) (ci := 3) (v := .int at2_9) (C := R_Reader) (T := F_Reader) (N := 3) hx hb hw i_Reader hown hE.1 hP 0 rfl rfl 2 (by decide) (hw _ m_117) (fun _ h9 => h9) rfl d_Reader_readsAll_20 ?_
    refine gc_i (wr := [(t, .inr (2, [.ref ka, .ref na, .ref ga, .ref sa, .ref xr, .int size2_14])), (ka, .inl (G.2.1 0, 1000, .inl kf2_10)), (na, .inl (G.2.1 1, 1000, .inl nf2_11)), (ga, .inl (G.2.1 1, 1000, .inl gf2_12)), (sa, .inl (G.2.1 1, 1000, .inl sf2_13)), (xr, .inr (1, [.ref xa, .int xsz2_15])), (xa, .inl (G.2.1 0, 1000, .inl xf2_16))]) (gc_V (wc := [(rd, .inr (3, [.ref tr, .ref t, .int at2_9])), (tr, .inr (1, [.ref ta, .int tsz])), (ta, .inl (G.2.1 0, 1000, .inl tf))]) (As := [.int at2_9]) (rest := [.ref rd]) ⟨hx, hb, hml, hown, hw⟩ (c_Reader_afterWhite l G rd t at2_9 tr ta tsz tf at2_9 htp H.size) (cwV 1 hw (good_V m_138 m_140 ms_1 m_5 m_141) rfl rfl rfl hy_Reader_afterWhite ⟨Nat.le_of_ble_eq_true rfl, Nat.le_of_ble_eq_true rfl⟩) hE hP hD hS hA (va_recv hE.1 hP (ci := 3) (q0 := 0) rfl rfl) [0, 1, 2] rfl (by decide) rfl hl rfl (Nat.le_of_ble_eq_true rfl) d_Reader_readsAll_23 ⟨Nat.le_of_ble_eq_true rfl, Nat.le_of_ble_eq_true rfl⟩) hP hD hS hA [0, 1, 2] [3, 4, 5, 6, 7, 8, 9] rfl rfl (by decide) (by decide) (fun r_21 u_22 H locs hw_23 hP hD hS => ?_)
    have hP : va_P G.1 vwCl [(t, .inr (2, [.ref ka, .ref na, .ref ga, .ref sa, .ref xr, .int size2_14])), (ka, .inl (G.2.1 0, 1000, .inl kf2_10)), (na, .inl (G.2.1 1, 1000, .inl nf2_11)), (ga, .inl (G.2.1 1, 1000, .inl gf2_12)), (sa, .inl (G.2.1 1, 1000, .inl sf2_13)), (xr, .inr (1, [.ref xa, .int xsz2_15])), (xa, .inl (G.2.1 0, 1000, .inl xf2_16)), (rd, .inr (3, [.ref tr, .ref t, .int at2_9])), (tr, .inr (1, [.ref ta, .int tsz])), (ta, .inl (G.2.1 0, 1000, .inl tf))] H := hP
    have hD : va_D A [(t, .inr (2, [.ref ka, .ref na, .ref ga, .ref sa, .ref xr, .int size2_14])), (ka, .inl (G.2.1 0, 1000, .inl kf2_10)), (na, .inl (G.2.1 1, 1000, .inl nf2_11)), (ga, .inl (G.2.1 1, 1000, .inl gf2_12)), (sa, .inl (G.2.1 1, 1000, .inl sf2_13)), (xr, .inr (1, [.ref xa, .int xsz2_15])), (xa, .inl (G.2.1 0, 1000, .inl xf2_16)), (rd, .inr (3, [.ref tr, .ref t, .int at2_9])), (tr, .inr (1, [.ref ta, .int tsz])), (ta, .inl (G.2.1 0, 1000, .inl tf))] := hD
    refine va_put (D := G.1) (ci := 3) (v := .int r_21) (ty := .int) (C := R_Reader) (T := F_Reader) (N := 3) hx hb hw i_Reader t_Reader t_Reader_ok n_Reader hown hE.1 hP hD hS 7 rfl rfl 2 (by decide) (hw _ m_117) (fun _ h9 => h9) rfl (by decide +kernel) rfl rfl (Nat.le_of_ble_eq_true rfl) d_Reader_readsAll_26 (fun H locs hP hD hS => ?_)
    have hP : va_P G.1 vwCl [(t, .inr (2, [.ref ka, .ref na, .ref ga, .ref sa, .ref xr, .int size2_14])), (ka, .inl (G.2.1 0, 1000, .inl kf2_10)), (na, .inl (G.2.1 1, 1000, .inl nf2_11)), (ga, .inl (G.2.1 1, 1000, .inl gf2_12)), (sa, .inl (G.2.1 1, 1000, .inl sf2_13)), (xr, .inr (1, [.ref xa, .int xsz2_15])), (xa, .inl (G.2.1 0, 1000, .inl xf2_16)), (rd, .inr (3, [.ref tr, .ref t, .int r_21])), (tr, .inr (1, [.ref ta, .int tsz])), (ta, .inl (G.2.1 0, 1000, .inl tf))] H := hP
    have hD : va_D A [(t, .inr (2, [.ref ka, .ref na, .ref ga, .ref sa, .ref xr, .int size2_14])), (ka, .inl (G.2.1 0, 1000, .inl kf2_10)), (na, .inl (G.2.1 1, 1000, .inl nf2_11)), (ga, .inl (G.2.1 1, 1000, .inl gf2_12)), (sa, .inl (G.2.1 1, 1000, .inl sf2_13)), (xr, .inr (1, [.ref xa, .int xsz2_15])), (xa, .inl (G.2.1 0, 1000, .inl xf2_16)), (rd, .inr (3, [.ref tr, .ref t, .int r_21])), (tr, .inr (1, [.ref ta, .int tsz])), (ta, .inl (G.2.1 0, 1000, .inl tf))] := hD
    refine lv_aload_n hx hb d_Reader_readsAll_29 rfl (lv_at hl 0 rfl) ?_
    refine va_get (D := G.1) (ci := 3) (v := .int r_21) (C := R_Reader) (T := F_Reader) (N := 3) hx hb hw i_Reader hown hE.1 hP 7 rfl rfl 2 (by decide) (hw _ m_117) (fun _ h9 => h9) rfl d_Reader_readsAll_30 ?_
    refine lv_aload_n hx hb d_Reader_readsAll_33 rfl (lv_at hl 0 rfl) ?_
    refine va_get (D := G.1) (ci := 3) (v := .ref tr) (C := R_Reader) (T := F_Reader) (N := 3) hx hb hw i_Reader hown hE.1 hP 7 rfl rfl 0 (by decide) (hw _ m_115) (fun _ h9 => h9) rfl d_Reader_readsAll_34 ?_
    refine gc_i (wr := [(t, .inr (2, [.ref ka, .ref na, .ref ga, .ref sa, .ref xr, .int size2_14])), (ka, .inl (G.2.1 0, 1000, .inl kf2_10)), (na, .inl (G.2.1 1, 1000, .inl nf2_11)), (ga, .inl (G.2.1 1, 1000, .inl gf2_12)), (sa, .inl (G.2.1 1, 1000, .inl sf2_13)), (xr, .inr (1, [.ref xa, .int xsz2_15])), (xa, .inl (G.2.1 0, 1000, .inl xf2_16)), (rd, .inr (3, [.ref tr, .ref t, .int r_21]))]) (gc_V (wc := [(tr, .inr (1, [.ref ta, .int tsz])), (ta, .inl (G.2.1 0, 1000, .inl tf))]) (As := []) (rest := [.int r_21]) ⟨hx, hb, hml, hown, hw⟩ (c_Row_size l G tr ta 1000 tsz tf (by decide) htp H.size) (cwV 0 hw (good_V m_142 m_86 m_87 m_2 m_88) rfl rfl rfl hy_Row_size ⟨Nat.le_of_ble_eq_true rfl, Nat.le_of_ble_eq_true rfl⟩) hE hP hD hS hA (va_recv hE.1 hP (ci := 1) (q0 := 8) rfl rfl) [8, 9] rfl (by decide) rfl hl rfl (Nat.le_of_ble_eq_true rfl) d_Reader_readsAll_37 ⟨Nat.le_of_ble_eq_true rfl, Nat.le_of_ble_eq_true rfl⟩) hP hD hS hA [8, 9] [0, 1, 2, 3, 4, 5, 6, 7] rfl rfl (by decide) (by decide) (fun r_24 u_25 H locs hw_26 hP hD hS => ?_)
    try dsimp only at hw_26
    have h_27 := hw_26
    subst h_27
    have hP : va_P G.1 vwCl [(t, .inr (2, [.ref ka, .ref na, .ref ga, .ref sa, .ref xr, .int size2_14])), (ka, .inl (G.2.1 0, 1000, .inl kf2_10)), (na, .inl (G.2.1 1, 1000, .inl nf2_11)), (ga, .inl (G.2.1 1, 1000, .inl gf2_12)), (sa, .inl (G.2.1 1, 1000, .inl sf2_13)), (xr, .inr (1, [.ref xa, .int xsz2_15])), (xa, .inl (G.2.1 0, 1000, .inl xf2_16)), (rd, .inr (3, [.ref tr, .ref t, .int r_21])), (tr, .inr (1, [.ref ta, .int tsz])), (ta, .inl (G.2.1 0, 1000, .inl tf))] H := hP
    have hD : va_D A [(t, .inr (2, [.ref ka, .ref na, .ref ga, .ref sa, .ref xr, .int size2_14])), (ka, .inl (G.2.1 0, 1000, .inl kf2_10)), (na, .inl (G.2.1 1, 1000, .inl nf2_11)), (ga, .inl (G.2.1 1, 1000, .inl gf2_12)), (sa, .inl (G.2.1 1, 1000, .inl sf2_13)), (xr, .inr (1, [.ref xa, .int xsz2_15])), (xa, .inl (G.2.1 0, 1000, .inl xf2_16)), (rd, .inr (3, [.ref tr, .ref t, .int r_21])), (tr, .inr (1, [.ref ta, .int tsz])), (ta, .inl (G.2.1 0, 1000, .inl tf))] := hD
    refine lv_icmp_ne (tgt := 47) hx hb d_Reader_readsAll_40 (by decide) (fun c_28 => ?_) (fun c_28 => ?_)
    · refine lv_iconst (v := 0) hx hb d_Reader_readsAll_47 (by decide) ?_
      exact ret 0 (r_21, kf2_10, nf2_11, gf2_12, sf2_13, size2_14, xsz2_15, xf2_16) (Nat.le_of_ble_eq_true rfl) (Nat.le_of_ble_eq_true rfl) d_Reader_readsAll_48 rfl ⟨h_17, h_18, (by first | assumption | decide)⟩ (hP.sub [7, 8, 9, 0, 1, 2, 3, 4, 5, 6] rfl) (hD.sub [7, 8, 9, 0, 1, 2, 3, 4, 5, 6] (by decide) rfl) hS
    · refine lv_iconst (v := 1) hx hb d_Reader_readsAll_43 (by decide) ?_
      refine lv_goto (tgt := 48) hx hb d_Reader_readsAll_44 (by decide) ?_
      exact ret 1 (r_21, kf2_10, nf2_11, gf2_12, sf2_13, size2_14, xsz2_15, xf2_16) (Nat.le_of_ble_eq_true rfl) (Nat.le_of_ble_eq_true rfl) d_Reader_readsAll_48 rfl ⟨h_17, h_18, (by first | assumption | decide)⟩ (hP.sub [7, 8, 9, 0, 1, 2, 3, 4, 5, 6] rfl) (hD.sub [7, 8, 9, 0, 1, 2, 3, 4, 5, 6] (by decide) rfl) hS
  · refine lv_iconst (v := 0) hx hb d_Reader_readsAll_15 (by decide) ?_
    exact ret 0 (at2_9, kf2_10, nf2_11, gf2_12, sf2_13, size2_14, xsz2_15, xf2_16) (Nat.le_of_ble_eq_true rfl) (Nat.le_of_ble_eq_true rfl) d_Reader_readsAll_16 rfl ⟨h_17, h_18, (by first | assumption | decide)⟩ (hP.sub [0, 1, 2, 3, 4, 5, 6, 7, 8, 9] rfl) (hD.sub [0, 1, 2, 3, 4, 5, 6, 7, 8, 9] (by decide) rfl) hS
end
