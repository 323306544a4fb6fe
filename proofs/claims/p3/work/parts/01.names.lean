-- ===== PART A: goes FIRST, ahead of the names: the tables' words, and 'selects' of the private methods out of them =====
/-- a private method of a class that the tables say can be made, by its rows of tables_1 -/
def lw_okq (q : MethodName × Nat) : Prop := (q.1.cls ≠ "java/lang/invoke/MethodHandle" ∧ q.1.cls ≠ "java/lang/invoke/VarHandle") ∧ Cond.instantiable q.1.cls q.2 ∈ tables_1 ∧ Cond.privateMethod q.1 ∈ tables_1 ∧ Cond.instanceMethod q.1 ∈ tables_1
theorem lw_p0 : lw_okq (⟨"ValueTexts$Reader", "object", "(I)Z"⟩, 3) := ⟨⟨by decide +kernel, by decide +kernel⟩, List.mem_of_getElem? (i := 110) (by decide +kernel), List.mem_of_getElem? (i := 135) (by decide +kernel), List.mem_of_getElem? (i := 136) (by decide +kernel)⟩
theorem lw_p1 : lw_okq (⟨"ValueTexts$Reader", "afterWhite", "(I)I"⟩, 3) := ⟨⟨by decide +kernel, by decide +kernel⟩, List.mem_of_getElem? (i := 110) (by decide +kernel), List.mem_of_getElem? (i := 139) (by decide +kernel), List.mem_of_getElem? (i := 140) (by decide +kernel)⟩
theorem lw_p2 : lw_okq (⟨"ValueTexts$Reader", "name", "()Z"⟩, 3) := ⟨⟨by decide +kernel, by decide +kernel⟩, List.mem_of_getElem? (i := 110) (by decide +kernel), List.mem_of_getElem? (i := 151) (by decide +kernel), List.mem_of_getElem? (i := 152) (by decide +kernel)⟩
theorem lw_p3 : lw_okq (⟨"ValueTexts$Reader", "wordLength", "(I)I"⟩, 3) := ⟨⟨by decide +kernel, by decide +kernel⟩, List.mem_of_getElem? (i := 110) (by decide +kernel), List.mem_of_getElem? (i := 155) (by decide +kernel), List.mem_of_getElem? (i := 156) (by decide +kernel)⟩
theorem lw_p4 : lw_okq (⟨"ValueTexts$Reader", "plainString", "()Z"⟩, 3) := ⟨⟨by decide +kernel, by decide +kernel⟩, List.mem_of_getElem? (i := 110) (by decide +kernel), List.mem_of_getElem? (i := 175) (by decide +kernel), List.mem_of_getElem? (i := 176) (by decide +kernel)⟩
theorem lw_p5 : lw_okq (⟨"ValueTexts$Reader", "escaped", "()I"⟩, 3) := ⟨⟨by decide +kernel, by decide +kernel⟩, List.mem_of_getElem? (i := 110) (by decide +kernel), List.mem_of_getElem? (i := 179) (by decide +kernel), List.mem_of_getElem? (i := 180) (by decide +kernel)⟩
theorem lw_p6 : lw_okq (⟨"ValueTexts$Reader", "octalDigit", "(I)I"⟩, 3) := ⟨⟨by decide +kernel, by decide +kernel⟩, List.mem_of_getElem? (i := 110) (by decide +kernel), List.mem_of_getElem? (i := 183) (by decide +kernel), List.mem_of_getElem? (i := 184) (by decide +kernel)⟩
theorem lw_p7 : lw_okq (⟨"ValueTexts$Reader", "dict", "(I)Z"⟩, 3) := ⟨⟨by decide +kernel, by decide +kernel⟩, List.mem_of_getElem? (i := 110) (by decide +kernel), List.mem_of_getElem? (i := 188) (by decide +kernel), List.mem_of_getElem? (i := 189) (by decide +kernel)⟩
theorem lw_p8 : lw_okq (⟨"ValueTexts$Tree", "holds", "(I)Z"⟩, 6) := ⟨⟨by decide +kernel, by decide +kernel⟩, List.mem_of_getElem? (i := 38) (by decide +kernel), List.mem_of_getElem? (i := 200) (by decide +kernel), List.mem_of_getElem? (i := 201) (by decide +kernel)⟩
theorem lw_p9 : lw_okq (⟨"ValueTexts$Reader", "hexString", "()Z"⟩, 3) := ⟨⟨by decide +kernel, by decide +kernel⟩, List.mem_of_getElem? (i := 110) (by decide +kernel), List.mem_of_getElem? (i := 224) (by decide +kernel), List.mem_of_getElem? (i := 225) (by decide +kernel)⟩
theorem lw_p10 : lw_okq (⟨"ValueTexts$Reader", "hexDigit", "(I)I"⟩, 3) := ⟨⟨by decide +kernel, by decide +kernel⟩, List.mem_of_getElem? (i := 110) (by decide +kernel), List.mem_of_getElem? (i := 228) (by decide +kernel), List.mem_of_getElem? (i := 229) (by decide +kernel)⟩
theorem lw_p11 : lw_okq (⟨"ValueTexts$Reader", "array", "(I)Z"⟩, 3) := ⟨⟨by decide +kernel, by decide +kernel⟩, List.mem_of_getElem? (i := 110) (by decide +kernel), List.mem_of_getElem? (i := 232) (by decide +kernel), List.mem_of_getElem? (i := 233) (by decide +kernel)⟩
theorem lw_p12 : lw_okq (⟨"ValueTexts$Reader", "number", "()Z"⟩, 3) := ⟨⟨by decide +kernel, by decide +kernel⟩, List.mem_of_getElem? (i := 110) (by decide +kernel), List.mem_of_getElem? (i := 236) (by decide +kernel), List.mem_of_getElem? (i := 237) (by decide +kernel)⟩
theorem lw_p13 : lw_okq (⟨"ValueTexts$Reader", "isInt", "(II)Z"⟩, 3) := ⟨⟨by decide +kernel, by decide +kernel⟩, List.mem_of_getElem? (i := 110) (by decide +kernel), List.mem_of_getElem? (i := 240) (by decide +kernel), List.mem_of_getElem? (i := 241) (by decide +kernel)⟩
theorem lw_p14 : lw_okq (⟨"ValueTexts$Reader", "isBelow", "(III)Z"⟩, 3) := ⟨⟨by decide +kernel, by decide +kernel⟩, List.mem_of_getElem? (i := 110) (by decide +kernel), List.mem_of_getElem? (i := 244) (by decide +kernel), List.mem_of_getElem? (i := 245) (by decide +kernel)⟩
theorem lw_p15 : lw_okq (⟨"ValueTexts$Reader", "numberAt", "(II)I"⟩, 3) := ⟨⟨by decide +kernel, by decide +kernel⟩, List.mem_of_getElem? (i := 110) (by decide +kernel), List.mem_of_getElem? (i := 248) (by decide +kernel), List.mem_of_getElem? (i := 249) (by decide +kernel)⟩
def lw_privs_1 : List (MethodName × Nat) := [(⟨"ValueTexts$Reader", "object", "(I)Z"⟩, 3), (⟨"ValueTexts$Reader", "afterWhite", "(I)I"⟩, 3), (⟨"ValueTexts$Reader", "name", "()Z"⟩, 3), (⟨"ValueTexts$Reader", "wordLength", "(I)I"⟩, 3), (⟨"ValueTexts$Reader", "plainString", "()Z"⟩, 3), (⟨"ValueTexts$Reader", "escaped", "()I"⟩, 3), (⟨"ValueTexts$Reader", "octalDigit", "(I)I"⟩, 3), (⟨"ValueTexts$Reader", "dict", "(I)Z"⟩, 3), (⟨"ValueTexts$Tree", "holds", "(I)Z"⟩, 6), (⟨"ValueTexts$Reader", "hexString", "()Z"⟩, 3), (⟨"ValueTexts$Reader", "hexDigit", "(I)I"⟩, 3), (⟨"ValueTexts$Reader", "array", "(I)Z"⟩, 3), (⟨"ValueTexts$Reader", "number", "()Z"⟩, 3), (⟨"ValueTexts$Reader", "isInt", "(II)Z"⟩, 3), (⟨"ValueTexts$Reader", "isBelow", "(III)Z"⟩, 3), (⟨"ValueTexts$Reader", "numberAt", "(II)I"⟩, 3)]
theorem lw_r1 : ∀ q ∈ lw_privs_1, lw_okq q := List.forall_mem_cons.mpr ⟨lw_p0, List.forall_mem_cons.mpr ⟨lw_p1, List.forall_mem_cons.mpr ⟨lw_p2, List.forall_mem_cons.mpr ⟨lw_p3, List.forall_mem_cons.mpr ⟨lw_p4, List.forall_mem_cons.mpr ⟨lw_p5, List.forall_mem_cons.mpr ⟨lw_p6, List.forall_mem_cons.mpr ⟨lw_p7, List.forall_mem_cons.mpr ⟨lw_p8, List.forall_mem_cons.mpr ⟨lw_p9, List.forall_mem_cons.mpr ⟨lw_p10, List.forall_mem_cons.mpr ⟨lw_p11, List.forall_mem_cons.mpr ⟨lw_p12, List.forall_mem_cons.mpr ⟨lw_p13, List.forall_mem_cons.mpr ⟨lw_p14, List.forall_mem_cons.mpr ⟨lw_p15, fun _ h => absurd h List.not_mem_nil⟩⟩⟩⟩⟩⟩⟩⟩⟩⟩⟩⟩⟩⟩⟩⟩
theorem lw_p16 : lw_okq (⟨"ValueTexts$Reader", "word", "()Z"⟩, 3) := ⟨⟨by decide +kernel, by decide +kernel⟩, List.mem_of_getElem? (i := 110) (by decide +kernel), List.mem_of_getElem? (i := 253) (by decide +kernel), List.mem_of_getElem? (i := 254) (by decide +kernel)⟩
theorem lw_p17 : lw_okq (⟨"ValueTexts$Reader", "kindOfWord", "(I)I"⟩, 3) := ⟨⟨by decide +kernel, by decide +kernel⟩, List.mem_of_getElem? (i := 110) (by decide +kernel), List.mem_of_getElem? (i := 257) (by decide +kernel), List.mem_of_getElem? (i := 258) (by decide +kernel)⟩
theorem lw_p18 : lw_okq (⟨"ValueTexts$Reader", "isWord", "(Ljava/lang/String;I)Z"⟩, 3) := ⟨⟨by decide +kernel, by decide +kernel⟩, List.mem_of_getElem? (i := 110) (by decide +kernel), List.mem_of_getElem? (i := 262) (by decide +kernel), List.mem_of_getElem? (i := 263) (by decide +kernel)⟩
theorem lw_p19 : lw_okq (⟨"ValueTexts$Writer", "addValue", "(II)V"⟩, 2) := ⟨⟨by decide +kernel, by decide +kernel⟩, List.mem_of_getElem? (i := 321) (by decide +kernel), List.mem_of_getElem? (i := 338) (by decide +kernel), List.mem_of_getElem? (i := 339) (by decide +kernel)⟩
theorem lw_p20 : lw_okq (⟨"ValueTexts$Writer", "addInt", "(I)V"⟩, 2) := ⟨⟨by decide +kernel, by decide +kernel⟩, List.mem_of_getElem? (i := 321) (by decide +kernel), List.mem_of_getElem? (i := 353) (by decide +kernel), List.mem_of_getElem? (i := 354) (by decide +kernel)⟩
theorem lw_p21 : lw_okq (⟨"ValueTexts$Writer", "addName", "(I)V"⟩, 2) := ⟨⟨by decide +kernel, by decide +kernel⟩, List.mem_of_getElem? (i := 321) (by decide +kernel), List.mem_of_getElem? (i := 359) (by decide +kernel), List.mem_of_getElem? (i := 360) (by decide +kernel)⟩
theorem lw_p22 : lw_okq (⟨"ValueTexts$Writer", "addString", "(I)V"⟩, 2) := ⟨⟨by decide +kernel, by decide +kernel⟩, List.mem_of_getElem? (i := 321) (by decide +kernel), List.mem_of_getElem? (i := 366) (by decide +kernel), List.mem_of_getElem? (i := 367) (by decide +kernel)⟩
theorem lw_p23 : lw_okq (⟨"ValueTexts$Writer", "addArray", "(II)V"⟩, 2) := ⟨⟨by decide +kernel, by decide +kernel⟩, List.mem_of_getElem? (i := 321) (by decide +kernel), List.mem_of_getElem? (i := 374) (by decide +kernel), List.mem_of_getElem? (i := 375) (by decide +kernel)⟩
theorem lw_p24 : lw_okq (⟨"ValueTexts$Writer", "addSpaceBefore", "(I)V"⟩, 2) := ⟨⟨by decide +kernel, by decide +kernel⟩, List.mem_of_getElem? (i := 321) (by decide +kernel), List.mem_of_getElem? (i := 378) (by decide +kernel), List.mem_of_getElem? (i := 379) (by decide +kernel)⟩
theorem lw_p25 : lw_okq (⟨"ValueTexts$Writer", "addDict", "(II)V"⟩, 2) := ⟨⟨by decide +kernel, by decide +kernel⟩, List.mem_of_getElem? (i := 321) (by decide +kernel), List.mem_of_getElem? (i := 383) (by decide +kernel), List.mem_of_getElem? (i := 384) (by decide +kernel)⟩
theorem lw_p26 : lw_okq (⟨"ValueTexts$Writer", "addRef", "(I)V"⟩, 2) := ⟨⟨by decide +kernel, by decide +kernel⟩, List.mem_of_getElem? (i := 321) (by decide +kernel), List.mem_of_getElem? (i := 389) (by decide +kernel), List.mem_of_getElem? (i := 390) (by decide +kernel)⟩
theorem lw_p27 : lw_okq (⟨"ValueTexts", "pointAt", "(I)I"⟩, 5) := ⟨⟨by decide +kernel, by decide +kernel⟩, List.mem_of_getElem? (i := 16) (by decide +kernel), List.mem_of_getElem? (i := 398) (by decide +kernel), List.mem_of_getElem? (i := 399) (by decide +kernel)⟩
theorem lw_p28 : lw_okq (⟨"ValueTexts$Tree", "nameNode", "(II)I"⟩, 6) := ⟨⟨by decide +kernel, by decide +kernel⟩, List.mem_of_getElem? (i := 38) (by decide +kernel), List.mem_of_getElem? (i := 410) (by decide +kernel), List.mem_of_getElem? (i := 411) (by decide +kernel)⟩
theorem lw_p29 : lw_okq (⟨"ValueTexts$Tree", "itemNode", "(II)I"⟩, 6) := ⟨⟨by decide +kernel, by decide +kernel⟩, List.mem_of_getElem? (i := 38) (by decide +kernel), List.mem_of_getElem? (i := 414) (by decide +kernel), List.mem_of_getElem? (i := 415) (by decide +kernel)⟩
theorem lw_p30 : lw_okq (⟨"ValueTextsModel", "used", "()I"⟩, 12) := ⟨⟨by decide +kernel, by decide +kernel⟩, List.mem_of_getElem? (i := 448) (by decide +kernel), List.mem_of_getElem? (i := 506) (by decide +kernel), List.mem_of_getElem? (i := 507) (by decide +kernel)⟩
theorem lw_p31 : lw_okq (⟨"ValueTextsModel", "object", "(I)LValueTextsModel$Part;"⟩, 12) := ⟨⟨by decide +kernel, by decide +kernel⟩, List.mem_of_getElem? (i := 448) (by decide +kernel), List.mem_of_getElem? (i := 510) (by decide +kernel), List.mem_of_getElem? (i := 511) (by decide +kernel)⟩
def lw_privs_2 : List (MethodName × Nat) := [(⟨"ValueTexts$Reader", "word", "()Z"⟩, 3), (⟨"ValueTexts$Reader", "kindOfWord", "(I)I"⟩, 3), (⟨"ValueTexts$Reader", "isWord", "(Ljava/lang/String;I)Z"⟩, 3), (⟨"ValueTexts$Writer", "addValue", "(II)V"⟩, 2), (⟨"ValueTexts$Writer", "addInt", "(I)V"⟩, 2), (⟨"ValueTexts$Writer", "addName", "(I)V"⟩, 2), (⟨"ValueTexts$Writer", "addString", "(I)V"⟩, 2), (⟨"ValueTexts$Writer", "addArray", "(II)V"⟩, 2), (⟨"ValueTexts$Writer", "addSpaceBefore", "(I)V"⟩, 2), (⟨"ValueTexts$Writer", "addDict", "(II)V"⟩, 2), (⟨"ValueTexts$Writer", "addRef", "(I)V"⟩, 2), (⟨"ValueTexts", "pointAt", "(I)I"⟩, 5), (⟨"ValueTexts$Tree", "nameNode", "(II)I"⟩, 6), (⟨"ValueTexts$Tree", "itemNode", "(II)I"⟩, 6), (⟨"ValueTextsModel", "used", "()I"⟩, 12), (⟨"ValueTextsModel", "object", "(I)LValueTextsModel$Part;"⟩, 12)]
theorem lw_r2 : ∀ q ∈ lw_privs_2, lw_okq q := List.forall_mem_cons.mpr ⟨lw_p16, List.forall_mem_cons.mpr ⟨lw_p17, List.forall_mem_cons.mpr ⟨lw_p18, List.forall_mem_cons.mpr ⟨lw_p19, List.forall_mem_cons.mpr ⟨lw_p20, List.forall_mem_cons.mpr ⟨lw_p21, List.forall_mem_cons.mpr ⟨lw_p22, List.forall_mem_cons.mpr ⟨lw_p23, List.forall_mem_cons.mpr ⟨lw_p24, List.forall_mem_cons.mpr ⟨lw_p25, List.forall_mem_cons.mpr ⟨lw_p26, List.forall_mem_cons.mpr ⟨lw_p27, List.forall_mem_cons.mpr ⟨lw_p28, List.forall_mem_cons.mpr ⟨lw_p29, List.forall_mem_cons.mpr ⟨lw_p30, List.forall_mem_cons.mpr ⟨lw_p31, fun _ h => absurd h List.not_mem_nil⟩⟩⟩⟩⟩⟩⟩⟩⟩⟩⟩⟩⟩⟩⟩⟩
theorem lw_p32 : lw_okq (⟨"ValueTextsModel", "white", "()V"⟩, 12) := ⟨⟨by decide +kernel, by decide +kernel⟩, List.mem_of_getElem? (i := 448) (by decide +kernel), List.mem_of_getElem? (i := 514) (by decide +kernel), List.mem_of_getElem? (i := 515) (by decide +kernel)⟩
theorem lw_p33 : lw_okq (⟨"ValueTextsModel", "name", "()LValueTextsModel$Part;"⟩, 12) := ⟨⟨by decide +kernel, by decide +kernel⟩, List.mem_of_getElem? (i := 448) (by decide +kernel), List.mem_of_getElem? (i := 521) (by decide +kernel), List.mem_of_getElem? (i := 522) (by decide +kernel)⟩
theorem lw_p34 : lw_okq (⟨"ValueTextsModel", "wordEnd", "(I)I"⟩, 12) := ⟨⟨by decide +kernel, by decide +kernel⟩, List.mem_of_getElem? (i := 448) (by decide +kernel), List.mem_of_getElem? (i := 525) (by decide +kernel), List.mem_of_getElem? (i := 526) (by decide +kernel)⟩
theorem lw_p35 : lw_okq (⟨"ValueTextsModel", "string", "()LValueTextsModel$Part;"⟩, 12) := ⟨⟨by decide +kernel, by decide +kernel⟩, List.mem_of_getElem? (i := 448) (by decide +kernel), List.mem_of_getElem? (i := 590) (by decide +kernel), List.mem_of_getElem? (i := 591) (by decide +kernel)⟩
theorem lw_p36 : lw_okq (⟨"ValueTextsModel", "escaped", "()I"⟩, 12) := ⟨⟨by decide +kernel, by decide +kernel⟩, List.mem_of_getElem? (i := 448) (by decide +kernel), List.mem_of_getElem? (i := 594) (by decide +kernel), List.mem_of_getElem? (i := 595) (by decide +kernel)⟩
theorem lw_p37 : lw_okq (⟨"ValueTextsModel", "takeByte", "(I)Z"⟩, 12) := ⟨⟨by decide +kernel, by decide +kernel⟩, List.mem_of_getElem? (i := 448) (by decide +kernel), List.mem_of_getElem? (i := 598) (by decide +kernel), List.mem_of_getElem? (i := 599) (by decide +kernel)⟩
theorem lw_p38 : lw_okq (⟨"ValueTextsModel", "ofBytes", "(I)LValueTextsModel$Part;"⟩, 12) := ⟨⟨by decide +kernel, by decide +kernel⟩, List.mem_of_getElem? (i := 448) (by decide +kernel), List.mem_of_getElem? (i := 602) (by decide +kernel), List.mem_of_getElem? (i := 603) (by decide +kernel)⟩
theorem lw_p39 : lw_okq (⟨"ValueTextsModel", "array", "(I)LValueTextsModel$Part;"⟩, 12) := ⟨⟨by decide +kernel, by decide +kernel⟩, List.mem_of_getElem? (i := 448) (by decide +kernel), List.mem_of_getElem? (i := 609) (by decide +kernel), List.mem_of_getElem? (i := 610) (by decide +kernel)⟩
theorem lw_p40 : lw_okq (⟨"ValueTextsModel", "dict", "(I)LValueTextsModel$Part;"⟩, 12) := ⟨⟨by decide +kernel, by decide +kernel⟩, List.mem_of_getElem? (i := 448) (by decide +kernel), List.mem_of_getElem? (i := 617) (by decide +kernel), List.mem_of_getElem? (i := 618) (by decide +kernel)⟩
theorem lw_p41 : lw_okq (⟨"ValueTextsModel", "digits", "()LValueTextsModel$Part;"⟩, 12) := ⟨⟨by decide +kernel, by decide +kernel⟩, List.mem_of_getElem? (i := 448) (by decide +kernel), List.mem_of_getElem? (i := 630) (by decide +kernel), List.mem_of_getElem? (i := 631) (by decide +kernel)⟩
theorem lw_p42 : lw_okq (⟨"ValueTextsModel", "isWord", "(IILjava/lang/String;)Z"⟩, 12) := ⟨⟨by decide +kernel, by decide +kernel⟩, List.mem_of_getElem? (i := 448) (by decide +kernel), List.mem_of_getElem? (i := 641) (by decide +kernel), List.mem_of_getElem? (i := 642) (by decide +kernel)⟩
theorem lw_p43 : lw_okq (⟨"ValueTextsModel", "isAt", "(ILjava/lang/String;)Z"⟩, 12) := ⟨⟨by decide +kernel, by decide +kernel⟩, List.mem_of_getElem? (i := 448) (by decide +kernel), List.mem_of_getElem? (i := 646) (by decide +kernel), List.mem_of_getElem? (i := 647) (by decide +kernel)⟩
theorem lw_p44 : lw_okq (⟨"ValueTextsModel", "numberOf", "(II)I"⟩, 12) := ⟨⟨by decide +kernel, by decide +kernel⟩, List.mem_of_getElem? (i := 448) (by decide +kernel), List.mem_of_getElem? (i := 653) (by decide +kernel), List.mem_of_getElem? (i := 654) (by decide +kernel)⟩
theorem lw_p45 : lw_okq (⟨"ValueTextsModel", "reference", "(I)LValueTextsModel$Part;"⟩, 12) := ⟨⟨by decide +kernel, by decide +kernel⟩, List.mem_of_getElem? (i := 448) (by decide +kernel), List.mem_of_getElem? (i := 658) (by decide +kernel), List.mem_of_getElem? (i := 659) (by decide +kernel)⟩
theorem lw_p46 : lw_okq (⟨"ValueTextsModel", "takeNumber", "()I"⟩, 12) := ⟨⟨by decide +kernel, by decide +kernel⟩, List.mem_of_getElem? (i := 448) (by decide +kernel), List.mem_of_getElem? (i := 662) (by decide +kernel), List.mem_of_getElem? (i := 663) (by decide +kernel)⟩
theorem lw_p47 : lw_okq (⟨"ValueTextsModel", "takeWord", "(Ljava/lang/String;)Z"⟩, 12) := ⟨⟨by decide +kernel, by decide +kernel⟩, List.mem_of_getElem? (i := 448) (by decide +kernel), List.mem_of_getElem? (i := 667) (by decide +kernel), List.mem_of_getElem? (i := 668) (by decide +kernel)⟩
def lw_privs_3 : List (MethodName × Nat) := [(⟨"ValueTextsModel", "white", "()V"⟩, 12), (⟨"ValueTextsModel", "name", "()LValueTextsModel$Part;"⟩, 12), (⟨"ValueTextsModel", "wordEnd", "(I)I"⟩, 12), (⟨"ValueTextsModel", "string", "()LValueTextsModel$Part;"⟩, 12), (⟨"ValueTextsModel", "escaped", "()I"⟩, 12), (⟨"ValueTextsModel", "takeByte", "(I)Z"⟩, 12), (⟨"ValueTextsModel", "ofBytes", "(I)LValueTextsModel$Part;"⟩, 12), (⟨"ValueTextsModel", "array", "(I)LValueTextsModel$Part;"⟩, 12), (⟨"ValueTextsModel", "dict", "(I)LValueTextsModel$Part;"⟩, 12), (⟨"ValueTextsModel", "digits", "()LValueTextsModel$Part;"⟩, 12), (⟨"ValueTextsModel", "isWord", "(IILjava/lang/String;)Z"⟩, 12), (⟨"ValueTextsModel", "isAt", "(ILjava/lang/String;)Z"⟩, 12), (⟨"ValueTextsModel", "numberOf", "(II)I"⟩, 12), (⟨"ValueTextsModel", "reference", "(I)LValueTextsModel$Part;"⟩, 12), (⟨"ValueTextsModel", "takeNumber", "()I"⟩, 12), (⟨"ValueTextsModel", "takeWord", "(Ljava/lang/String;)Z"⟩, 12)]
theorem lw_r3 : ∀ q ∈ lw_privs_3, lw_okq q := List.forall_mem_cons.mpr ⟨lw_p32, List.forall_mem_cons.mpr ⟨lw_p33, List.forall_mem_cons.mpr ⟨lw_p34, List.forall_mem_cons.mpr ⟨lw_p35, List.forall_mem_cons.mpr ⟨lw_p36, List.forall_mem_cons.mpr ⟨lw_p37, List.forall_mem_cons.mpr ⟨lw_p38, List.forall_mem_cons.mpr ⟨lw_p39, List.forall_mem_cons.mpr ⟨lw_p40, List.forall_mem_cons.mpr ⟨lw_p41, List.forall_mem_cons.mpr ⟨lw_p42, List.forall_mem_cons.mpr ⟨lw_p43, List.forall_mem_cons.mpr ⟨lw_p44, List.forall_mem_cons.mpr ⟨lw_p45, List.forall_mem_cons.mpr ⟨lw_p46, List.forall_mem_cons.mpr ⟨lw_p47, fun _ h => absurd h List.not_mem_nil⟩⟩⟩⟩⟩⟩⟩⟩⟩⟩⟩⟩⟩⟩⟩⟩
theorem lw_p48 : lw_okq (⟨"ValueTextsModel", "isAt", "(LValueTextsModel$Part;)I"⟩, 12) := ⟨⟨by decide +kernel, by decide +kernel⟩, List.mem_of_getElem? (i := 448) (by decide +kernel), List.mem_of_getElem? (i := 676) (by decide +kernel), List.mem_of_getElem? (i := 677) (by decide +kernel)⟩
theorem lw_p49 : lw_okq (⟨"ValueTextsModel", "tell", "([B)I"⟩, 12) := ⟨⟨by decide +kernel, by decide +kernel⟩, List.mem_of_getElem? (i := 448) (by decide +kernel), List.mem_of_getElem? (i := 702) (by decide +kernel), List.mem_of_getElem? (i := 703) (by decide +kernel)⟩
theorem lw_p50 : lw_okq (⟨"ValueTextsModel", "write", "(LValueTextsModel$Part;)V"⟩, 12) := ⟨⟨by decide +kernel, by decide +kernel⟩, List.mem_of_getElem? (i := 448) (by decide +kernel), List.mem_of_getElem? (i := 716) (by decide +kernel), List.mem_of_getElem? (i := 717) (by decide +kernel)⟩
theorem lw_p51 : lw_okq (⟨"ValueTextsModel", "say", "(Ljava/lang/String;)V"⟩, 12) := ⟨⟨by decide +kernel, by decide +kernel⟩, List.mem_of_getElem? (i := 448) (by decide +kernel), List.mem_of_getElem? (i := 720) (by decide +kernel), List.mem_of_getElem? (i := 721) (by decide +kernel)⟩
theorem lw_p52 : lw_okq (⟨"ValueTextsModel", "say", "(I)V"⟩, 12) := ⟨⟨by decide +kernel, by decide +kernel⟩, List.mem_of_getElem? (i := 448) (by decide +kernel), List.mem_of_getElem? (i := 724) (by decide +kernel), List.mem_of_getElem? (i := 725) (by decide +kernel)⟩
theorem lw_p53 : lw_okq (⟨"ValueTextsModel", "number", "(II)V"⟩, 12) := ⟨⟨by decide +kernel, by decide +kernel⟩, List.mem_of_getElem? (i := 448) (by decide +kernel), List.mem_of_getElem? (i := 728) (by decide +kernel), List.mem_of_getElem? (i := 729) (by decide +kernel)⟩
theorem lw_p54 : lw_okq (⟨"ValueTextsModel", "say", "([B)V"⟩, 12) := ⟨⟨by decide +kernel, by decide +kernel⟩, List.mem_of_getElem? (i := 448) (by decide +kernel), List.mem_of_getElem? (i := 732) (by decide +kernel), List.mem_of_getElem? (i := 733) (by decide +kernel)⟩
theorem lw_p55 : lw_okq (⟨"ValueTextsModel", "hexDigit", "(I)V"⟩, 12) := ⟨⟨by decide +kernel, by decide +kernel⟩, List.mem_of_getElem? (i := 448) (by decide +kernel), List.mem_of_getElem? (i := 736) (by decide +kernel), List.mem_of_getElem? (i := 737) (by decide +kernel)⟩
def lw_privs_4 : List (MethodName × Nat) := [(⟨"ValueTextsModel", "isAt", "(LValueTextsModel$Part;)I"⟩, 12), (⟨"ValueTextsModel", "tell", "([B)I"⟩, 12), (⟨"ValueTextsModel", "write", "(LValueTextsModel$Part;)V"⟩, 12), (⟨"ValueTextsModel", "say", "(Ljava/lang/String;)V"⟩, 12), (⟨"ValueTextsModel", "say", "(I)V"⟩, 12), (⟨"ValueTextsModel", "number", "(II)V"⟩, 12), (⟨"ValueTextsModel", "say", "([B)V"⟩, 12), (⟨"ValueTextsModel", "hexDigit", "(I)V"⟩, 12)]
theorem lw_r4 : ∀ q ∈ lw_privs_4, lw_okq q := List.forall_mem_cons.mpr ⟨lw_p48, List.forall_mem_cons.mpr ⟨lw_p49, List.forall_mem_cons.mpr ⟨lw_p50, List.forall_mem_cons.mpr ⟨lw_p51, List.forall_mem_cons.mpr ⟨lw_p52, List.forall_mem_cons.mpr ⟨lw_p53, List.forall_mem_cons.mpr ⟨lw_p54, List.forall_mem_cons.mpr ⟨lw_p55, fun _ h => absurd h List.not_mem_nil⟩⟩⟩⟩⟩⟩⟩⟩
def lw_privs : List (MethodName × Nat) := lw_privs_1 ++ (lw_privs_2 ++ (lw_privs_3 ++ (lw_privs_4)))
def lw_tbl : List Cond := k2_sels lw_privs ++ tables_1
theorem lw_privs_ok : ∀ q ∈ lw_privs, lw_okq q := by
  show ∀ q ∈ lw_privs_1 ++ (lw_privs_2 ++ (lw_privs_3 ++ (lw_privs_4))), lw_okq q
  exact List.forall_mem_append.mpr ⟨lw_r1, List.forall_mem_append.mpr ⟨lw_r2, List.forall_mem_append.mpr ⟨lw_r3, lw_r4⟩⟩⟩
-- ===== end of PART A
def R_V : String := "ValueTexts"
def R_Row : String := "ValueTexts$Row"
def R_Tree : String := "ValueTexts$Tree"
def R_Reader : String := "ValueTexts$Reader"
def R_Writer : String := "ValueTexts$Writer"
def R_M : String := "ValueTextsModel"
def R_Part : String := "ValueTextsModel$Part"
def R_L : String := "ValueTextsLaw"
def R_Str : String := "java/lang/String"
def R_SL : String := "java/lang/StringLatin1"
def R_Arr : String := "java/util/Arrays"
def R_Math : String := "java/lang/Math"
def R_Sys : String := "java/lang/System"
def R_Pre : String := "jdk/internal/util/Preconditions"
def F_V : u_T := fun k => match k with
  | 0 => ("ValueTexts", "tape", "LValueTexts$Row;", true)
  | 1 => ("ValueTexts", "out", "LValueTexts$Row;", true)
  | 2 => ("ValueTexts", "value", "LValueTexts$Tree;", false)
  | 3 => ("ValueTexts", "spare", "LValueTexts$Tree;", false)
  | _ => ("ValueTexts", "point", "I", false)
def t_V : Nat → FieldType := fun k => match k with
  | 0 => .object "ValueTexts$Row"
  | 1 => .object "ValueTexts$Row"
  | 2 => .object "ValueTexts$Tree"
  | 3 => .object "ValueTexts$Tree"
  | _ => .int
theorem n_V : ∀ a, a < 5 → ∀ b, b < 5 → a ≠ b → (F_V a).2.1 ≠ (F_V b).2.1 := by decide +kernel
theorem t_V_ok : ∀ k, k < 5 → parseFieldDescriptor (F_V k).2.2.1 = some (t_V k) := by decide +kernel
def F_Row : u_T := fun k => match k with
  | 0 => ("ValueTexts$Row", "cells", "[B", true)
  | _ => ("ValueTexts$Row", "size", "I", false)
def t_Row : Nat → FieldType := fun k => match k with
  | 0 => .array .byte
  | _ => .int
theorem n_Row : ∀ a, a < 2 → ∀ b, b < 2 → a ≠ b → (F_Row a).2.1 ≠ (F_Row b).2.1 := by decide +kernel
theorem t_Row_ok : ∀ k, k < 2 → parseFieldDescriptor (F_Row k).2.2.1 = some (t_Row k) := by decide +kernel
def F_Tree : u_T := fun k => match k with
  | 0 => ("ValueTexts$Tree", "kinds", "[B", true)
  | 1 => ("ValueTexts$Tree", "numbers", "[I", true)
  | 2 => ("ValueTexts$Tree", "others", "[I", true)
  | 3 => ("ValueTexts$Tree", "spans", "[I", true)
  | 4 => ("ValueTexts$Tree", "text", "LValueTexts$Row;", true)
  | _ => ("ValueTexts$Tree", "size", "I", false)
def t_Tree : Nat → FieldType := fun k => match k with
  | 0 => .array .byte
  | 1 => .array .int
  | 2 => .array .int
  | 3 => .array .int
  | 4 => .object "ValueTexts$Row"
  | _ => .int
theorem n_Tree : ∀ a, a < 6 → ∀ b, b < 6 → a ≠ b → (F_Tree a).2.1 ≠ (F_Tree b).2.1 := by decide +kernel
theorem t_Tree_ok : ∀ k, k < 6 → parseFieldDescriptor (F_Tree k).2.2.1 = some (t_Tree k) := by decide +kernel
def F_Reader : u_T := fun k => match k with
  | 0 => ("ValueTexts$Reader", "tape", "LValueTexts$Row;", true)
  | 1 => ("ValueTexts$Reader", "tree", "LValueTexts$Tree;", true)
  | _ => ("ValueTexts$Reader", "at", "I", false)
def t_Reader : Nat → FieldType := fun k => match k with
  | 0 => .object "ValueTexts$Row"
  | 1 => .object "ValueTexts$Tree"
  | _ => .int
theorem n_Reader : ∀ a, a < 3 → ∀ b, b < 3 → a ≠ b → (F_Reader a).2.1 ≠ (F_Reader b).2.1 := by decide +kernel
theorem t_Reader_ok : ∀ k, k < 3 → parseFieldDescriptor (F_Reader k).2.2.1 = some (t_Reader k) := by decide +kernel
def F_Writer : u_T := fun k => match k with
  | 0 => ("ValueTexts$Writer", "tree", "LValueTexts$Tree;", true)
  | _ => ("ValueTexts$Writer", "out", "LValueTexts$Row;", true)
def t_Writer : Nat → FieldType := fun k => match k with
  | 0 => .object "ValueTexts$Tree"
  | _ => .object "ValueTexts$Row"
theorem n_Writer : ∀ a, a < 2 → ∀ b, b < 2 → a ≠ b → (F_Writer a).2.1 ≠ (F_Writer b).2.1 := by decide +kernel
theorem t_Writer_ok : ∀ k, k < 2 → parseFieldDescriptor (F_Writer k).2.2.1 = some (t_Writer k) := by decide +kernel
def F_M : u_T := fun k => match k with
  | 0 => ("ValueTextsModel", "text", "[B", false)
  | 1 => ("ValueTextsModel", "size", "I", false)
  | 2 => ("ValueTextsModel", "at", "I", false)
  | 3 => ("ValueTextsModel", "taken", "[B", true)
  | 4 => ("ValueTextsModel", "tape", "[B", true)
  | 5 => ("ValueTextsModel", "out", "[B", true)
  | 6 => ("ValueTextsModel", "tapeMany", "I", false)
  | 7 => ("ValueTextsModel", "outMany", "I", false)
  | 8 => ("ValueTextsModel", "all", "LValueTextsModel$Part;", false)
  | 9 => ("ValueTextsModel", "point", "LValueTextsModel$Part;", false)
  | 10 => ("ValueTextsModel", "page", "[B", true)
  | _ => ("ValueTextsModel", "written", "I", false)
def t_M : Nat → FieldType := fun k => match k with
  | 0 => .array .byte
  | 1 => .int
  | 2 => .int
  | 3 => .array .byte
  | 4 => .array .byte
  | 5 => .array .byte
  | 6 => .int
  | 7 => .int
  | 8 => .object "ValueTextsModel$Part"
  | 9 => .object "ValueTextsModel$Part"
  | 10 => .array .byte
  | _ => .int
theorem n_M : ∀ a, a < 12 → ∀ b, b < 12 → a ≠ b → (F_M a).2.1 ≠ (F_M b).2.1 := by decide +kernel
theorem t_M_ok : ∀ k, k < 12 → parseFieldDescriptor (F_M k).2.2.1 = some (t_M k) := by decide +kernel
def F_Part : u_T := fun k => match k with
  | 0 => ("ValueTextsModel$Part", "kind", "I", true)
  | 1 => ("ValueTextsModel$Part", "x", "I", false)
  | 2 => ("ValueTextsModel$Part", "y", "I", false)
  | 3 => ("ValueTextsModel$Part", "many", "I", false)
  | 4 => ("ValueTextsModel$Part", "bytes", "[B", false)
  | 5 => ("ValueTextsModel$Part", "item", "[LValueTextsModel$Part;", false)
  | _ => ("ValueTextsModel$Part", "name", "[[B", false)
def t_Part : Nat → FieldType := fun k => match k with
  | 0 => .int
  | 1 => .int
  | 2 => .int
  | 3 => .int
  | 4 => .array .byte
  | 5 => .array (.object "ValueTextsModel$Part")
  | _ => .array (.array .byte)
theorem n_Part : ∀ a, a < 7 → ∀ b, b < 7 → a ≠ b → (F_Part a).2.1 ≠ (F_Part b).2.1 := by decide +kernel
theorem t_Part_ok : ∀ k, k < 7 → parseFieldDescriptor (F_Part k).2.2.1 = some (t_Part k) := by decide +kernel
abbrev b_V_init : ByteArray := prog_1_method_1_code
def y_V_init : MethodName := ⟨R_V, "<init>", "()V"⟩
abbrev b_V_feed : ByteArray := prog_1_method_2_code
def y_V_feed : MethodName := ⟨R_V, "feed", "(IIIII)I"⟩
abbrev b_V_end : ByteArray := prog_1_method_3_code
def y_V_end : MethodName := ⟨R_V, "end", "(I)I"⟩
abbrev b_V_read : ByteArray := prog_1_method_4_code
def y_V_read : MethodName := ⟨R_V, "read", "()I"⟩
abbrev b_V_write : ByteArray := prog_1_method_5_code
def y_V_write : MethodName := ⟨R_V, "write", "()I"⟩
abbrev b_V_top : ByteArray := prog_1_method_6_code
def y_V_top : MethodName := ⟨R_V, "top", "()I"⟩
abbrev b_V_item : ByteArray := prog_1_method_7_code
def y_V_item : MethodName := ⟨R_V, "item", "(I)I"⟩
abbrev b_V_find : ByteArray := prog_1_method_8_code
def y_V_find : MethodName := ⟨R_V, "find", "()I"⟩
abbrev b_V_look : ByteArray := prog_1_method_9_code
def y_V_look : MethodName := ⟨R_V, "look", "(I)I"⟩
abbrev b_V_bytes : ByteArray := prog_1_method_10_code
def y_V_bytes : MethodName := ⟨R_V, "bytes", "(I)I"⟩
abbrev b_V_octet : ByteArray := prog_1_method_11_code
def y_V_octet : MethodName := ⟨R_V, "octet", "(I)I"⟩
abbrev b_V_pointAt : ByteArray := prog_1_method_12_code
def y_V_pointAt : MethodName := ⟨R_V, "pointAt", "(I)I"⟩
abbrev b_M_in : ByteArray := prog_7_method_1_code
def y_M_in : MethodName := ⟨R_M, "in", "(JJJ)Z"⟩
abbrev b_M_isLike : ByteArray := prog_7_method_2_code
def y_M_isLike : MethodName := ⟨R_M, "isLike", "([B[BII)Z"⟩
abbrev b_M_isWhite : ByteArray := prog_7_method_3_code
def y_M_isWhite : MethodName := ⟨R_M, "isWhite", "(I)Z"⟩
abbrev b_M_isDelimiter : ByteArray := prog_7_method_4_code
def y_M_isDelimiter : MethodName := ⟨R_M, "isDelimiter", "(I)Z"⟩
abbrev b_M_isRegular : ByteArray := prog_7_method_5_code
def y_M_isRegular : MethodName := ⟨R_M, "isRegular", "(I)Z"⟩
abbrev b_M_white : ByteArray := prog_7_method_6_code
def y_M_white : MethodName := ⟨R_M, "white", "()V"⟩
abbrev b_M_wordEnd : ByteArray := prog_7_method_7_code
def y_M_wordEnd : MethodName := ⟨R_M, "wordEnd", "(I)I"⟩
abbrev b_M_isAt_s : ByteArray := prog_7_method_8_code
def y_M_isAt_s : MethodName := ⟨R_M, "isAt", "(ILjava/lang/String;)Z"⟩
abbrev b_M_isWord : ByteArray := prog_7_method_9_code
def y_M_isWord : MethodName := ⟨R_M, "isWord", "(IILjava/lang/String;)Z"⟩
abbrev b_M_takeWord : ByteArray := prog_7_method_10_code
def y_M_takeWord : MethodName := ⟨R_M, "takeWord", "(Ljava/lang/String;)Z"⟩
abbrev b_M_takeByte : ByteArray := prog_7_method_11_code
def y_M_takeByte : MethodName := ⟨R_M, "takeByte", "(I)Z"⟩
abbrev b_M_isDigit : ByteArray := prog_7_method_12_code
def y_M_isDigit : MethodName := ⟨R_M, "isDigit", "(I)Z"⟩
abbrev b_M_numberOf : ByteArray := prog_7_method_13_code
def y_M_numberOf : MethodName := ⟨R_M, "numberOf", "(II)I"⟩
abbrev b_M_takeNumber : ByteArray := prog_7_method_14_code
def y_M_takeNumber : MethodName := ⟨R_M, "takeNumber", "()I"⟩
abbrev b_M_object : ByteArray := prog_7_method_15_code
def y_M_object : MethodName := ⟨R_M, "object", "(I)LValueTextsModel$Part;"⟩
abbrev b_M_reference : ByteArray := prog_7_method_16_code
def y_M_reference : MethodName := ⟨R_M, "reference", "(I)LValueTextsModel$Part;"⟩
abbrev b_M_name : ByteArray := prog_7_method_17_code
def y_M_name : MethodName := ⟨R_M, "name", "()LValueTextsModel$Part;"⟩
abbrev b_M_ofBytes : ByteArray := prog_7_method_18_code
def y_M_ofBytes : MethodName := ⟨R_M, "ofBytes", "(I)LValueTextsModel$Part;"⟩
abbrev b_M_string : ByteArray := prog_7_method_19_code
def y_M_string : MethodName := ⟨R_M, "string", "()LValueTextsModel$Part;"⟩
abbrev b_M_escaped : ByteArray := prog_7_method_20_code
def y_M_escaped : MethodName := ⟨R_M, "escaped", "()I"⟩
abbrev b_M_hexOf : ByteArray := prog_7_method_21_code
def y_M_hexOf : MethodName := ⟨R_M, "hexOf", "(I)I"⟩
abbrev b_M_digits : ByteArray := prog_7_method_22_code
def y_M_digits : MethodName := ⟨R_M, "digits", "()LValueTextsModel$Part;"⟩
abbrev b_M_array : ByteArray := prog_7_method_23_code
def y_M_array : MethodName := ⟨R_M, "array", "(I)LValueTextsModel$Part;"⟩
abbrev b_M_longer : ByteArray := prog_7_method_24_code
def y_M_longer : MethodName := ⟨R_M, "longer", "([LValueTextsModel$Part;)[LValueTextsModel$Part;"⟩
abbrev b_M_dict : ByteArray := prog_7_method_25_code
def y_M_dict : MethodName := ⟨R_M, "dict", "(I)LValueTextsModel$Part;"⟩
abbrev b_M_init : ByteArray := prog_7_method_26_code
def y_M_init : MethodName := ⟨R_M, "<init>", "()V"⟩
abbrev b_M_feed : ByteArray := prog_7_method_27_code
def y_M_feed : MethodName := ⟨R_M, "feed", "(IIIII)I"⟩
abbrev b_M_end : ByteArray := prog_7_method_28_code
def y_M_end : MethodName := ⟨R_M, "end", "(I)I"⟩
abbrev b_M_used : ByteArray := prog_7_method_29_code
def y_M_used : MethodName := ⟨R_M, "used", "()I"⟩
abbrev b_M_read : ByteArray := prog_7_method_30_code
def y_M_read : MethodName := ⟨R_M, "read", "()I"⟩
abbrev b_M_isAt_p : ByteArray := prog_7_method_31_code
def y_M_isAt_p : MethodName := ⟨R_M, "isAt", "(LValueTextsModel$Part;)I"⟩
abbrev b_M_top : ByteArray := prog_7_method_32_code
def y_M_top : MethodName := ⟨R_M, "top", "()I"⟩
abbrev b_M_item : ByteArray := prog_7_method_33_code
def y_M_item : MethodName := ⟨R_M, "item", "(I)I"⟩
abbrev b_M_find : ByteArray := prog_7_method_34_code
def y_M_find : MethodName := ⟨R_M, "find", "()I"⟩
abbrev b_M_look : ByteArray := prog_7_method_35_code
def y_M_look : MethodName := ⟨R_M, "look", "(I)I"⟩
abbrev b_M_tell : ByteArray := prog_7_method_36_code
def y_M_tell : MethodName := ⟨R_M, "tell", "([B)I"⟩
abbrev b_M_bytes : ByteArray := prog_7_method_37_code
def y_M_bytes : MethodName := ⟨R_M, "bytes", "(I)I"⟩
abbrev b_M_octet : ByteArray := prog_7_method_38_code
def y_M_octet : MethodName := ⟨R_M, "octet", "(I)I"⟩
abbrev b_M_say_i : ByteArray := prog_7_method_39_code
def y_M_say_i : MethodName := ⟨R_M, "say", "(I)V"⟩
abbrev b_M_say_s : ByteArray := prog_7_method_40_code
def y_M_say_s : MethodName := ⟨R_M, "say", "(Ljava/lang/String;)V"⟩
abbrev b_M_say_b : ByteArray := prog_7_method_41_code
def y_M_say_b : MethodName := ⟨R_M, "say", "([B)V"⟩
abbrev b_M_number : ByteArray := prog_7_method_42_code
def y_M_number : MethodName := ⟨R_M, "number", "(II)V"⟩
abbrev b_M_hexDigit : ByteArray := prog_7_method_43_code
def y_M_hexDigit : MethodName := ⟨R_M, "hexDigit", "(I)V"⟩
abbrev b_M_write_p : ByteArray := prog_7_method_44_code
def y_M_write_p : MethodName := ⟨R_M, "write", "(LValueTextsModel$Part;)V"⟩
abbrev b_M_write : ByteArray := prog_7_method_45_code
def y_M_write : MethodName := ⟨R_M, "write", "()I"⟩
abbrev b_Reader_init : ByteArray := prog_2_method_1_code
def y_Reader_init : MethodName := ⟨R_Reader, "<init>", "(LValueTexts$Row;LValueTexts$Tree;)V"⟩
abbrev b_Reader_readsAll : ByteArray := prog_2_method_2_code
def y_Reader_readsAll : MethodName := ⟨R_Reader, "readsAll", "()Z"⟩
abbrev b_Reader_object : ByteArray := prog_2_method_3_code
def y_Reader_object : MethodName := ⟨R_Reader, "object", "(I)Z"⟩
abbrev b_Reader_array : ByteArray := prog_2_method_4_code
def y_Reader_array : MethodName := ⟨R_Reader, "array", "(I)Z"⟩
abbrev b_Reader_dict : ByteArray := prog_2_method_5_code
def y_Reader_dict : MethodName := ⟨R_Reader, "dict", "(I)Z"⟩
abbrev b_Reader_name : ByteArray := prog_2_method_6_code
def y_Reader_name : MethodName := ⟨R_Reader, "name", "()Z"⟩
abbrev b_Reader_plainString : ByteArray := prog_2_method_7_code
def y_Reader_plainString : MethodName := ⟨R_Reader, "plainString", "()Z"⟩
abbrev b_Reader_escaped : ByteArray := prog_2_method_8_code
def y_Reader_escaped : MethodName := ⟨R_Reader, "escaped", "()I"⟩
abbrev b_Reader_octalDigit : ByteArray := prog_2_method_9_code
def y_Reader_octalDigit : MethodName := ⟨R_Reader, "octalDigit", "(I)I"⟩
abbrev b_Reader_hexString : ByteArray := prog_2_method_10_code
def y_Reader_hexString : MethodName := ⟨R_Reader, "hexString", "()Z"⟩
abbrev b_Reader_hexDigit : ByteArray := prog_2_method_11_code
def y_Reader_hexDigit : MethodName := ⟨R_Reader, "hexDigit", "(I)I"⟩
abbrev b_Reader_word : ByteArray := prog_2_method_12_code
def y_Reader_word : MethodName := ⟨R_Reader, "word", "()Z"⟩
abbrev b_Reader_kindOfWord : ByteArray := prog_2_method_13_code
def y_Reader_kindOfWord : MethodName := ⟨R_Reader, "kindOfWord", "(I)I"⟩
abbrev b_Reader_isWord : ByteArray := prog_2_method_14_code
def y_Reader_isWord : MethodName := ⟨R_Reader, "isWord", "(Ljava/lang/String;I)Z"⟩
abbrev b_Reader_number : ByteArray := prog_2_method_15_code
def y_Reader_number : MethodName := ⟨R_Reader, "number", "()Z"⟩
abbrev b_Reader_isBelow : ByteArray := prog_2_method_16_code
def y_Reader_isBelow : MethodName := ⟨R_Reader, "isBelow", "(III)Z"⟩
abbrev b_Reader_isInt : ByteArray := prog_2_method_17_code
def y_Reader_isInt : MethodName := ⟨R_Reader, "isInt", "(II)Z"⟩
abbrev b_Reader_numberAt : ByteArray := prog_2_method_18_code
def y_Reader_numberAt : MethodName := ⟨R_Reader, "numberAt", "(II)I"⟩
abbrev b_Reader_wordLength : ByteArray := prog_2_method_19_code
def y_Reader_wordLength : MethodName := ⟨R_Reader, "wordLength", "(I)I"⟩
abbrev b_Reader_isRegular : ByteArray := prog_2_method_20_code
def y_Reader_isRegular : MethodName := ⟨R_Reader, "isRegular", "(I)Z"⟩
abbrev b_Reader_afterWhite : ByteArray := prog_2_method_21_code
def y_Reader_afterWhite : MethodName := ⟨R_Reader, "afterWhite", "(I)I"⟩
abbrev b_Reader_isWhite : ByteArray := prog_2_method_22_code
def y_Reader_isWhite : MethodName := ⟨R_Reader, "isWhite", "(I)Z"⟩
abbrev b_Row_init : ByteArray := prog_3_method_1_code
def y_Row_init : MethodName := ⟨R_Row, "<init>", "(I)V"⟩
abbrev b_Row_size : ByteArray := prog_3_method_2_code
def y_Row_size : MethodName := ⟨R_Row, "size", "()I"⟩
abbrev b_Row_get : ByteArray := prog_3_method_3_code
def y_Row_get : MethodName := ⟨R_Row, "get", "(I)I"⟩
abbrev b_Row_cut : ByteArray := prog_3_method_4_code
def y_Row_cut : MethodName := ⟨R_Row, "cut", "(I)V"⟩
abbrev b_Row_add : ByteArray := prog_3_method_5_code
def y_Row_add : MethodName := ⟨R_Row, "add", "(I)V"⟩
abbrev b_Row_addFour : ByteArray := prog_3_method_6_code
def y_Row_addFour : MethodName := ⟨R_Row, "addFour", "(I)V"⟩
abbrev b_Row_addWord : ByteArray := prog_3_method_7_code
def y_Row_addWord : MethodName := ⟨R_Row, "addWord", "(Ljava/lang/String;)V"⟩
abbrev b_Row_addFrom : ByteArray := prog_3_method_8_code
def y_Row_addFrom : MethodName := ⟨R_Row, "addFrom", "(LValueTexts$Row;II)V"⟩
abbrev b_Row_hasAt : ByteArray := prog_3_method_9_code
def y_Row_hasAt : MethodName := ⟨R_Row, "hasAt", "(ILValueTexts$Row;II)Z"⟩
abbrev b_Tree_init : ByteArray := prog_4_method_1_code
def y_Tree_init : MethodName := ⟨R_Tree, "<init>", "()V"⟩
abbrev b_Tree_clear : ByteArray := prog_4_method_2_code
def y_Tree_clear : MethodName := ⟨R_Tree, "clear", "()V"⟩
abbrev b_Tree_add : ByteArray := prog_4_method_3_code
def y_Tree_add : MethodName := ⟨R_Tree, "add", "(III)I"⟩
abbrev b_Tree_countPart : ByteArray := prog_4_method_4_code
def y_Tree_countPart : MethodName := ⟨R_Tree, "countPart", "(I)V"⟩
abbrev b_Tree_text : ByteArray := prog_4_method_5_code
def y_Tree_text : MethodName := ⟨R_Tree, "text", "()LValueTexts$Row;"⟩
abbrev b_Tree_kind : ByteArray := prog_4_method_6_code
def y_Tree_kind : MethodName := ⟨R_Tree, "kind", "(I)I"⟩
abbrev b_Tree_number : ByteArray := prog_4_method_7_code
def y_Tree_number : MethodName := ⟨R_Tree, "number", "(I)I"⟩
abbrev b_Tree_other : ByteArray := prog_4_method_8_code
def y_Tree_other : MethodName := ⟨R_Tree, "other", "(I)I"⟩
abbrev b_Tree_holds : ByteArray := prog_4_method_9_code
def y_Tree_holds : MethodName := ⟨R_Tree, "holds", "(I)Z"⟩
abbrev b_Tree_after : ByteArray := prog_4_method_10_code
def y_Tree_after : MethodName := ⟨R_Tree, "after", "(I)I"⟩
abbrev b_Tree_part : ByteArray := prog_4_method_11_code
def y_Tree_part : MethodName := ⟨R_Tree, "part", "(II)I"⟩
abbrev b_Tree_itemNode : ByteArray := prog_4_method_12_code
def y_Tree_itemNode : MethodName := ⟨R_Tree, "itemNode", "(II)I"⟩
abbrev b_Tree_nameNode : ByteArray := prog_4_method_13_code
def y_Tree_nameNode : MethodName := ⟨R_Tree, "nameNode", "(II)I"⟩
abbrev b_Tree_valueNamed : ByteArray := prog_4_method_14_code
def y_Tree_valueNamed : MethodName := ⟨R_Tree, "valueNamed", "(ILValueTexts$Row;II)I"⟩
abbrev b_Tree_nodeWithText : ByteArray := prog_4_method_15_code
def y_Tree_nodeWithText : MethodName := ⟨R_Tree, "nodeWithText", "(II)I"⟩
abbrev b_Tree_countValues : ByteArray := prog_4_method_16_code
def y_Tree_countValues : MethodName := ⟨R_Tree, "countValues", "(I)I"⟩
abbrev b_Writer_init : ByteArray := prog_5_method_1_code
def y_Writer_init : MethodName := ⟨R_Writer, "<init>", "(LValueTexts$Tree;LValueTexts$Row;)V"⟩
abbrev b_Writer_addAll : ByteArray := prog_5_method_2_code
def y_Writer_addAll : MethodName := ⟨R_Writer, "addAll", "(I)V"⟩
abbrev b_Writer_addValue : ByteArray := prog_5_method_3_code
def y_Writer_addValue : MethodName := ⟨R_Writer, "addValue", "(II)V"⟩
abbrev b_Writer_addInt : ByteArray := prog_5_method_4_code
def y_Writer_addInt : MethodName := ⟨R_Writer, "addInt", "(I)V"⟩
abbrev b_Writer_addName : ByteArray := prog_5_method_5_code
def y_Writer_addName : MethodName := ⟨R_Writer, "addName", "(I)V"⟩
abbrev b_Writer_addString : ByteArray := prog_5_method_6_code
def y_Writer_addString : MethodName := ⟨R_Writer, "addString", "(I)V"⟩
abbrev b_Writer_hexDigit : ByteArray := prog_5_method_7_code
def y_Writer_hexDigit : MethodName := ⟨R_Writer, "hexDigit", "(I)I"⟩
abbrev b_Writer_addRef : ByteArray := prog_5_method_8_code
def y_Writer_addRef : MethodName := ⟨R_Writer, "addRef", "(I)V"⟩
abbrev b_Writer_addArray : ByteArray := prog_5_method_9_code
def y_Writer_addArray : MethodName := ⟨R_Writer, "addArray", "(II)V"⟩
abbrev b_Writer_addDict : ByteArray := prog_5_method_10_code
def y_Writer_addDict : MethodName := ⟨R_Writer, "addDict", "(II)V"⟩
abbrev b_Writer_addSpaceBefore : ByteArray := prog_5_method_11_code
def y_Writer_addSpaceBefore : MethodName := ⟨R_Writer, "addSpaceBefore", "(I)V"⟩
abbrev b_Part_init : ByteArray := prog_8_method_1_code
def y_Part_init : MethodName := ⟨R_Part, "<init>", "(I)V"⟩
abbrev b_Part_parts : ByteArray := prog_8_method_2_code
def y_Part_parts : MethodName := ⟨R_Part, "parts", "()I"⟩
abbrev b_Part_get : ByteArray := prog_8_method_3_code
def y_Part_get : MethodName := ⟨R_Part, "get", "([BII)LValueTextsModel$Part;"⟩
abbrev b_Math_min : ByteArray := prog_10_method_69_code
def y_Math_min : MethodName := ⟨R_Math, "min", "(II)I"⟩
abbrev b_Str_charAt : ByteArray := prog_11_method_56_code
def y_Str_charAt : MethodName := ⟨R_Str, "charAt", "(I)C"⟩
abbrev b_Str_checkIndex : ByteArray := prog_11_method_155_code
def y_Str_checkIndex : MethodName := ⟨R_Str, "checkIndex", "(II)V"⟩
abbrev b_Str_coder : ByteArray := prog_11_method_152_code
def y_Str_coder : MethodName := ⟨R_Str, "coder", "()B"⟩
abbrev b_Str_isLatin1 : ByteArray := prog_11_method_154_code
def y_Str_isLatin1 : MethodName := ⟨R_Str, "isLatin1", "()Z"⟩
abbrev b_Str_length : ByteArray := prog_11_method_54_code
def y_Str_length : MethodName := ⟨R_Str, "length", "()I"⟩
abbrev b_SL_charAt : ByteArray := prog_12_method_2_code
def y_SL_charAt : MethodName := ⟨R_SL, "charAt", "([BI)C"⟩
abbrev b_Arr_copyOf : ByteArray := prog_15_method_121_code
def y_Arr_copyOf : MethodName := ⟨R_Arr, "copyOf", "([BI)[B"⟩
abbrev b_Arr_copyOfRange : ByteArray := prog_15_method_132_code
def y_Arr_copyOfRange : MethodName := ⟨R_Arr, "copyOfRange", "([BII)[B"⟩
abbrev b_Pre_checkIndex : ByteArray := prog_16_method_11_code
def y_Pre_checkIndex : MethodName := ⟨R_Pre, "checkIndex", "(IILjava/util/function/BiFunction;)I"⟩
abbrev b_Arr_copyOfRangeByte : ByteArray := prog_15_method_133_code
def y_Arr_copyOfRangeByte : MethodName := ⟨R_Arr, "copyOfRangeByte", "([BII)[B"⟩
abbrev b_Arr_checkLength : ByteArray := prog_15_method_131_code
def y_Arr_checkLength : MethodName := ⟨R_Arr, "checkLength", "(II)V"⟩
abbrev vwCl : List vw_C := [(R_V, F_V, 5), (R_Row, F_Row, 2), (R_Tree, F_Tree, 6), (R_Reader, F_Reader, 3), (R_Writer, F_Writer, 2), (R_M, F_M, 12), (R_Part, F_Part, 7)]
