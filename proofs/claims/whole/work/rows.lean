section
-- ===== PART A: goes FIRST, ahead of the names: the tables' words, and 'selects' of the private methods out of them =====
/-- a private method of a class that the tables say can be made, by its rows of tables_1 -/
def lw_okq (q : MethodName × Nat) : Prop := (q.1.cls ≠ "java/lang/invoke/MethodHandle" ∧ q.1.cls ≠ "java/lang/invoke/VarHandle") ∧ Cond.instantiable q.1.cls q.2 ∈ tables_1 ∧ Cond.privateMethod q.1 ∈ tables_1 ∧ Cond.instanceMethod q.1 ∈ tables_1
theorem lw_p0 : lw_okq (⟨"LateCopies$Item", "becomeNothing", "()V"⟩, 6) := ⟨⟨by decide +kernel, by decide +kernel⟩, List.mem_of_getElem? (i := 44) (by decide +kernel), List.mem_of_getElem? (i := 50) (by decide +kernel), List.mem_of_getElem? (i := 51) (by decide +kernel)⟩
theorem lw_p1 : lw_okq (⟨"LateCopies$Page", "append", "(I)V"⟩, 2) := ⟨⟨by decide +kernel, by decide +kernel⟩, List.mem_of_getElem? (i := 19) (by decide +kernel), List.mem_of_getElem? (i := 159) (by decide +kernel), List.mem_of_getElem? (i := 160) (by decide +kernel)⟩
theorem lw_p2 : lw_okq (⟨"LateCopies$Page", "firstWrongPlace", "()I"⟩, 2) := ⟨⟨by decide +kernel, by decide +kernel⟩, List.mem_of_getElem? (i := 19) (by decide +kernel), List.mem_of_getElem? (i := 171) (by decide +kernel), List.mem_of_getElem? (i := 172) (by decide +kernel)⟩
theorem lw_p3 : lw_okq (⟨"LateCopies$Page", "isLine", "()Z"⟩, 2) := ⟨⟨by decide +kernel, by decide +kernel⟩, List.mem_of_getElem? (i := 19) (by decide +kernel), List.mem_of_getElem? (i := 179) (by decide +kernel), List.mem_of_getElem? (i := 180) (by decide +kernel)⟩
theorem lw_p4 : lw_okq (⟨"LateCopies$World", "startLine", "(LLateCopies$Page;)V"⟩, 10) := ⟨⟨by decide +kernel, by decide +kernel⟩, List.mem_of_getElem? (i := 37) (by decide +kernel), List.mem_of_getElem? (i := 184) (by decide +kernel), List.mem_of_getElem? (i := 185) (by decide +kernel)⟩
theorem lw_p5 : lw_okq (⟨"LateCopies$World", "dropGone", "()I"⟩, 10) := ⟨⟨by decide +kernel, by decide +kernel⟩, List.mem_of_getElem? (i := 37) (by decide +kernel), List.mem_of_getElem? (i := 197) (by decide +kernel), List.mem_of_getElem? (i := 198) (by decide +kernel)⟩
theorem lw_p6 : lw_okq (⟨"LateCopies$World", "itemAt", "(II)LLateCopies$Item;"⟩, 10) := ⟨⟨by decide +kernel, by decide +kernel⟩, List.mem_of_getElem? (i := 37) (by decide +kernel), List.mem_of_getElem? (i := 201) (by decide +kernel), List.mem_of_getElem? (i := 202) (by decide +kernel)⟩
theorem lw_p7 : lw_okq (⟨"LateCopies$World", "isDormant", "(LLateCopies$Item;)Z"⟩, 10) := ⟨⟨by decide +kernel, by decide +kernel⟩, List.mem_of_getElem? (i := 37) (by decide +kernel), List.mem_of_getElem? (i := 205) (by decide +kernel), List.mem_of_getElem? (i := 206) (by decide +kernel)⟩
theorem lw_p8 : lw_okq (⟨"LateCopies$World", "isKept", "(LLateCopies$Item;I)Z"⟩, 10) := ⟨⟨by decide +kernel, by decide +kernel⟩, List.mem_of_getElem? (i := 37) (by decide +kernel), List.mem_of_getElem? (i := 209) (by decide +kernel), List.mem_of_getElem? (i := 210) (by decide +kernel)⟩
theorem lw_p9 : lw_okq (⟨"LateCopies$World", "knowsSite", "(I)Z"⟩, 10) := ⟨⟨by decide +kernel, by decide +kernel⟩, List.mem_of_getElem? (i := 37) (by decide +kernel), List.mem_of_getElem? (i := 217) (by decide +kernel), List.mem_of_getElem? (i := 218) (by decide +kernel)⟩
theorem lw_p10 : lw_okq (⟨"LateCopies$World", "isOff", "(I)Z"⟩, 10) := ⟨⟨by decide +kernel, by decide +kernel⟩, List.mem_of_getElem? (i := 37) (by decide +kernel), List.mem_of_getElem? (i := 224) (by decide +kernel), List.mem_of_getElem? (i := 225) (by decide +kernel)⟩
theorem lw_p11 : lw_okq (⟨"LateCopies$World", "putValue", "(III)I"⟩, 10) := ⟨⟨by decide +kernel, by decide +kernel⟩, List.mem_of_getElem? (i := 37) (by decide +kernel), List.mem_of_getElem? (i := 228) (by decide +kernel), List.mem_of_getElem? (i := 229) (by decide +kernel)⟩
theorem lw_p12 : lw_okq (⟨"LateCopies$World", "advance", "(I)I"⟩, 10) := ⟨⟨by decide +kernel, by decide +kernel⟩, List.mem_of_getElem? (i := 37) (by decide +kernel), List.mem_of_getElem? (i := 232) (by decide +kernel), List.mem_of_getElem? (i := 233) (by decide +kernel)⟩
theorem lw_p13 : lw_okq (⟨"LateCopies$Item", "becomeValue", "(III)V"⟩, 6) := ⟨⟨by decide +kernel, by decide +kernel⟩, List.mem_of_getElem? (i := 44) (by decide +kernel), List.mem_of_getElem? (i := 237) (by decide +kernel), List.mem_of_getElem? (i := 238) (by decide +kernel)⟩
theorem lw_p14 : lw_okq (⟨"LateCopies$World", "removeValue", "(III)I"⟩, 10) := ⟨⟨by decide +kernel, by decide +kernel⟩, List.mem_of_getElem? (i := 37) (by decide +kernel), List.mem_of_getElem? (i := 246) (by decide +kernel), List.mem_of_getElem? (i := 247) (by decide +kernel)⟩
theorem lw_p15 : lw_okq (⟨"LateCopies$World", "keepersOf", "(II)I"⟩, 10) := ⟨⟨by decide +kernel, by decide +kernel⟩, List.mem_of_getElem? (i := 37) (by decide +kernel), List.mem_of_getElem? (i := 250) (by decide +kernel), List.mem_of_getElem? (i := 251) (by decide +kernel)⟩
def lw_privs_1 : List (MethodName × Nat) := [(⟨"LateCopies$Item", "becomeNothing", "()V"⟩, 6), (⟨"LateCopies$Page", "append", "(I)V"⟩, 2), (⟨"LateCopies$Page", "firstWrongPlace", "()I"⟩, 2), (⟨"LateCopies$Page", "isLine", "()Z"⟩, 2), (⟨"LateCopies$World", "startLine", "(LLateCopies$Page;)V"⟩, 10), (⟨"LateCopies$World", "dropGone", "()I"⟩, 10), (⟨"LateCopies$World", "itemAt", "(II)LLateCopies$Item;"⟩, 10), (⟨"LateCopies$World", "isDormant", "(LLateCopies$Item;)Z"⟩, 10), (⟨"LateCopies$World", "isKept", "(LLateCopies$Item;I)Z"⟩, 10), (⟨"LateCopies$World", "knowsSite", "(I)Z"⟩, 10), (⟨"LateCopies$World", "isOff", "(I)Z"⟩, 10), (⟨"LateCopies$World", "putValue", "(III)I"⟩, 10), (⟨"LateCopies$World", "advance", "(I)I"⟩, 10), (⟨"LateCopies$Item", "becomeValue", "(III)V"⟩, 6), (⟨"LateCopies$World", "removeValue", "(III)I"⟩, 10), (⟨"LateCopies$World", "keepersOf", "(II)I"⟩, 10)]
theorem lw_r1 : ∀ q ∈ lw_privs_1, lw_okq q := List.forall_mem_cons.mpr ⟨lw_p0, List.forall_mem_cons.mpr ⟨lw_p1, List.forall_mem_cons.mpr ⟨lw_p2, List.forall_mem_cons.mpr ⟨lw_p3, List.forall_mem_cons.mpr ⟨lw_p4, List.forall_mem_cons.mpr ⟨lw_p5, List.forall_mem_cons.mpr ⟨lw_p6, List.forall_mem_cons.mpr ⟨lw_p7, List.forall_mem_cons.mpr ⟨lw_p8, List.forall_mem_cons.mpr ⟨lw_p9, List.forall_mem_cons.mpr ⟨lw_p10, List.forall_mem_cons.mpr ⟨lw_p11, List.forall_mem_cons.mpr ⟨lw_p12, List.forall_mem_cons.mpr ⟨lw_p13, List.forall_mem_cons.mpr ⟨lw_p14, List.forall_mem_cons.mpr ⟨lw_p15, fun _ h => absurd h List.not_mem_nil⟩⟩⟩⟩⟩⟩⟩⟩⟩⟩⟩⟩⟩⟩⟩⟩
theorem lw_p16 : lw_okq (⟨"LateCopies$World", "othersOf", "(I)I"⟩, 10) := ⟨⟨by decide +kernel, by decide +kernel⟩, List.mem_of_getElem? (i := 37) (by decide +kernel), List.mem_of_getElem? (i := 254) (by decide +kernel), List.mem_of_getElem? (i := 255) (by decide +kernel)⟩
theorem lw_p17 : lw_okq (⟨"LateCopies$World", "nearest", "(II)I"⟩, 10) := ⟨⟨by decide +kernel, by decide +kernel⟩, List.mem_of_getElem? (i := 37) (by decide +kernel), List.mem_of_getElem? (i := 258) (by decide +kernel), List.mem_of_getElem? (i := 259) (by decide +kernel)⟩
theorem lw_p18 : lw_okq (⟨"LateCopies$Item", "becomeCertificate", "(III)V"⟩, 6) := ⟨⟨by decide +kernel, by decide +kernel⟩, List.mem_of_getElem? (i := 44) (by decide +kernel), List.mem_of_getElem? (i := 265) (by decide +kernel), List.mem_of_getElem? (i := 266) (by decide +kernel)⟩
theorem lw_p19 : lw_okq (⟨"LateCopies", "refusalOfPair", "(II)I"⟩, 4) := ⟨⟨by decide +kernel, by decide +kernel⟩, List.mem_of_getElem? (i := 11) (by decide +kernel), List.mem_of_getElem? (i := 282) (by decide +kernel), List.mem_of_getElem? (i := 283) (by decide +kernel)⟩
theorem lw_p20 : lw_okq (⟨"LateCopies$World", "compareAll", "(II)I"⟩, 10) := ⟨⟨by decide +kernel, by decide +kernel⟩, List.mem_of_getElem? (i := 37) (by decide +kernel), List.mem_of_getElem? (i := 286) (by decide +kernel), List.mem_of_getElem? (i := 287) (by decide +kernel)⟩
theorem lw_p21 : lw_okq (⟨"LateCopies$World", "recentKeys", "(II)I"⟩, 10) := ⟨⟨by decide +kernel, by decide +kernel⟩, List.mem_of_getElem? (i := 37) (by decide +kernel), List.mem_of_getElem? (i := 290) (by decide +kernel), List.mem_of_getElem? (i := 291) (by decide +kernel)⟩
theorem lw_p22 : lw_okq (⟨"LateCopies$World", "isRecent", "(LLateCopies$Item;)Z"⟩, 10) := ⟨⟨by decide +kernel, by decide +kernel⟩, List.mem_of_getElem? (i := 37) (by decide +kernel), List.mem_of_getElem? (i := 294) (by decide +kernel), List.mem_of_getElem? (i := 295) (by decide +kernel)⟩
theorem lw_p23 : lw_okq (⟨"LateCopies$World", "isAwake", "(LLateCopies$Item;)Z"⟩, 10) := ⟨⟨by decide +kernel, by decide +kernel⟩, List.mem_of_getElem? (i := 37) (by decide +kernel), List.mem_of_getElem? (i := 298) (by decide +kernel), List.mem_of_getElem? (i := 299) (by decide +kernel)⟩
theorem lw_p24 : lw_okq (⟨"LateCopies$World", "meetKeys", "(III)I"⟩, 10) := ⟨⟨by decide +kernel, by decide +kernel⟩, List.mem_of_getElem? (i := 37) (by decide +kernel), List.mem_of_getElem? (i := 302) (by decide +kernel), List.mem_of_getElem? (i := 303) (by decide +kernel)⟩
theorem lw_p25 : lw_okq (⟨"LateCopies$World", "meet", "(LLateCopies$Item;LLateCopies$Item;)I"⟩, 10) := ⟨⟨by decide +kernel, by decide +kernel⟩, List.mem_of_getElem? (i := 37) (by decide +kernel), List.mem_of_getElem? (i := 306) (by decide +kernel), List.mem_of_getElem? (i := 307) (by decide +kernel)⟩
theorem lw_p26 : lw_okq (⟨"LateCopies$Item", "isItemBelow", "(I)Z"⟩, 6) := ⟨⟨by decide +kernel, by decide +kernel⟩, List.mem_of_getElem? (i := 44) (by decide +kernel), List.mem_of_getElem? (i := 310) (by decide +kernel), List.mem_of_getElem? (i := 311) (by decide +kernel)⟩
theorem lw_p27 : lw_okq (⟨"LateCopies$World", "wake", "(LLateCopies$Item;)V"⟩, 10) := ⟨⟨by decide +kernel, by decide +kernel⟩, List.mem_of_getElem? (i := 37) (by decide +kernel), List.mem_of_getElem? (i := 314) (by decide +kernel), List.mem_of_getElem? (i := 315) (by decide +kernel)⟩
theorem lw_p28 : lw_okq (⟨"LateCopies$Item", "isNewer", "(LLateCopies$Item;)Z"⟩, 6) := ⟨⟨by decide +kernel, by decide +kernel⟩, List.mem_of_getElem? (i := 44) (by decide +kernel), List.mem_of_getElem? (i := 318) (by decide +kernel), List.mem_of_getElem? (i := 319) (by decide +kernel)⟩
theorem lw_p29 : lw_okq (⟨"LateCopies$Item", "becomeCopy", "(LLateCopies$Item;I)V"⟩, 6) := ⟨⟨by decide +kernel, by decide +kernel⟩, List.mem_of_getElem? (i := 44) (by decide +kernel), List.mem_of_getElem? (i := 322) (by decide +kernel), List.mem_of_getElem? (i := 323) (by decide +kernel)⟩
theorem lw_p30 : lw_okq (⟨"LateCopies$World", "areAlike", "(II)Z"⟩, 10) := ⟨⟨by decide +kernel, by decide +kernel⟩, List.mem_of_getElem? (i := 37) (by decide +kernel), List.mem_of_getElem? (i := 326) (by decide +kernel), List.mem_of_getElem? (i := 327) (by decide +kernel)⟩
theorem lw_p31 : lw_okq (⟨"LateCopies$World", "isSame", "(LLateCopies$Item;LLateCopies$Item;)Z"⟩, 10) := ⟨⟨by decide +kernel, by decide +kernel⟩, List.mem_of_getElem? (i := 37) (by decide +kernel), List.mem_of_getElem? (i := 330) (by decide +kernel), List.mem_of_getElem? (i := 331) (by decide +kernel)⟩
def lw_privs_2 : List (MethodName × Nat) := [(⟨"LateCopies$World", "othersOf", "(I)I"⟩, 10), (⟨"LateCopies$World", "nearest", "(II)I"⟩, 10), (⟨"LateCopies$Item", "becomeCertificate", "(III)V"⟩, 6), (⟨"LateCopies", "refusalOfPair", "(II)I"⟩, 4), (⟨"LateCopies$World", "compareAll", "(II)I"⟩, 10), (⟨"LateCopies$World", "recentKeys", "(II)I"⟩, 10), (⟨"LateCopies$World", "isRecent", "(LLateCopies$Item;)Z"⟩, 10), (⟨"LateCopies$World", "isAwake", "(LLateCopies$Item;)Z"⟩, 10), (⟨"LateCopies$World", "meetKeys", "(III)I"⟩, 10), (⟨"LateCopies$World", "meet", "(LLateCopies$Item;LLateCopies$Item;)I"⟩, 10), (⟨"LateCopies$Item", "isItemBelow", "(I)Z"⟩, 6), (⟨"LateCopies$World", "wake", "(LLateCopies$Item;)V"⟩, 10), (⟨"LateCopies$Item", "isNewer", "(LLateCopies$Item;)Z"⟩, 6), (⟨"LateCopies$Item", "becomeCopy", "(LLateCopies$Item;I)V"⟩, 6), (⟨"LateCopies$World", "areAlike", "(II)Z"⟩, 10), (⟨"LateCopies$World", "isSame", "(LLateCopies$Item;LLateCopies$Item;)Z"⟩, 10)]
theorem lw_r2 : ∀ q ∈ lw_privs_2, lw_okq q := List.forall_mem_cons.mpr ⟨lw_p16, List.forall_mem_cons.mpr ⟨lw_p17, List.forall_mem_cons.mpr ⟨lw_p18, List.forall_mem_cons.mpr ⟨lw_p19, List.forall_mem_cons.mpr ⟨lw_p20, List.forall_mem_cons.mpr ⟨lw_p21, List.forall_mem_cons.mpr ⟨lw_p22, List.forall_mem_cons.mpr ⟨lw_p23, List.forall_mem_cons.mpr ⟨lw_p24, List.forall_mem_cons.mpr ⟨lw_p25, List.forall_mem_cons.mpr ⟨lw_p26, List.forall_mem_cons.mpr ⟨lw_p27, List.forall_mem_cons.mpr ⟨lw_p28, List.forall_mem_cons.mpr ⟨lw_p29, List.forall_mem_cons.mpr ⟨lw_p30, List.forall_mem_cons.mpr ⟨lw_p31, fun _ h => absurd h List.not_mem_nil⟩⟩⟩⟩⟩⟩⟩⟩⟩⟩⟩⟩⟩⟩⟩⟩
theorem lw_p32 : lw_okq (⟨"LateCopies$World", "tellHot", "(II)I"⟩, 10) := ⟨⟨by decide +kernel, by decide +kernel⟩, List.mem_of_getElem? (i := 37) (by decide +kernel), List.mem_of_getElem? (i := 338) (by decide +kernel), List.mem_of_getElem? (i := 339) (by decide +kernel)⟩
theorem lw_p33 : lw_okq (⟨"LateCopies$World", "tell", "(LLateCopies$Item;LLateCopies$Item;)I"⟩, 10) := ⟨⟨by decide +kernel, by decide +kernel⟩, List.mem_of_getElem? (i := 37) (by decide +kernel), List.mem_of_getElem? (i := 342) (by decide +kernel), List.mem_of_getElem? (i := 343) (by decide +kernel)⟩
theorem lw_p34 : lw_okq (⟨"LateCopies$World", "newestKey", "(II)I"⟩, 10) := ⟨⟨by decide +kernel, by decide +kernel⟩, List.mem_of_getElem? (i := 37) (by decide +kernel), List.mem_of_getElem? (i := 355) (by decide +kernel), List.mem_of_getElem? (i := 356) (by decide +kernel)⟩
theorem lw_p35 : lw_okq (⟨"LateCopies$World", "risenSites", "(I)I"⟩, 10) := ⟨⟨by decide +kernel, by decide +kernel⟩, List.mem_of_getElem? (i := 37) (by decide +kernel), List.mem_of_getElem? (i := 368) (by decide +kernel), List.mem_of_getElem? (i := 369) (by decide +kernel)⟩
theorem lw_p36 : lw_okq (⟨"LateCopies$World", "othersOn", "(I)I"⟩, 10) := ⟨⟨by decide +kernel, by decide +kernel⟩, List.mem_of_getElem? (i := 37) (by decide +kernel), List.mem_of_getElem? (i := 376) (by decide +kernel), List.mem_of_getElem? (i := 377) (by decide +kernel)⟩
theorem lw_p37 : lw_okq (⟨"LateCopies$World", "partnerBy", "(II)I"⟩, 10) := ⟨⟨by decide +kernel, by decide +kernel⟩, List.mem_of_getElem? (i := 37) (by decide +kernel), List.mem_of_getElem? (i := 386) (by decide +kernel), List.mem_of_getElem? (i := 387) (by decide +kernel)⟩
theorem lw_p38 : lw_okq (⟨"LateCopies$Settling", "run", "(LLateCopies$World;IZ)V"⟩, 3) := ⟨⟨by decide +kernel, by decide +kernel⟩, List.mem_of_getElem? (i := 124) (by decide +kernel), List.mem_of_getElem? (i := 407) (by decide +kernel), List.mem_of_getElem? (i := 408) (by decide +kernel)⟩
theorem lw_p39 : lw_okq (⟨"LateCopies$World", "startTrial", "(LLateCopies$World;)V"⟩, 10) := ⟨⟨by decide +kernel, by decide +kernel⟩, List.mem_of_getElem? (i := 37) (by decide +kernel), List.mem_of_getElem? (i := 411) (by decide +kernel), List.mem_of_getElem? (i := 412) (by decide +kernel)⟩
theorem lw_p40 : lw_okq (⟨"LateCopies$World", "allOnAlike", "()Z"⟩, 10) := ⟨⟨by decide +kernel, by decide +kernel⟩, List.mem_of_getElem? (i := 37) (by decide +kernel), List.mem_of_getElem? (i := 418) (by decide +kernel), List.mem_of_getElem? (i := 419) (by decide +kernel)⟩
theorem lw_p41 : lw_okq (⟨"LateCopies$Settling", "playRound", "(Z)V"⟩, 3) := ⟨⟨by decide +kernel, by decide +kernel⟩, List.mem_of_getElem? (i := 124) (by decide +kernel), List.mem_of_getElem? (i := 423) (by decide +kernel), List.mem_of_getElem? (i := 424) (by decide +kernel)⟩
theorem lw_p42 : lw_okq (⟨"LateCopies$Settling", "outcome", "(I)I"⟩, 3) := ⟨⟨by decide +kernel, by decide +kernel⟩, List.mem_of_getElem? (i := 124) (by decide +kernel), List.mem_of_getElem? (i := 434) (by decide +kernel), List.mem_of_getElem? (i := 435) (by decide +kernel)⟩
theorem lw_p43 : lw_okq (⟨"LateCopies", "mixSite", "(JI)J"⟩, 4) := ⟨⟨by decide +kernel, by decide +kernel⟩, List.mem_of_getElem? (i := 11) (by decide +kernel), List.mem_of_getElem? (i := 447) (by decide +kernel), List.mem_of_getElem? (i := 448) (by decide +kernel)⟩
theorem lw_p44 : lw_okq (⟨"LateCopiesModel", "clear", "(I)V"⟩, 23) := ⟨⟨by decide +kernel, by decide +kernel⟩, List.mem_of_getElem? (i := 460) (by decide +kernel), List.mem_of_getElem? (i := 556) (by decide +kernel), List.mem_of_getElem? (i := 557) (by decide +kernel)⟩
theorem lw_p45 : lw_okq (⟨"LateCopiesModel", "purge", "()I"⟩, 23) := ⟨⟨by decide +kernel, by decide +kernel⟩, List.mem_of_getElem? (i := 460) (by decide +kernel), List.mem_of_getElem? (i := 570) (by decide +kernel), List.mem_of_getElem? (i := 571) (by decide +kernel)⟩
theorem lw_p46 : lw_okq (⟨"LateCopiesModel", "isDormant", "(I)Z"⟩, 23) := ⟨⟨by decide +kernel, by decide +kernel⟩, List.mem_of_getElem? (i := 460) (by decide +kernel), List.mem_of_getElem? (i := 577) (by decide +kernel), List.mem_of_getElem? (i := 578) (by decide +kernel)⟩
theorem lw_p47 : lw_okq (⟨"LateCopiesModel", "isSite", "(I)Z"⟩, 23) := ⟨⟨by decide +kernel, by decide +kernel⟩, List.mem_of_getElem? (i := 460) (by decide +kernel), List.mem_of_getElem? (i := 585) (by decide +kernel), List.mem_of_getElem? (i := 586) (by decide +kernel)⟩
def lw_privs_3 : List (MethodName × Nat) := [(⟨"LateCopies$World", "tellHot", "(II)I"⟩, 10), (⟨"LateCopies$World", "tell", "(LLateCopies$Item;LLateCopies$Item;)I"⟩, 10), (⟨"LateCopies$World", "newestKey", "(II)I"⟩, 10), (⟨"LateCopies$World", "risenSites", "(I)I"⟩, 10), (⟨"LateCopies$World", "othersOn", "(I)I"⟩, 10), (⟨"LateCopies$World", "partnerBy", "(II)I"⟩, 10), (⟨"LateCopies$Settling", "run", "(LLateCopies$World;IZ)V"⟩, 3), (⟨"LateCopies$World", "startTrial", "(LLateCopies$World;)V"⟩, 10), (⟨"LateCopies$World", "allOnAlike", "()Z"⟩, 10), (⟨"LateCopies$Settling", "playRound", "(Z)V"⟩, 3), (⟨"LateCopies$Settling", "outcome", "(I)I"⟩, 3), (⟨"LateCopies", "mixSite", "(JI)J"⟩, 4), (⟨"LateCopiesModel", "clear", "(I)V"⟩, 23), (⟨"LateCopiesModel", "purge", "()I"⟩, 23), (⟨"LateCopiesModel", "isDormant", "(I)Z"⟩, 23), (⟨"LateCopiesModel", "isSite", "(I)Z"⟩, 23)]
theorem lw_r3 : ∀ q ∈ lw_privs_3, lw_okq q := List.forall_mem_cons.mpr ⟨lw_p32, List.forall_mem_cons.mpr ⟨lw_p33, List.forall_mem_cons.mpr ⟨lw_p34, List.forall_mem_cons.mpr ⟨lw_p35, List.forall_mem_cons.mpr ⟨lw_p36, List.forall_mem_cons.mpr ⟨lw_p37, List.forall_mem_cons.mpr ⟨lw_p38, List.forall_mem_cons.mpr ⟨lw_p39, List.forall_mem_cons.mpr ⟨lw_p40, List.forall_mem_cons.mpr ⟨lw_p41, List.forall_mem_cons.mpr ⟨lw_p42, List.forall_mem_cons.mpr ⟨lw_p43, List.forall_mem_cons.mpr ⟨lw_p44, List.forall_mem_cons.mpr ⟨lw_p45, List.forall_mem_cons.mpr ⟨lw_p46, List.forall_mem_cons.mpr ⟨lw_p47, fun _ h => absurd h List.not_mem_nil⟩⟩⟩⟩⟩⟩⟩⟩⟩⟩⟩⟩⟩⟩⟩⟩
theorem lw_p48 : lw_okq (⟨"LateCopiesModel", "near", "(II)I"⟩, 23) := ⟨⟨by decide +kernel, by decide +kernel⟩, List.mem_of_getElem? (i := 460) (by decide +kernel), List.mem_of_getElem? (i := 596) (by decide +kernel), List.mem_of_getElem? (i := 597) (by decide +kernel)⟩
theorem lw_p49 : lw_okq (⟨"LateCopiesModel", "nearest", "(II)I"⟩, 23) := ⟨⟨by decide +kernel, by decide +kernel⟩, List.mem_of_getElem? (i := 460) (by decide +kernel), List.mem_of_getElem? (i := 600) (by decide +kernel), List.mem_of_getElem? (i := 601) (by decide +kernel)⟩
theorem lw_p50 : lw_okq (⟨"LateCopiesModel", "areTwo", "(II)Z"⟩, 23) := ⟨⟨by decide +kernel, by decide +kernel⟩, List.mem_of_getElem? (i := 460) (by decide +kernel), List.mem_of_getElem? (i := 619) (by decide +kernel), List.mem_of_getElem? (i := 620) (by decide +kernel)⟩
theorem lw_p51 : lw_okq (⟨"LateCopiesModel", "exchangeNow", "(II)I"⟩, 23) := ⟨⟨by decide +kernel, by decide +kernel⟩, List.mem_of_getElem? (i := 460) (by decide +kernel), List.mem_of_getElem? (i := 623) (by decide +kernel), List.mem_of_getElem? (i := 624) (by decide +kernel)⟩
theorem lw_p52 : lw_okq (⟨"LateCopiesModel", "isRecent", "(I)Z"⟩, 23) := ⟨⟨by decide +kernel, by decide +kernel⟩, List.mem_of_getElem? (i := 460) (by decide +kernel), List.mem_of_getElem? (i := 627) (by decide +kernel), List.mem_of_getElem? (i := 628) (by decide +kernel)⟩
theorem lw_p53 : lw_okq (⟨"LateCopiesModel", "isAwake", "(I)Z"⟩, 23) := ⟨⟨by decide +kernel, by decide +kernel⟩, List.mem_of_getElem? (i := 460) (by decide +kernel), List.mem_of_getElem? (i := 631) (by decide +kernel), List.mem_of_getElem? (i := 632) (by decide +kernel)⟩
theorem lw_p54 : lw_okq (⟨"LateCopiesModel", "meetAll", "(III)I"⟩, 23) := ⟨⟨by decide +kernel, by decide +kernel⟩, List.mem_of_getElem? (i := 460) (by decide +kernel), List.mem_of_getElem? (i := 635) (by decide +kernel), List.mem_of_getElem? (i := 636) (by decide +kernel)⟩
theorem lw_p55 : lw_okq (⟨"LateCopiesModel", "meet", "(III)I"⟩, 23) := ⟨⟨by decide +kernel, by decide +kernel⟩, List.mem_of_getElem? (i := 460) (by decide +kernel), List.mem_of_getElem? (i := 639) (by decide +kernel), List.mem_of_getElem? (i := 640) (by decide +kernel)⟩
theorem lw_p56 : lw_okq (⟨"LateCopiesModel", "wakes", "(II)Z"⟩, 23) := ⟨⟨by decide +kernel, by decide +kernel⟩, List.mem_of_getElem? (i := 460) (by decide +kernel), List.mem_of_getElem? (i := 643) (by decide +kernel), List.mem_of_getElem? (i := 644) (by decide +kernel)⟩
theorem lw_p57 : lw_okq (⟨"LateCopiesModel", "wake", "(I)V"⟩, 23) := ⟨⟨by decide +kernel, by decide +kernel⟩, List.mem_of_getElem? (i := 460) (by decide +kernel), List.mem_of_getElem? (i := 647) (by decide +kernel), List.mem_of_getElem? (i := 648) (by decide +kernel)⟩
theorem lw_p58 : lw_okq (⟨"LateCopiesModel", "goes", "(II)I"⟩, 23) := ⟨⟨by decide +kernel, by decide +kernel⟩, List.mem_of_getElem? (i := 460) (by decide +kernel), List.mem_of_getElem? (i := 651) (by decide +kernel), List.mem_of_getElem? (i := 652) (by decide +kernel)⟩
theorem lw_p59 : lw_okq (⟨"LateCopiesModel", "isNewer", "(II)Z"⟩, 23) := ⟨⟨by decide +kernel, by decide +kernel⟩, List.mem_of_getElem? (i := 460) (by decide +kernel), List.mem_of_getElem? (i := 655) (by decide +kernel), List.mem_of_getElem? (i := 656) (by decide +kernel)⟩
theorem lw_p60 : lw_okq (⟨"LateCopiesModel", "copy", "(III)V"⟩, 23) := ⟨⟨by decide +kernel, by decide +kernel⟩, List.mem_of_getElem? (i := 460) (by decide +kernel), List.mem_of_getElem? (i := 659) (by decide +kernel), List.mem_of_getElem? (i := 660) (by decide +kernel)⟩
theorem lw_p61 : lw_okq (⟨"LateCopiesModel", "areAlike", "(II)Z"⟩, 23) := ⟨⟨by decide +kernel, by decide +kernel⟩, List.mem_of_getElem? (i := 460) (by decide +kernel), List.mem_of_getElem? (i := 663) (by decide +kernel), List.mem_of_getElem? (i := 664) (by decide +kernel)⟩
theorem lw_p62 : lw_okq (⟨"LateCopiesModel", "areSame", "(II)Z"⟩, 23) := ⟨⟨by decide +kernel, by decide +kernel⟩, List.mem_of_getElem? (i := 460) (by decide +kernel), List.mem_of_getElem? (i := 667) (by decide +kernel), List.mem_of_getElem? (i := 668) (by decide +kernel)⟩
theorem lw_p63 : lw_okq (⟨"LateCopiesModel", "rumourNow", "(II)I"⟩, 23) := ⟨⟨by decide +kernel, by decide +kernel⟩, List.mem_of_getElem? (i := 460) (by decide +kernel), List.mem_of_getElem? (i := 675) (by decide +kernel), List.mem_of_getElem? (i := 676) (by decide +kernel)⟩
def lw_privs_4 : List (MethodName × Nat) := [(⟨"LateCopiesModel", "near", "(II)I"⟩, 23), (⟨"LateCopiesModel", "nearest", "(II)I"⟩, 23), (⟨"LateCopiesModel", "areTwo", "(II)Z"⟩, 23), (⟨"LateCopiesModel", "exchangeNow", "(II)I"⟩, 23), (⟨"LateCopiesModel", "isRecent", "(I)Z"⟩, 23), (⟨"LateCopiesModel", "isAwake", "(I)Z"⟩, 23), (⟨"LateCopiesModel", "meetAll", "(III)I"⟩, 23), (⟨"LateCopiesModel", "meet", "(III)I"⟩, 23), (⟨"LateCopiesModel", "wakes", "(II)Z"⟩, 23), (⟨"LateCopiesModel", "wake", "(I)V"⟩, 23), (⟨"LateCopiesModel", "goes", "(II)I"⟩, 23), (⟨"LateCopiesModel", "isNewer", "(II)Z"⟩, 23), (⟨"LateCopiesModel", "copy", "(III)V"⟩, 23), (⟨"LateCopiesModel", "areAlike", "(II)Z"⟩, 23), (⟨"LateCopiesModel", "areSame", "(II)Z"⟩, 23), (⟨"LateCopiesModel", "rumourNow", "(II)I"⟩, 23)]
theorem lw_r4 : ∀ q ∈ lw_privs_4, lw_okq q := List.forall_mem_cons.mpr ⟨lw_p48, List.forall_mem_cons.mpr ⟨lw_p49, List.forall_mem_cons.mpr ⟨lw_p50, List.forall_mem_cons.mpr ⟨lw_p51, List.forall_mem_cons.mpr ⟨lw_p52, List.forall_mem_cons.mpr ⟨lw_p53, List.forall_mem_cons.mpr ⟨lw_p54, List.forall_mem_cons.mpr ⟨lw_p55, List.forall_mem_cons.mpr ⟨lw_p56, List.forall_mem_cons.mpr ⟨lw_p57, List.forall_mem_cons.mpr ⟨lw_p58, List.forall_mem_cons.mpr ⟨lw_p59, List.forall_mem_cons.mpr ⟨lw_p60, List.forall_mem_cons.mpr ⟨lw_p61, List.forall_mem_cons.mpr ⟨lw_p62, List.forall_mem_cons.mpr ⟨lw_p63, fun _ h => absurd h List.not_mem_nil⟩⟩⟩⟩⟩⟩⟩⟩⟩⟩⟩⟩⟩⟩⟩⟩
theorem lw_p64 : lw_okq (⟨"LateCopiesModel", "tell", "(II)I"⟩, 23) := ⟨⟨by decide +kernel, by decide +kernel⟩, List.mem_of_getElem? (i := 460) (by decide +kernel), List.mem_of_getElem? (i := 679) (by decide +kernel), List.mem_of_getElem? (i := 680) (by decide +kernel)⟩
theorem lw_p65 : lw_okq (⟨"LateCopiesModel", "itemNow", "(II)I"⟩, 23) := ⟨⟨by decide +kernel, by decide +kernel⟩, List.mem_of_getElem? (i := 460) (by decide +kernel), List.mem_of_getElem? (i := 687) (by decide +kernel), List.mem_of_getElem? (i := 688) (by decide +kernel)⟩
theorem lw_p66 : lw_okq (⟨"LateCopiesModel", "newestNow", "(II)I"⟩, 23) := ⟨⟨by decide +kernel, by decide +kernel⟩, List.mem_of_getElem? (i := 460) (by decide +kernel), List.mem_of_getElem? (i := 695) (by decide +kernel), List.mem_of_getElem? (i := 696) (by decide +kernel)⟩
theorem lw_p67 : lw_okq (⟨"LateCopiesModel", "risenNow", "(I)I"⟩, 23) := ⟨⟨by decide +kernel, by decide +kernel⟩, List.mem_of_getElem? (i := 460) (by decide +kernel), List.mem_of_getElem? (i := 707) (by decide +kernel), List.mem_of_getElem? (i := 708) (by decide +kernel)⟩
theorem lw_p68 : lw_okq (⟨"LateCopiesModel", "partnerNow", "(I)I"⟩, 23) := ⟨⟨by decide +kernel, by decide +kernel⟩, List.mem_of_getElem? (i := 460) (by decide +kernel), List.mem_of_getElem? (i := 715) (by decide +kernel), List.mem_of_getElem? (i := 716) (by decide +kernel)⟩
theorem lw_p69 : lw_okq (⟨"LateCopiesModel", "draw", "(I)I"⟩, 23) := ⟨⟨by decide +kernel, by decide +kernel⟩, List.mem_of_getElem? (i := 460) (by decide +kernel), List.mem_of_getElem? (i := 722) (by decide +kernel), List.mem_of_getElem? (i := 723) (by decide +kernel)⟩
theorem lw_p70 : lw_okq (⟨"LateCopiesModel", "laySettling", "(IZ)V"⟩, 23) := ⟨⟨by decide +kernel, by decide +kernel⟩, List.mem_of_getElem? (i := 460) (by decide +kernel), List.mem_of_getElem? (i := 734) (by decide +kernel), List.mem_of_getElem? (i := 735) (by decide +kernel)⟩
theorem lw_p71 : lw_okq (⟨"LateCopiesModel", "save", "()V"⟩, 23) := ⟨⟨by decide +kernel, by decide +kernel⟩, List.mem_of_getElem? (i := 460) (by decide +kernel), List.mem_of_getElem? (i := 738) (by decide +kernel), List.mem_of_getElem? (i := 739) (by decide +kernel)⟩
theorem lw_p72 : lw_okq (⟨"LateCopiesModel", "areAllAlike", "()Z"⟩, 23) := ⟨⟨by decide +kernel, by decide +kernel⟩, List.mem_of_getElem? (i := 460) (by decide +kernel), List.mem_of_getElem? (i := 742) (by decide +kernel), List.mem_of_getElem? (i := 743) (by decide +kernel)⟩
theorem lw_p73 : lw_okq (⟨"LateCopiesModel", "goRound", "(Z)V"⟩, 23) := ⟨⟨by decide +kernel, by decide +kernel⟩, List.mem_of_getElem? (i := 460) (by decide +kernel), List.mem_of_getElem? (i := 746) (by decide +kernel), List.mem_of_getElem? (i := 747) (by decide +kernel)⟩
theorem lw_p74 : lw_okq (⟨"LateCopiesModel", "back", "()V"⟩, 23) := ⟨⟨by decide +kernel, by decide +kernel⟩, List.mem_of_getElem? (i := 460) (by decide +kernel), List.mem_of_getElem? (i := 750) (by decide +kernel), List.mem_of_getElem? (i := 751) (by decide +kernel)⟩
theorem lw_p75 : lw_okq (⟨"LateCopiesModel", "settledNow", "(I)I"⟩, 23) := ⟨⟨by decide +kernel, by decide +kernel⟩, List.mem_of_getElem? (i := 460) (by decide +kernel), List.mem_of_getElem? (i := 754) (by decide +kernel), List.mem_of_getElem? (i := 755) (by decide +kernel)⟩
theorem lw_p76 : lw_okq (⟨"LateCopiesModel", "howMany", "(I)I"⟩, 23) := ⟨⟨by decide +kernel, by decide +kernel⟩, List.mem_of_getElem? (i := 460) (by decide +kernel), List.mem_of_getElem? (i := 762) (by decide +kernel), List.mem_of_getElem? (i := 763) (by decide +kernel)⟩
theorem lw_p77 : lw_okq (⟨"LateCopiesModel", "mixSite", "(I)V"⟩, 23) := ⟨⟨by decide +kernel, by decide +kernel⟩, List.mem_of_getElem? (i := 460) (by decide +kernel), List.mem_of_getElem? (i := 771) (by decide +kernel), List.mem_of_getElem? (i := 772) (by decide +kernel)⟩
theorem lw_p78 : lw_okq (⟨"LateCopiesModel", "mix", "(J)V"⟩, 23) := ⟨⟨by decide +kernel, by decide +kernel⟩, List.mem_of_getElem? (i := 460) (by decide +kernel), List.mem_of_getElem? (i := 775) (by decide +kernel), List.mem_of_getElem? (i := 776) (by decide +kernel)⟩
theorem lw_p79 : lw_okq (⟨"LateCopiesModel", "mixSettling", "(Z)V"⟩, 23) := ⟨⟨by decide +kernel, by decide +kernel⟩, List.mem_of_getElem? (i := 460) (by decide +kernel), List.mem_of_getElem? (i := 780) (by decide +kernel), List.mem_of_getElem? (i := 781) (by decide +kernel)⟩
def lw_privs_5 : List (MethodName × Nat) := [(⟨"LateCopiesModel", "tell", "(II)I"⟩, 23), (⟨"LateCopiesModel", "itemNow", "(II)I"⟩, 23), (⟨"LateCopiesModel", "newestNow", "(II)I"⟩, 23), (⟨"LateCopiesModel", "risenNow", "(I)I"⟩, 23), (⟨"LateCopiesModel", "partnerNow", "(I)I"⟩, 23), (⟨"LateCopiesModel", "draw", "(I)I"⟩, 23), (⟨"LateCopiesModel", "laySettling", "(IZ)V"⟩, 23), (⟨"LateCopiesModel", "save", "()V"⟩, 23), (⟨"LateCopiesModel", "areAllAlike", "()Z"⟩, 23), (⟨"LateCopiesModel", "goRound", "(Z)V"⟩, 23), (⟨"LateCopiesModel", "back", "()V"⟩, 23), (⟨"LateCopiesModel", "settledNow", "(I)I"⟩, 23), (⟨"LateCopiesModel", "howMany", "(I)I"⟩, 23), (⟨"LateCopiesModel", "mixSite", "(I)V"⟩, 23), (⟨"LateCopiesModel", "mix", "(J)V"⟩, 23), (⟨"LateCopiesModel", "mixSettling", "(Z)V"⟩, 23)]
theorem lw_r5 : ∀ q ∈ lw_privs_5, lw_okq q := List.forall_mem_cons.mpr ⟨lw_p64, List.forall_mem_cons.mpr ⟨lw_p65, List.forall_mem_cons.mpr ⟨lw_p66, List.forall_mem_cons.mpr ⟨lw_p67, List.forall_mem_cons.mpr ⟨lw_p68, List.forall_mem_cons.mpr ⟨lw_p69, List.forall_mem_cons.mpr ⟨lw_p70, List.forall_mem_cons.mpr ⟨lw_p71, List.forall_mem_cons.mpr ⟨lw_p72, List.forall_mem_cons.mpr ⟨lw_p73, List.forall_mem_cons.mpr ⟨lw_p74, List.forall_mem_cons.mpr ⟨lw_p75, List.forall_mem_cons.mpr ⟨lw_p76, List.forall_mem_cons.mpr ⟨lw_p77, List.forall_mem_cons.mpr ⟨lw_p78, List.forall_mem_cons.mpr ⟨lw_p79, fun _ h => absurd h List.not_mem_nil⟩⟩⟩⟩⟩⟩⟩⟩⟩⟩⟩⟩⟩⟩⟩⟩
def lw_privs : List (MethodName × Nat) := lw_privs_1 ++ (lw_privs_2 ++ (lw_privs_3 ++ (lw_privs_4 ++ (lw_privs_5))))
def lw_tbl : List Cond := k2_sels lw_privs ++ tables_1
theorem lw_privs_ok : ∀ q ∈ lw_privs, lw_okq q := by
  show ∀ q ∈ lw_privs_1 ++ (lw_privs_2 ++ (lw_privs_3 ++ (lw_privs_4 ++ (lw_privs_5)))), lw_okq q
  exact List.forall_mem_append.mpr ⟨lw_r1, List.forall_mem_append.mpr ⟨lw_r2, List.forall_mem_append.mpr ⟨lw_r3, List.forall_mem_append.mpr ⟨lw_r4, lw_r5⟩⟩⟩⟩
-- ===== end of PART A; then your names; then what follows =====
end
section
def RX0 : String := "LateCopies$Item"
def TX0 : u_T := fun k => match k with
  | 0 => ("LateCopies$Item", "sort", "I", false)
  | 1 => ("LateCopies$Item", "value", "I", false)
  | 2 => ("LateCopies$Item", "stamp", "I", false)
  | 3 => ("LateCopies$Item", "activation", "I", false)
  | 4 => ("LateCopies$Item", "keepers", "I", false)
  | _ => ("LateCopies$Item", "heat", "I", false)
def tyX0 : Nat → FieldType := fun k => match k with
  | 0 => .int
  | 1 => .int
  | 2 => .int
  | 3 => .int
  | 4 => .int
  | _ => .int
theorem nmX0 : ∀ a, a < 6 → ∀ b, b < 6 → a ≠ b → (TX0 a).2.1 ≠ (TX0 b).2.1 := by decide +kernel
theorem tyX0_ok : ∀ k, k < 6 → parseFieldDescriptor (TX0 k).2.2.1 = some (tyX0 k) := by decide +kernel
abbrev cX0_init : ByteArray := prog_2_method_1_code
def yX0_init : MethodName := ⟨RX0, "<init>", "()V"⟩
abbrev cX0_becomeNothing : ByteArray := prog_2_method_2_code
def yX0_becomeNothing : MethodName := ⟨RX0, "becomeNothing", "()V"⟩
abbrev cX0_becomeValue : ByteArray := prog_2_method_3_code
def yX0_becomeValue : MethodName := ⟨RX0, "becomeValue", "(III)V"⟩
abbrev cX0_becomeCertificate : ByteArray := prog_2_method_4_code
def yX0_becomeCertificate : MethodName := ⟨RX0, "becomeCertificate", "(III)V"⟩
abbrev cX0_becomeCopy : ByteArray := prog_2_method_5_code
def yX0_becomeCopy : MethodName := ⟨RX0, "becomeCopy", "(LLateCopies$Item;I)V"⟩
abbrev cX0_isNewer : ByteArray := prog_2_method_6_code
def yX0_isNewer : MethodName := ⟨RX0, "isNewer", "(LLateCopies$Item;)Z"⟩
abbrev cX0_isItemBelow : ByteArray := prog_2_method_7_code
def yX0_isItemBelow : MethodName := ⟨RX0, "isItemBelow", "(I)Z"⟩
def RX1 : String := "LateCopies$Page"
def TX1 : u_T := fun k => match k with
  | 0 => ("LateCopies$Page", "codes", "[I", true)
  | _ => ("LateCopies$Page", "length", "I", false)
def tyX1 : Nat → FieldType := fun k => match k with
  | 0 => .array .int
  | _ => .int
theorem nmX1 : ∀ a, a < 2 → ∀ b, b < 2 → a ≠ b → (TX1 a).2.1 ≠ (TX1 b).2.1 := by decide +kernel
theorem tyX1_ok : ∀ k, k < 2 → parseFieldDescriptor (TX1 k).2.2.1 = some (tyX1 k) := by decide +kernel
abbrev cX1_init : ByteArray := prog_3_method_1_code
def yX1_init : MethodName := ⟨RX1, "<init>", "()V"⟩
abbrev cX1_append : ByteArray := prog_3_method_2_code
def yX1_append : MethodName := ⟨RX1, "append", "(I)V"⟩
abbrev cX1_firstWrongPlace : ByteArray := prog_3_method_3_code
def yX1_firstWrongPlace : MethodName := ⟨RX1, "firstWrongPlace", "()I"⟩
abbrev cX1_isLine : ByteArray := prog_3_method_4_code
def yX1_isLine : MethodName := ⟨RX1, "isLine", "()Z"⟩
def RX2 : String := "LateCopies$Settling"
def TX2 : u_T := fun k => match k with
  | 0 => ("LateCopies$Settling", "trial", "LLateCopies$World;", true)
  | 1 => ("LateCopies$Settling", "rounds", "I", false)
  | _ => ("LateCopies$Settling", "seed", "I", false)
def tyX2 : Nat → FieldType := fun k => match k with
  | 0 => .object "LateCopies$World"
  | 1 => .int
  | _ => .int
theorem nmX2 : ∀ a, a < 3 → ∀ b, b < 3 → a ≠ b → (TX2 a).2.1 ≠ (TX2 b).2.1 := by decide +kernel
theorem tyX2_ok : ∀ k, k < 3 → parseFieldDescriptor (TX2 k).2.2.1 = some (tyX2 k) := by decide +kernel
abbrev cX2_init : ByteArray := prog_4_method_1_code
def yX2_init : MethodName := ⟨RX2, "<init>", "()V"⟩
abbrev cX2_run : ByteArray := prog_4_method_2_code
def yX2_run : MethodName := ⟨RX2, "run", "(LLateCopies$World;IZ)V"⟩
abbrev cX2_playRound : ByteArray := prog_4_method_3_code
def yX2_playRound : MethodName := ⟨RX2, "playRound", "(Z)V"⟩
abbrev cX2_outcome : ByteArray := prog_4_method_4_code
def yX2_outcome : MethodName := ⟨RX2, "outcome", "(I)I"⟩
def RX3 : String := "LateCopies$World"
def TX3 : u_T := fun k => match k with
  | 0 => ("LateCopies$World", "limits", "[I", true)
  | 1 => ("LateCopies$World", "positions", "[I", true)
  | 2 => ("LateCopies$World", "items", "[LLateCopies$Item;", true)
  | 3 => ("LateCopies$World", "latestRemovals", "[I", true)
  | 4 => ("LateCopies$World", "sites", "I", false)
  | 5 => ("LateCopies$World", "now", "I", false)
  | 6 => ("LateCopies$World", "offSites", "I", false)
  | 7 => ("LateCopies$World", "traffic", "I", false)
  | 8 => ("LateCopies$World", "woken", "I", false)
  | _ => ("LateCopies$World", "gone", "I", false)
def tyX3 : Nat → FieldType := fun k => match k with
  | 0 => .array .int
  | 1 => .array .int
  | 2 => .array (.object "LateCopies$Item")
  | 3 => .array .int
  | 4 => .int
  | 5 => .int
  | 6 => .int
  | 7 => .int
  | 8 => .int
  | _ => .int
theorem nmX3 : ∀ a, a < 10 → ∀ b, b < 10 → a ≠ b → (TX3 a).2.1 ≠ (TX3 b).2.1 := by decide +kernel
theorem tyX3_ok : ∀ k, k < 10 → parseFieldDescriptor (TX3 k).2.2.1 = some (tyX3 k) := by decide +kernel
abbrev cX3_init : ByteArray := prog_5_method_1_code
def yX3_init : MethodName := ⟨RX3, "<init>", "()V"⟩
abbrev cX3_startLine : ByteArray := prog_5_method_2_code
def yX3_startLine : MethodName := ⟨RX3, "startLine", "(LLateCopies$Page;)V"⟩
abbrev cX3_startTrial : ByteArray := prog_5_method_3_code
def yX3_startTrial : MethodName := ⟨RX3, "startTrial", "(LLateCopies$World;)V"⟩
abbrev cX3_knowsSite : ByteArray := prog_5_method_4_code
def yX3_knowsSite : MethodName := ⟨RX3, "knowsSite", "(I)Z"⟩
abbrev cX3_isOff : ByteArray := prog_5_method_5_code
def yX3_isOff : MethodName := ⟨RX3, "isOff", "(I)Z"⟩
abbrev cX3_itemAt : ByteArray := prog_5_method_6_code
def yX3_itemAt : MethodName := ⟨RX3, "itemAt", "(II)LLateCopies$Item;"⟩
abbrev cX3_advance : ByteArray := prog_5_method_7_code
def yX3_advance : MethodName := ⟨RX3, "advance", "(I)I"⟩
abbrev cX3_dropGone : ByteArray := prog_5_method_8_code
def yX3_dropGone : MethodName := ⟨RX3, "dropGone", "()I"⟩
abbrev cX3_isDormant : ByteArray := prog_5_method_9_code
def yX3_isDormant : MethodName := ⟨RX3, "isDormant", "(LLateCopies$Item;)Z"⟩
abbrev cX3_isAwake : ByteArray := prog_5_method_10_code
def yX3_isAwake : MethodName := ⟨RX3, "isAwake", "(LLateCopies$Item;)Z"⟩
abbrev cX3_isKept : ByteArray := prog_5_method_11_code
def yX3_isKept : MethodName := ⟨RX3, "isKept", "(LLateCopies$Item;I)Z"⟩
abbrev cX3_wake : ByteArray := prog_5_method_12_code
def yX3_wake : MethodName := ⟨RX3, "wake", "(LLateCopies$Item;)V"⟩
abbrev cX3_putValue : ByteArray := prog_5_method_13_code
def yX3_putValue : MethodName := ⟨RX3, "putValue", "(III)I"⟩
abbrev cX3_removeValue : ByteArray := prog_5_method_14_code
def yX3_removeValue : MethodName := ⟨RX3, "removeValue", "(III)I"⟩
abbrev cX3_keepersOf : ByteArray := prog_5_method_15_code
def yX3_keepersOf : MethodName := ⟨RX3, "keepersOf", "(II)I"⟩
abbrev cX3_compareAll : ByteArray := prog_5_method_16_code
def yX3_compareAll : MethodName := ⟨RX3, "compareAll", "(II)I"⟩
abbrev cX3_recentKeys : ByteArray := prog_5_method_17_code
def yX3_recentKeys : MethodName := ⟨RX3, "recentKeys", "(II)I"⟩
abbrev cX3_isRecent : ByteArray := prog_5_method_18_code
def yX3_isRecent : MethodName := ⟨RX3, "isRecent", "(LLateCopies$Item;)Z"⟩
abbrev cX3_meetKeys : ByteArray := prog_5_method_19_code
def yX3_meetKeys : MethodName := ⟨RX3, "meetKeys", "(III)I"⟩
abbrev cX3_meet : ByteArray := prog_5_method_20_code
def yX3_meet : MethodName := ⟨RX3, "meet", "(LLateCopies$Item;LLateCopies$Item;)I"⟩
abbrev cX3_tellHot : ByteArray := prog_5_method_21_code
def yX3_tellHot : MethodName := ⟨RX3, "tellHot", "(II)I"⟩
abbrev cX3_tell : ByteArray := prog_5_method_22_code
def yX3_tell : MethodName := ⟨RX3, "tell", "(LLateCopies$Item;LLateCopies$Item;)I"⟩
abbrev cX3_areAlike : ByteArray := prog_5_method_23_code
def yX3_areAlike : MethodName := ⟨RX3, "areAlike", "(II)Z"⟩
abbrev cX3_isSame : ByteArray := prog_5_method_24_code
def yX3_isSame : MethodName := ⟨RX3, "isSame", "(LLateCopies$Item;LLateCopies$Item;)Z"⟩
abbrev cX3_allOnAlike : ByteArray := prog_5_method_25_code
def yX3_allOnAlike : MethodName := ⟨RX3, "allOnAlike", "()Z"⟩
abbrev cX3_newestKey : ByteArray := prog_5_method_26_code
def yX3_newestKey : MethodName := ⟨RX3, "newestKey", "(II)I"⟩
abbrev cX3_risenSites : ByteArray := prog_5_method_27_code
def yX3_risenSites : MethodName := ⟨RX3, "risenSites", "(I)I"⟩
abbrev cX3_othersOf : ByteArray := prog_5_method_28_code
def yX3_othersOf : MethodName := ⟨RX3, "othersOf", "(I)I"⟩
abbrev cX3_othersOn : ByteArray := prog_5_method_29_code
def yX3_othersOn : MethodName := ⟨RX3, "othersOn", "(I)I"⟩
abbrev cX3_nearest : ByteArray := prog_5_method_30_code
def yX3_nearest : MethodName := ⟨RX3, "nearest", "(II)I"⟩
abbrev cX3_partnerBy : ByteArray := prog_5_method_31_code
def yX3_partnerBy : MethodName := ⟨RX3, "partnerBy", "(II)I"⟩
abbrev cX3_weightOf : ByteArray := prog_5_method_32_code
def yX3_weightOf : MethodName := ⟨RX3, "weightOf", "(I)I"⟩
def RX4 : String := "LateCopies"
def TX4 : u_T := fun k => match k with
  | 0 => ("LateCopies", "page", "LLateCopies$Page;", true)
  | 1 => ("LateCopies", "world", "LLateCopies$World;", true)
  | 2 => ("LateCopies", "settling", "LLateCopies$Settling;", true)
  | _ => ("LateCopies", "linesRead", "I", false)
def tyX4 : Nat → FieldType := fun k => match k with
  | 0 => .object "LateCopies$Page"
  | 1 => .object "LateCopies$World"
  | 2 => .object "LateCopies$Settling"
  | _ => .int
theorem nmX4 : ∀ a, a < 4 → ∀ b, b < 4 → a ≠ b → (TX4 a).2.1 ≠ (TX4 b).2.1 := by decide +kernel
theorem tyX4_ok : ∀ k, k < 4 → parseFieldDescriptor (TX4 k).2.2.1 = some (tyX4 k) := by decide +kernel
abbrev cX4_init : ByteArray := prog_1_method_1_code
def yX4_init : MethodName := ⟨RX4, "<init>", "()V"⟩
abbrev cX4_letter : ByteArray := prog_1_method_2_code
def yX4_letter : MethodName := ⟨RX4, "letter", "(I)I"⟩
abbrev cX4_blank : ByteArray := prog_1_method_3_code
def yX4_blank : MethodName := ⟨RX4, "blank", "()I"⟩
abbrev cX4_fault : ByteArray := prog_1_method_4_code
def yX4_fault : MethodName := ⟨RX4, "fault", "()I"⟩
abbrev cX4_line : ByteArray := prog_1_method_5_code
def yX4_line : MethodName := ⟨RX4, "line", "()I"⟩
abbrev cX4_set : ByteArray := prog_1_method_6_code
def yX4_set : MethodName := ⟨RX4, "set", "(II)I"⟩
abbrev cX4_put : ByteArray := prog_1_method_7_code
def yX4_put : MethodName := ⟨RX4, "put", "(III)I"⟩
abbrev cX4_remove : ByteArray := prog_1_method_8_code
def yX4_remove : MethodName := ⟨RX4, "remove", "(III)I"⟩
abbrev cX4_pass : ByteArray := prog_1_method_9_code
def yX4_pass : MethodName := ⟨RX4, "pass", "(I)I"⟩
abbrev cX4_off : ByteArray := prog_1_method_10_code
def yX4_off : MethodName := ⟨RX4, "off", "(IZ)I"⟩
abbrev cX4_exchange : ByteArray := prog_1_method_11_code
def yX4_exchange : MethodName := ⟨RX4, "exchange", "(II)I"⟩
abbrev cX4_rumour : ByteArray := prog_1_method_12_code
def yX4_rumour : MethodName := ⟨RX4, "rumour", "(II)I"⟩
abbrev cX4_refusalOfPair : ByteArray := prog_1_method_13_code
def yX4_refusalOfPair : MethodName := ⟨RX4, "refusalOfPair", "(II)I"⟩
abbrev cX4_has : ByteArray := prog_1_method_14_code
def yX4_has : MethodName := ⟨RX4, "has", "(III)I"⟩
abbrev cX4_newest : ByteArray := prog_1_method_15_code
def yX4_newest : MethodName := ⟨RX4, "newest", "(II)I"⟩
abbrev cX4_alike : ByteArray := prog_1_method_16_code
def yX4_alike : MethodName := ⟨RX4, "alike", "(II)I"⟩
abbrev cX4_risen : ByteArray := prog_1_method_17_code
def yX4_risen : MethodName := ⟨RX4, "risen", "(I)I"⟩
abbrev cX4_partner : ByteArray := prog_1_method_18_code
def yX4_partner : MethodName := ⟨RX4, "partner", "(III)I"⟩
abbrev cX4_settle : ByteArray := prog_1_method_19_code
def yX4_settle : MethodName := ⟨RX4, "settle", "(IZI)I"⟩
abbrev cX4_count : ByteArray := prog_1_method_20_code
def yX4_count : MethodName := ⟨RX4, "count", "(I)I"⟩
abbrev cX4_digest : ByteArray := prog_1_method_21_code
def yX4_digest : MethodName := ⟨RX4, "digest", "()J"⟩
abbrev cX4_mixSite : ByteArray := prog_1_method_22_code
def yX4_mixSite : MethodName := ⟨RX4, "mixSite", "(JI)J"⟩
abbrev cX4_mix : ByteArray := prog_1_method_23_code
def yX4_mix : MethodName := ⟨RX4, "mix", "(JI)J"⟩
abbrev cX4_isKey : ByteArray := prog_1_method_24_code
def yX4_isKey : MethodName := ⟨RX4, "isKey", "(I)Z"⟩
abbrev cX4_nextSeed : ByteArray := prog_1_method_25_code
def yX4_nextSeed : MethodName := ⟨RX4, "nextSeed", "(I)I"⟩
def RX5 : String := "LateCopiesModel"
def TX5 : u_T := fun k => match k with
  | 0 => ("LateCopiesModel", "pageLength", "I", false)
  | 1 => ("LateCopiesModel", "page", "[I", true)
  | 2 => ("LateCopiesModel", "sites", "I", false)
  | 3 => ("LateCopiesModel", "position", "[I", true)
  | 4 => ("LateCopiesModel", "now", "I", false)
  | 5 => ("LateCopiesModel", "offs", "I", false)
  | 6 => ("LateCopiesModel", "traffic", "I", false)
  | 7 => ("LateCopiesModel", "woken", "I", false)
  | 8 => ("LateCopiesModel", "gone", "I", false)
  | 9 => ("LateCopiesModel", "lines", "I", false)
  | 10 => ("LateCopiesModel", "told", "[I", true)
  | 11 => ("LateCopiesModel", "sort", "[I", true)
  | 12 => ("LateCopiesModel", "value", "[I", true)
  | 13 => ("LateCopiesModel", "stamp", "[I", true)
  | 14 => ("LateCopiesModel", "active", "[I", true)
  | 15 => ("LateCopiesModel", "keepers", "[I", true)
  | 16 => ("LateCopiesModel", "heat", "[I", true)
  | 17 => ("LateCopiesModel", "latest", "[I", true)
  | 18 => ("LateCopiesModel", "seedNow", "J", false)
  | 19 => ("LateCopiesModel", "saved", "[I", true)
  | 20 => ("LateCopiesModel", "rounds", "I", false)
  | 21 => ("LateCopiesModel", "spent", "I", false)
  | _ => ("LateCopiesModel", "h", "J", false)
def tyX5 : Nat → FieldType := fun k => match k with
  | 0 => .int
  | 1 => .array .int
  | 2 => .int
  | 3 => .array .int
  | 4 => .int
  | 5 => .int
  | 6 => .int
  | 7 => .int
  | 8 => .int
  | 9 => .int
  | 10 => .array .int
  | 11 => .array .int
  | 12 => .array .int
  | 13 => .array .int
  | 14 => .array .int
  | 15 => .array .int
  | 16 => .array .int
  | 17 => .array .int
  | 18 => .long
  | 19 => .array .int
  | 20 => .int
  | 21 => .int
  | _ => .long
theorem nmX5 : ∀ a, a < 23 → ∀ b, b < 23 → a ≠ b → (TX5 a).2.1 ≠ (TX5 b).2.1 := by decide +kernel
theorem tyX5_ok : ∀ k, k < 23 → parseFieldDescriptor (TX5 k).2.2.1 = some (tyX5 k) := by decide +kernel
abbrev cX5_init : ByteArray := prog_7_method_1_code
def yX5_init : MethodName := ⟨RX5, "<init>", "()V"⟩
abbrev cX5_within : ByteArray := prog_7_method_3_code
def yX5_within : MethodName := ⟨RX5, "within", "(III)Z"⟩
abbrev cX5_isIn : ByteArray := prog_7_method_4_code
def yX5_isIn : MethodName := ⟨RX5, "isIn", "(II)Z"⟩
abbrev cX5_size : ByteArray := prog_7_method_5_code
def yX5_size : MethodName := ⟨RX5, "size", "(I)I"⟩
abbrev cX5_letter : ByteArray := prog_7_method_6_code
def yX5_letter : MethodName := ⟨RX5, "letter", "(I)I"⟩
abbrev cX5_blank : ByteArray := prog_7_method_7_code
def yX5_blank : MethodName := ⟨RX5, "blank", "()I"⟩
abbrev cX5_fault : ByteArray := prog_7_method_8_code
def yX5_fault : MethodName := ⟨RX5, "fault", "()I"⟩
abbrev cX5_line : ByteArray := prog_7_method_9_code
def yX5_line : MethodName := ⟨RX5, "line", "()I"⟩
abbrev cX5_clear : ByteArray := prog_7_method_10_code
def yX5_clear : MethodName := ⟨RX5, "clear", "(I)V"⟩
abbrev cX5_isDormant : ByteArray := prog_7_method_11_code
def yX5_isDormant : MethodName := ⟨RX5, "isDormant", "(I)Z"⟩
abbrev cX5_isAwake : ByteArray := prog_7_method_12_code
def yX5_isAwake : MethodName := ⟨RX5, "isAwake", "(I)Z"⟩
abbrev cX5_purge : ByteArray := prog_7_method_13_code
def yX5_purge : MethodName := ⟨RX5, "purge", "()I"⟩
abbrev cX5_isNewer : ByteArray := prog_7_method_14_code
def yX5_isNewer : MethodName := ⟨RX5, "isNewer", "(II)Z"⟩
abbrev cX5_copy : ByteArray := prog_7_method_15_code
def yX5_copy : MethodName := ⟨RX5, "copy", "(III)V"⟩
abbrev cX5_wake : ByteArray := prog_7_method_16_code
def yX5_wake : MethodName := ⟨RX5, "wake", "(I)V"⟩
abbrev cX5_isSite : ByteArray := prog_7_method_17_code
def yX5_isSite : MethodName := ⟨RX5, "isSite", "(I)Z"⟩
abbrev cX5_isKey : ByteArray := prog_7_method_18_code
def yX5_isKey : MethodName := ⟨RX5, "isKey", "(I)Z"⟩
abbrev cX5_least : ByteArray := prog_7_method_19_code
def yX5_least : MethodName := ⟨RX5, "least", "(I)I"⟩
abbrev cX5_most : ByteArray := prog_7_method_20_code
def yX5_most : MethodName := ⟨RX5, "most", "(I)I"⟩
abbrev cX5_set : ByteArray := prog_7_method_21_code
def yX5_set : MethodName := ⟨RX5, "set", "(II)I"⟩
abbrev cX5_put : ByteArray := prog_7_method_22_code
def yX5_put : MethodName := ⟨RX5, "put", "(III)I"⟩
abbrev cX5_near : ByteArray := prog_7_method_23_code
def yX5_near : MethodName := ⟨RX5, "near", "(II)I"⟩
abbrev cX5_nearest : ByteArray := prog_7_method_24_code
def yX5_nearest : MethodName := ⟨RX5, "nearest", "(II)I"⟩
abbrev cX5_remove : ByteArray := prog_7_method_25_code
def yX5_remove : MethodName := ⟨RX5, "remove", "(III)I"⟩
abbrev cX5_pass : ByteArray := prog_7_method_26_code
def yX5_pass : MethodName := ⟨RX5, "pass", "(I)I"⟩
abbrev cX5_off : ByteArray := prog_7_method_27_code
def yX5_off : MethodName := ⟨RX5, "off", "(IZ)I"⟩
abbrev cX5_wakes : ByteArray := prog_7_method_28_code
def yX5_wakes : MethodName := ⟨RX5, "wakes", "(II)Z"⟩
abbrev cX5_goes : ByteArray := prog_7_method_29_code
def yX5_goes : MethodName := ⟨RX5, "goes", "(II)I"⟩
abbrev cX5_meet : ByteArray := prog_7_method_30_code
def yX5_meet : MethodName := ⟨RX5, "meet", "(III)I"⟩
abbrev cX5_areSame : ByteArray := prog_7_method_31_code
def yX5_areSame : MethodName := ⟨RX5, "areSame", "(II)Z"⟩
abbrev cX5_areAlike : ByteArray := prog_7_method_32_code
def yX5_areAlike : MethodName := ⟨RX5, "areAlike", "(II)Z"⟩
abbrev cX5_isRecent : ByteArray := prog_7_method_33_code
def yX5_isRecent : MethodName := ⟨RX5, "isRecent", "(I)Z"⟩
abbrev cX5_meetAll : ByteArray := prog_7_method_34_code
def yX5_meetAll : MethodName := ⟨RX5, "meetAll", "(III)I"⟩
abbrev cX5_exchangeNow : ByteArray := prog_7_method_35_code
def yX5_exchangeNow : MethodName := ⟨RX5, "exchangeNow", "(II)I"⟩
abbrev cX5_areTwo : ByteArray := prog_7_method_36_code
def yX5_areTwo : MethodName := ⟨RX5, "areTwo", "(II)Z"⟩
abbrev cX5_exchange : ByteArray := prog_7_method_37_code
def yX5_exchange : MethodName := ⟨RX5, "exchange", "(II)I"⟩
abbrev cX5_tell : ByteArray := prog_7_method_38_code
def yX5_tell : MethodName := ⟨RX5, "tell", "(II)I"⟩
abbrev cX5_rumourNow : ByteArray := prog_7_method_39_code
def yX5_rumourNow : MethodName := ⟨RX5, "rumourNow", "(II)I"⟩
abbrev cX5_rumour : ByteArray := prog_7_method_40_code
def yX5_rumour : MethodName := ⟨RX5, "rumour", "(II)I"⟩
abbrev cX5_itemNow : ByteArray := prog_7_method_41_code
def yX5_itemNow : MethodName := ⟨RX5, "itemNow", "(II)I"⟩
abbrev cX5_has : ByteArray := prog_7_method_42_code
def yX5_has : MethodName := ⟨RX5, "has", "(III)I"⟩
abbrev cX5_newestNow : ByteArray := prog_7_method_43_code
def yX5_newestNow : MethodName := ⟨RX5, "newestNow", "(II)I"⟩
abbrev cX5_newest : ByteArray := prog_7_method_44_code
def yX5_newest : MethodName := ⟨RX5, "newest", "(II)I"⟩
abbrev cX5_alike : ByteArray := prog_7_method_45_code
def yX5_alike : MethodName := ⟨RX5, "alike", "(II)I"⟩
abbrev cX5_risenNow : ByteArray := prog_7_method_46_code
def yX5_risenNow : MethodName := ⟨RX5, "risenNow", "(I)I"⟩
abbrev cX5_risen : ByteArray := prog_7_method_47_code
def yX5_risen : MethodName := ⟨RX5, "risen", "(I)I"⟩
abbrev cX5_draw : ByteArray := prog_7_method_48_code
def yX5_draw : MethodName := ⟨RX5, "draw", "(I)I"⟩
abbrev cX5_weight : ByteArray := prog_7_method_49_code
def yX5_weight : MethodName := ⟨RX5, "weight", "(I)I"⟩
abbrev cX5_partnerNow : ByteArray := prog_7_method_50_code
def yX5_partnerNow : MethodName := ⟨RX5, "partnerNow", "(I)I"⟩
abbrev cX5_partner : ByteArray := prog_7_method_51_code
def yX5_partner : MethodName := ⟨RX5, "partner", "(III)I"⟩
abbrev cX5_areAllAlike : ByteArray := prog_7_method_52_code
def yX5_areAllAlike : MethodName := ⟨RX5, "areAllAlike", "()Z"⟩
abbrev cX5_save : ByteArray := prog_7_method_53_code
def yX5_save : MethodName := ⟨RX5, "save", "()V"⟩
abbrev cX5_back : ByteArray := prog_7_method_54_code
def yX5_back : MethodName := ⟨RX5, "back", "()V"⟩
abbrev cX5_goRound : ByteArray := prog_7_method_55_code
def yX5_goRound : MethodName := ⟨RX5, "goRound", "(Z)V"⟩
abbrev cX5_laySettling : ByteArray := prog_7_method_56_code
def yX5_laySettling : MethodName := ⟨RX5, "laySettling", "(IZ)V"⟩
abbrev cX5_settledNow : ByteArray := prog_7_method_57_code
def yX5_settledNow : MethodName := ⟨RX5, "settledNow", "(I)I"⟩
abbrev cX5_settle : ByteArray := prog_7_method_58_code
def yX5_settle : MethodName := ⟨RX5, "settle", "(IZI)I"⟩
abbrev cX5_howMany : ByteArray := prog_7_method_59_code
def yX5_howMany : MethodName := ⟨RX5, "howMany", "(I)I"⟩
abbrev cX5_count : ByteArray := prog_7_method_60_code
def yX5_count : MethodName := ⟨RX5, "count", "(I)I"⟩
abbrev cX5_mix : ByteArray := prog_7_method_61_code
def yX5_mix : MethodName := ⟨RX5, "mix", "(J)V"⟩
abbrev cX5_mixSite : ByteArray := prog_7_method_62_code
def yX5_mixSite : MethodName := ⟨RX5, "mixSite", "(I)V"⟩
abbrev cX5_mixSettling : ByteArray := prog_7_method_63_code
def yX5_mixSettling : MethodName := ⟨RX5, "mixSettling", "(Z)V"⟩
abbrev cX5_digest : ByteArray := prog_7_method_64_code
def yX5_digest : MethodName := ⟨RX5, "digest", "()J"⟩
def RJ6 : String := "java/lang/Integer"
def TJ6 : u_T := fun k => match k with
  | _ => ("", "", "", false)
def tyJ6 : Nat → FieldType := fun k => match k with
  | _ => .int
theorem nmJ6 : ∀ a, a < 0 → ∀ b, b < 0 → a ≠ b → (TJ6 a).2.1 ≠ (TJ6 b).2.1 := by decide +kernel
theorem tyJ6_ok : ∀ k, k < 0 → parseFieldDescriptor (TJ6 k).2.2.1 = some (tyJ6 k) := by decide +kernel
abbrev cJ6_bitCount_0f7a4 : ByteArray := prog_8_method_49_code
def yJ6_bitCount_0f7a4 : MethodName := ⟨RJ6, "bitCount", "(I)I"⟩
def RJ9 : String := "java/lang/Math"
def TJ9 : u_T := fun k => match k with
  | _ => ("", "", "", false)
def tyJ9 : Nat → FieldType := fun k => match k with
  | _ => .int
theorem nmJ9 : ∀ a, a < 0 → ∀ b, b < 0 → a ≠ b → (TJ9 a).2.1 ≠ (TJ9 b).2.1 := by decide +kernel
theorem tyJ9_ok : ∀ k, k < 0 → parseFieldDescriptor (TJ9 k).2.2.1 = some (tyJ9 k) := by decide +kernel
abbrev cJ9_abs_0f7a4 : ByteArray := prog_9_method_59_code
def yJ9_abs_0f7a4 : MethodName := ⟨RJ9, "abs", "(I)I"⟩
def RJ10 : String := "java/lang/System"
def TJ10 : u_T := fun k => match k with
  | _ => ("", "", "", false)
def tyJ10 : Nat → FieldType := fun k => match k with
  | _ => .int
theorem nmJ10 : ∀ a, a < 0 → ∀ b, b < 0 → a ≠ b → (TJ10 a).2.1 ≠ (TJ10 b).2.1 := by decide +kernel
theorem tyJ10_ok : ∀ k, k < 0 → parseFieldDescriptor (TJ10 k).2.2.1 = some (tyJ10 k) := by decide +kernel
def RL : String := "LateCopiesLaw"
abbrev cL_law : ByteArray := code
def yL_law : MethodName := ⟨RL, "law", "([I)Z"⟩
abbrev vwCl : List vw_C := [(RX0, TX0, 6), (RX1, TX1, 2), (RX2, TX2, 3), (RX3, TX3, 10), (RX4, TX4, 4), (RX5, TX5, 23)]
end
section
theorem dX0_init_0 : decode cX0_init 0 = .ok (.aload_n 0, 1) := by decide +kernel
theorem dX0_init_1 : decode cX0_init 1 = .ok (.invokespecial 3, 3) := by decide +kernel
theorem dX0_init_4 : decode cX0_init 4 = .ok (.aload_n 0, 1) := by decide +kernel
theorem dX0_init_5 : decode cX0_init 5 = .ok (.invokevirtual 9, 3) := by decide +kernel
theorem dX0_init_8 : decode cX0_init 8 = .ok (.return_, 1) := by decide +kernel
theorem dX0_becomeNothing_0 : decode cX0_becomeNothing 0 = .ok (.aload_n 0, 1) := by decide +kernel
theorem dX0_becomeNothing_1 : decode cX0_becomeNothing 1 = .ok (.iconst 0, 1) := by decide +kernel
theorem dX0_becomeNothing_2 : decode cX0_becomeNothing 2 = .ok (.putfield 14, 3) := by decide +kernel
theorem dX0_becomeNothing_5 : decode cX0_becomeNothing 5 = .ok (.aload_n 0, 1) := by decide +kernel
theorem dX0_becomeNothing_6 : decode cX0_becomeNothing 6 = .ok (.iconst (-1), 1) := by decide +kernel
theorem dX0_becomeNothing_7 : decode cX0_becomeNothing 7 = .ok (.putfield 18, 3) := by decide +kernel
theorem dX0_becomeNothing_10 : decode cX0_becomeNothing 10 = .ok (.aload_n 0, 1) := by decide +kernel
theorem dX0_becomeNothing_11 : decode cX0_becomeNothing 11 = .ok (.iconst (-1), 1) := by decide +kernel
theorem dX0_becomeNothing_12 : decode cX0_becomeNothing 12 = .ok (.putfield 21, 3) := by decide +kernel
theorem dX0_becomeNothing_15 : decode cX0_becomeNothing 15 = .ok (.aload_n 0, 1) := by decide +kernel
theorem dX0_becomeNothing_16 : decode cX0_becomeNothing 16 = .ok (.iconst (-1), 1) := by decide +kernel
theorem dX0_becomeNothing_17 : decode cX0_becomeNothing 17 = .ok (.putfield 24, 3) := by decide +kernel
theorem dX0_becomeNothing_20 : decode cX0_becomeNothing 20 = .ok (.aload_n 0, 1) := by decide +kernel
theorem dX0_becomeNothing_21 : decode cX0_becomeNothing 21 = .ok (.iconst (-1), 1) := by decide +kernel
theorem dX0_becomeNothing_22 : decode cX0_becomeNothing 22 = .ok (.putfield 27, 3) := by decide +kernel
theorem dX0_becomeNothing_25 : decode cX0_becomeNothing 25 = .ok (.aload_n 0, 1) := by decide +kernel
theorem dX0_becomeNothing_26 : decode cX0_becomeNothing 26 = .ok (.iconst 0, 1) := by decide +kernel
theorem dX0_becomeNothing_27 : decode cX0_becomeNothing 27 = .ok (.putfield 30, 3) := by decide +kernel
theorem dX0_becomeNothing_30 : decode cX0_becomeNothing 30 = .ok (.return_, 1) := by decide +kernel
theorem dX0_becomeValue_0 : decode cX0_becomeValue 0 = .ok (.aload_n 0, 1) := by decide +kernel
theorem dX0_becomeValue_1 : decode cX0_becomeValue 1 = .ok (.iconst 1, 1) := by decide +kernel
theorem dX0_becomeValue_2 : decode cX0_becomeValue 2 = .ok (.putfield 14, 3) := by decide +kernel
theorem dX0_becomeValue_5 : decode cX0_becomeValue 5 = .ok (.aload_n 0, 1) := by decide +kernel
theorem dX0_becomeValue_6 : decode cX0_becomeValue 6 = .ok (.iload_n 1, 1) := by decide +kernel
theorem dX0_becomeValue_7 : decode cX0_becomeValue 7 = .ok (.putfield 18, 3) := by decide +kernel
theorem dX0_becomeValue_10 : decode cX0_becomeValue 10 = .ok (.aload_n 0, 1) := by decide +kernel
theorem dX0_becomeValue_11 : decode cX0_becomeValue 11 = .ok (.iload_n 2, 1) := by decide +kernel
theorem dX0_becomeValue_12 : decode cX0_becomeValue 12 = .ok (.putfield 21, 3) := by decide +kernel
theorem dX0_becomeValue_15 : decode cX0_becomeValue 15 = .ok (.aload_n 0, 1) := by decide +kernel
theorem dX0_becomeValue_16 : decode cX0_becomeValue 16 = .ok (.iload_n 2, 1) := by decide +kernel
theorem dX0_becomeValue_17 : decode cX0_becomeValue 17 = .ok (.putfield 24, 3) := by decide +kernel
theorem dX0_becomeValue_20 : decode cX0_becomeValue 20 = .ok (.aload_n 0, 1) := by decide +kernel
theorem dX0_becomeValue_21 : decode cX0_becomeValue 21 = .ok (.iconst (-1), 1) := by decide +kernel
theorem dX0_becomeValue_22 : decode cX0_becomeValue 22 = .ok (.putfield 27, 3) := by decide +kernel
theorem dX0_becomeValue_25 : decode cX0_becomeValue 25 = .ok (.aload_n 0, 1) := by decide +kernel
theorem dX0_becomeValue_26 : decode cX0_becomeValue 26 = .ok (.iload_n 3, 1) := by decide +kernel
theorem dX0_becomeValue_27 : decode cX0_becomeValue 27 = .ok (.putfield 30, 3) := by decide +kernel
theorem dX0_becomeValue_30 : decode cX0_becomeValue 30 = .ok (.return_, 1) := by decide +kernel
theorem dX0_becomeCertificate_0 : decode cX0_becomeCertificate 0 = .ok (.aload_n 0, 1) := by decide +kernel
theorem dX0_becomeCertificate_1 : decode cX0_becomeCertificate 1 = .ok (.iconst 2, 1) := by decide +kernel
theorem dX0_becomeCertificate_2 : decode cX0_becomeCertificate 2 = .ok (.putfield 14, 3) := by decide +kernel
theorem dX0_becomeCertificate_5 : decode cX0_becomeCertificate 5 = .ok (.aload_n 0, 1) := by decide +kernel
theorem dX0_becomeCertificate_6 : decode cX0_becomeCertificate 6 = .ok (.iconst (-1), 1) := by decide +kernel
theorem dX0_becomeCertificate_7 : decode cX0_becomeCertificate 7 = .ok (.putfield 18, 3) := by decide +kernel
theorem dX0_becomeCertificate_10 : decode cX0_becomeCertificate 10 = .ok (.aload_n 0, 1) := by decide +kernel
theorem dX0_becomeCertificate_11 : decode cX0_becomeCertificate 11 = .ok (.iload_n 2, 1) := by decide +kernel
theorem dX0_becomeCertificate_12 : decode cX0_becomeCertificate 12 = .ok (.putfield 21, 3) := by decide +kernel
theorem dX0_becomeCertificate_15 : decode cX0_becomeCertificate 15 = .ok (.aload_n 0, 1) := by decide +kernel
theorem dX0_becomeCertificate_16 : decode cX0_becomeCertificate 16 = .ok (.iload_n 2, 1) := by decide +kernel
theorem dX0_becomeCertificate_17 : decode cX0_becomeCertificate 17 = .ok (.putfield 24, 3) := by decide +kernel
theorem dX0_becomeCertificate_20 : decode cX0_becomeCertificate 20 = .ok (.aload_n 0, 1) := by decide +kernel
theorem dX0_becomeCertificate_21 : decode cX0_becomeCertificate 21 = .ok (.iload_n 1, 1) := by decide +kernel
theorem dX0_becomeCertificate_22 : decode cX0_becomeCertificate 22 = .ok (.putfield 27, 3) := by decide +kernel
theorem dX0_becomeCertificate_25 : decode cX0_becomeCertificate 25 = .ok (.aload_n 0, 1) := by decide +kernel
theorem dX0_becomeCertificate_26 : decode cX0_becomeCertificate 26 = .ok (.iload_n 3, 1) := by decide +kernel
theorem dX0_becomeCertificate_27 : decode cX0_becomeCertificate 27 = .ok (.putfield 30, 3) := by decide +kernel
theorem dX0_becomeCertificate_30 : decode cX0_becomeCertificate 30 = .ok (.return_, 1) := by decide +kernel
theorem dX0_becomeCopy_0 : decode cX0_becomeCopy 0 = .ok (.aload_n 0, 1) := by decide +kernel
theorem dX0_becomeCopy_1 : decode cX0_becomeCopy 1 = .ok (.aload_n 1, 1) := by decide +kernel
theorem dX0_becomeCopy_2 : decode cX0_becomeCopy 2 = .ok (.getfield 14, 3) := by decide +kernel
theorem dX0_becomeCopy_5 : decode cX0_becomeCopy 5 = .ok (.putfield 14, 3) := by decide +kernel
theorem dX0_becomeCopy_8 : decode cX0_becomeCopy 8 = .ok (.aload_n 0, 1) := by decide +kernel
theorem dX0_becomeCopy_9 : decode cX0_becomeCopy 9 = .ok (.aload_n 1, 1) := by decide +kernel
theorem dX0_becomeCopy_10 : decode cX0_becomeCopy 10 = .ok (.getfield 18, 3) := by decide +kernel
theorem dX0_becomeCopy_13 : decode cX0_becomeCopy 13 = .ok (.putfield 18, 3) := by decide +kernel
theorem dX0_becomeCopy_16 : decode cX0_becomeCopy 16 = .ok (.aload_n 0, 1) := by decide +kernel
theorem dX0_becomeCopy_17 : decode cX0_becomeCopy 17 = .ok (.aload_n 1, 1) := by decide +kernel
theorem dX0_becomeCopy_18 : decode cX0_becomeCopy 18 = .ok (.getfield 21, 3) := by decide +kernel
theorem dX0_becomeCopy_21 : decode cX0_becomeCopy 21 = .ok (.putfield 21, 3) := by decide +kernel
theorem dX0_becomeCopy_24 : decode cX0_becomeCopy 24 = .ok (.aload_n 0, 1) := by decide +kernel
theorem dX0_becomeCopy_25 : decode cX0_becomeCopy 25 = .ok (.aload_n 1, 1) := by decide +kernel
theorem dX0_becomeCopy_26 : decode cX0_becomeCopy 26 = .ok (.getfield 24, 3) := by decide +kernel
theorem dX0_becomeCopy_29 : decode cX0_becomeCopy 29 = .ok (.putfield 24, 3) := by decide +kernel
theorem dX0_becomeCopy_32 : decode cX0_becomeCopy 32 = .ok (.aload_n 0, 1) := by decide +kernel
theorem dX0_becomeCopy_33 : decode cX0_becomeCopy 33 = .ok (.aload_n 1, 1) := by decide +kernel
theorem dX0_becomeCopy_34 : decode cX0_becomeCopy 34 = .ok (.getfield 27, 3) := by decide +kernel
theorem dX0_becomeCopy_37 : decode cX0_becomeCopy 37 = .ok (.putfield 27, 3) := by decide +kernel
theorem dX0_becomeCopy_40 : decode cX0_becomeCopy 40 = .ok (.aload_n 0, 1) := by decide +kernel
theorem dX0_becomeCopy_41 : decode cX0_becomeCopy 41 = .ok (.iload_n 2, 1) := by decide +kernel
theorem dX0_becomeCopy_42 : decode cX0_becomeCopy 42 = .ok (.putfield 30, 3) := by decide +kernel
theorem dX0_becomeCopy_45 : decode cX0_becomeCopy 45 = .ok (.return_, 1) := by decide +kernel
theorem dX0_isNewer_0 : decode cX0_isNewer 0 = .ok (.aload_n 0, 1) := by decide +kernel
theorem dX0_isNewer_1 : decode cX0_isNewer 1 = .ok (.getfield 21, 3) := by decide +kernel
theorem dX0_isNewer_4 : decode cX0_isNewer 4 = .ok (.aload_n 1, 1) := by decide +kernel
theorem dX0_isNewer_5 : decode cX0_isNewer 5 = .ok (.getfield 21, 3) := by decide +kernel
theorem dX0_isNewer_8 : decode cX0_isNewer 8 = .ok (.if_icmp .gt 25, 3) := by decide +kernel
theorem dX0_isNewer_11 : decode cX0_isNewer 11 = .ok (.aload_n 0, 1) := by decide +kernel
theorem dX0_isNewer_12 : decode cX0_isNewer 12 = .ok (.getfield 21, 3) := by decide +kernel
theorem dX0_isNewer_15 : decode cX0_isNewer 15 = .ok (.aload_n 1, 1) := by decide +kernel
theorem dX0_isNewer_16 : decode cX0_isNewer 16 = .ok (.getfield 21, 3) := by decide +kernel
theorem dX0_isNewer_19 : decode cX0_isNewer 19 = .ok (.if_icmp .ne 18, 3) := by decide +kernel
theorem dX0_isNewer_22 : decode cX0_isNewer 22 = .ok (.aload_n 0, 1) := by decide +kernel
theorem dX0_isNewer_23 : decode cX0_isNewer 23 = .ok (.getfield 24, 3) := by decide +kernel
theorem dX0_isNewer_26 : decode cX0_isNewer 26 = .ok (.aload_n 1, 1) := by decide +kernel
theorem dX0_isNewer_27 : decode cX0_isNewer 27 = .ok (.getfield 24, 3) := by decide +kernel
theorem dX0_isNewer_30 : decode cX0_isNewer 30 = .ok (.if_icmp .le 7, 3) := by decide +kernel
theorem dX0_isNewer_33 : decode cX0_isNewer 33 = .ok (.iconst 1, 1) := by decide +kernel
theorem dX0_isNewer_34 : decode cX0_isNewer 34 = .ok (.goto 4, 3) := by decide +kernel
theorem dX0_isNewer_37 : decode cX0_isNewer 37 = .ok (.iconst 0, 1) := by decide +kernel
theorem dX0_isNewer_38 : decode cX0_isNewer 38 = .ok (.ireturn, 1) := by decide +kernel
theorem dX0_isItemBelow_0 : decode cX0_isItemBelow 0 = .ok (.aload_n 0, 1) := by decide +kernel
theorem dX0_isItemBelow_1 : decode cX0_isItemBelow 1 = .ok (.getfield 14, 3) := by decide +kernel
theorem dX0_isItemBelow_4 : decode cX0_isItemBelow 4 = .ok (.ifCond .eq 15, 3) := by decide +kernel
theorem dX0_isItemBelow_7 : decode cX0_isItemBelow 7 = .ok (.aload_n 0, 1) := by decide +kernel
theorem dX0_isItemBelow_8 : decode cX0_isItemBelow 8 = .ok (.getfield 21, 3) := by decide +kernel
theorem dX0_isItemBelow_11 : decode cX0_isItemBelow 11 = .ok (.iload_n 1, 1) := by decide +kernel
theorem dX0_isItemBelow_12 : decode cX0_isItemBelow 12 = .ok (.if_icmp .ge 7, 3) := by decide +kernel
theorem dX0_isItemBelow_15 : decode cX0_isItemBelow 15 = .ok (.iconst 1, 1) := by decide +kernel
theorem dX0_isItemBelow_16 : decode cX0_isItemBelow 16 = .ok (.goto 4, 3) := by decide +kernel
theorem dX0_isItemBelow_19 : decode cX0_isItemBelow 19 = .ok (.iconst 0, 1) := by decide +kernel
theorem dX0_isItemBelow_20 : decode cX0_isItemBelow 20 = .ok (.ireturn, 1) := by decide +kernel
theorem dX1_init_0 : decode cX1_init 0 = .ok (.aload_n 0, 1) := by decide +kernel
theorem dX1_init_1 : decode cX1_init 1 = .ok (.invokespecial 3, 3) := by decide +kernel
theorem dX1_init_4 : decode cX1_init 4 = .ok (.aload_n 0, 1) := by decide +kernel
theorem dX1_init_5 : decode cX1_init 5 = .ok (.bipush 6, 2) := by decide +kernel
theorem dX1_init_7 : decode cX1_init 7 = .ok (.newarray .int, 2) := by decide +kernel
theorem dX1_init_9 : decode cX1_init 9 = .ok (.putfield 9, 3) := by decide +kernel
theorem dX1_init_12 : decode cX1_init 12 = .ok (.return_, 1) := by decide +kernel
theorem dX1_append_0 : decode cX1_append 0 = .ok (.aload_n 0, 1) := by decide +kernel
theorem dX1_append_1 : decode cX1_append 1 = .ok (.getfield 15, 3) := by decide +kernel
theorem dX1_append_4 : decode cX1_append 4 = .ok (.bipush 6, 2) := by decide +kernel
theorem dX1_append_6 : decode cX1_append 6 = .ok (.if_icmp .ge 23, 3) := by decide +kernel
theorem dX1_append_9 : decode cX1_append 9 = .ok (.aload_n 0, 1) := by decide +kernel
theorem dX1_append_10 : decode cX1_append 10 = .ok (.getfield 9, 3) := by decide +kernel
theorem dX1_append_13 : decode cX1_append 13 = .ok (.aload_n 0, 1) := by decide +kernel
theorem dX1_append_14 : decode cX1_append 14 = .ok (.getfield 15, 3) := by decide +kernel
theorem dX1_append_17 : decode cX1_append 17 = .ok (.iload_n 1, 1) := by decide +kernel
theorem dX1_append_18 : decode cX1_append 18 = .ok (.iastore, 1) := by decide +kernel
theorem dX1_append_19 : decode cX1_append 19 = .ok (.aload_n 0, 1) := by decide +kernel
theorem dX1_append_20 : decode cX1_append 20 = .ok (.dup, 1) := by decide +kernel
theorem dX1_append_21 : decode cX1_append 21 = .ok (.getfield 15, 3) := by decide +kernel
theorem dX1_append_24 : decode cX1_append 24 = .ok (.iconst 1, 1) := by decide +kernel
theorem dX1_append_25 : decode cX1_append 25 = .ok (.iadd, 1) := by decide +kernel
theorem dX1_append_26 : decode cX1_append 26 = .ok (.putfield 15, 3) := by decide +kernel
theorem dX1_append_29 : decode cX1_append 29 = .ok (.return_, 1) := by decide +kernel
theorem dX1_firstWrongPlace_0 : decode cX1_firstWrongPlace 0 = .ok (.bipush 48, 2) := by decide +kernel
theorem dX1_firstWrongPlace_2 : decode cX1_firstWrongPlace 2 = .ok (.istore_n 1, 1) := by decide +kernel
theorem dX1_firstWrongPlace_3 : decode cX1_firstWrongPlace 3 = .ok (.iconst 0, 1) := by decide +kernel
theorem dX1_firstWrongPlace_4 : decode cX1_firstWrongPlace 4 = .ok (.istore_n 2, 1) := by decide +kernel
theorem dX1_firstWrongPlace_5 : decode cX1_firstWrongPlace 5 = .ok (.iload_n 2, 1) := by decide +kernel
theorem dX1_firstWrongPlace_6 : decode cX1_firstWrongPlace 6 = .ok (.aload_n 0, 1) := by decide +kernel
theorem dX1_firstWrongPlace_7 : decode cX1_firstWrongPlace 7 = .ok (.getfield 15, 3) := by decide +kernel
theorem dX1_firstWrongPlace_10 : decode cX1_firstWrongPlace 10 = .ok (.if_icmp .ge 31, 3) := by decide +kernel
theorem dX1_firstWrongPlace_13 : decode cX1_firstWrongPlace 13 = .ok (.aload_n 0, 1) := by decide +kernel
theorem dX1_firstWrongPlace_14 : decode cX1_firstWrongPlace 14 = .ok (.getfield 9, 3) := by decide +kernel
theorem dX1_firstWrongPlace_17 : decode cX1_firstWrongPlace 17 = .ok (.iload_n 2, 1) := by decide +kernel
theorem dX1_firstWrongPlace_18 : decode cX1_firstWrongPlace 18 = .ok (.iaload, 1) := by decide +kernel
theorem dX1_firstWrongPlace_19 : decode cX1_firstWrongPlace 19 = .ok (.istore_n 3, 1) := by decide +kernel
theorem dX1_firstWrongPlace_20 : decode cX1_firstWrongPlace 20 = .ok (.iload_n 3, 1) := by decide +kernel
theorem dX1_firstWrongPlace_21 : decode cX1_firstWrongPlace 21 = .ok (.iload_n 1, 1) := by decide +kernel
theorem dX1_firstWrongPlace_22 : decode cX1_firstWrongPlace 22 = .ok (.if_icmp .lt 9, 3) := by decide +kernel
theorem dX1_firstWrongPlace_25 : decode cX1_firstWrongPlace 25 = .ok (.iload_n 3, 1) := by decide +kernel
theorem dX1_firstWrongPlace_26 : decode cX1_firstWrongPlace 26 = .ok (.bipush 57, 2) := by decide +kernel
theorem dX1_firstWrongPlace_28 : decode cX1_firstWrongPlace 28 = .ok (.if_icmp .le 5, 3) := by decide +kernel
theorem dX1_firstWrongPlace_31 : decode cX1_firstWrongPlace 31 = .ok (.iload_n 2, 1) := by decide +kernel
theorem dX1_firstWrongPlace_32 : decode cX1_firstWrongPlace 32 = .ok (.ireturn, 1) := by decide +kernel
theorem dX1_firstWrongPlace_33 : decode cX1_firstWrongPlace 33 = .ok (.iload_n 3, 1) := by decide +kernel
theorem dX1_firstWrongPlace_34 : decode cX1_firstWrongPlace 34 = .ok (.istore_n 1, 1) := by decide +kernel
theorem dX1_firstWrongPlace_35 : decode cX1_firstWrongPlace 35 = .ok (.iinc 2 1, 3) := by decide +kernel
theorem dX1_firstWrongPlace_38 : decode cX1_firstWrongPlace 38 = .ok (.goto (-33), 3) := by decide +kernel
theorem dX1_firstWrongPlace_41 : decode cX1_firstWrongPlace 41 = .ok (.aload_n 0, 1) := by decide +kernel
theorem dX1_firstWrongPlace_42 : decode cX1_firstWrongPlace 42 = .ok (.getfield 15, 3) := by decide +kernel
theorem dX1_firstWrongPlace_45 : decode cX1_firstWrongPlace 45 = .ok (.ireturn, 1) := by decide +kernel
theorem dX1_isLine_0 : decode cX1_isLine 0 = .ok (.aload_n 0, 1) := by decide +kernel
theorem dX1_isLine_1 : decode cX1_isLine 1 = .ok (.getfield 15, 3) := by decide +kernel
theorem dX1_isLine_4 : decode cX1_isLine 4 = .ok (.iconst 2, 1) := by decide +kernel
theorem dX1_isLine_5 : decode cX1_isLine 5 = .ok (.if_icmp .lt 18, 3) := by decide +kernel
theorem dX1_isLine_8 : decode cX1_isLine 8 = .ok (.aload_n 0, 1) := by decide +kernel
theorem dX1_isLine_9 : decode cX1_isLine 9 = .ok (.invokevirtual 19, 3) := by decide +kernel
theorem dX1_isLine_12 : decode cX1_isLine 12 = .ok (.aload_n 0, 1) := by decide +kernel
theorem dX1_isLine_13 : decode cX1_isLine 13 = .ok (.getfield 15, 3) := by decide +kernel
theorem dX1_isLine_16 : decode cX1_isLine 16 = .ok (.if_icmp .ne 7, 3) := by decide +kernel
theorem dX1_isLine_19 : decode cX1_isLine 19 = .ok (.iconst 1, 1) := by decide +kernel
theorem dX1_isLine_20 : decode cX1_isLine 20 = .ok (.goto 4, 3) := by decide +kernel
theorem dX1_isLine_23 : decode cX1_isLine 23 = .ok (.iconst 0, 1) := by decide +kernel
theorem dX1_isLine_24 : decode cX1_isLine 24 = .ok (.ireturn, 1) := by decide +kernel
theorem dX2_init_0 : decode cX2_init 0 = .ok (.aload_n 0, 1) := by decide +kernel
theorem dX2_init_1 : decode cX2_init 1 = .ok (.invokespecial 3, 3) := by decide +kernel
theorem dX2_init_4 : decode cX2_init 4 = .ok (.aload_n 0, 1) := by decide +kernel
theorem dX2_init_5 : decode cX2_init 5 = .ok (.new 9, 3) := by decide +kernel
theorem dX2_init_8 : decode cX2_init 8 = .ok (.dup, 1) := by decide +kernel
theorem dX2_init_9 : decode cX2_init 9 = .ok (.invokespecial 11, 3) := by decide +kernel
theorem dX2_init_12 : decode cX2_init 12 = .ok (.putfield 12, 3) := by decide +kernel
theorem dX2_init_15 : decode cX2_init 15 = .ok (.return_, 1) := by decide +kernel
theorem dX2_run_0 : decode cX2_run 0 = .ok (.aload_n 0, 1) := by decide +kernel
theorem dX2_run_1 : decode cX2_run 1 = .ok (.getfield 12, 3) := by decide +kernel
theorem dX2_run_4 : decode cX2_run 4 = .ok (.aload_n 1, 1) := by decide +kernel
theorem dX2_run_5 : decode cX2_run 5 = .ok (.invokevirtual 18, 3) := by decide +kernel
theorem dX2_run_8 : decode cX2_run 8 = .ok (.aload_n 0, 1) := by decide +kernel
theorem dX2_run_9 : decode cX2_run 9 = .ok (.iload_n 2, 1) := by decide +kernel
theorem dX2_run_10 : decode cX2_run 10 = .ok (.putfield 22, 3) := by decide +kernel
theorem dX2_run_13 : decode cX2_run 13 = .ok (.aload_n 0, 1) := by decide +kernel
theorem dX2_run_14 : decode cX2_run 14 = .ok (.getfield 12, 3) := by decide +kernel
theorem dX2_run_17 : decode cX2_run 17 = .ok (.invokevirtual 26, 3) := by decide +kernel
theorem dX2_run_20 : decode cX2_run 20 = .ok (.istore 4, 2) := by decide +kernel
theorem dX2_run_22 : decode cX2_run 22 = .ok (.iconst 0, 1) := by decide +kernel
theorem dX2_run_23 : decode cX2_run 23 = .ok (.istore 5, 2) := by decide +kernel
theorem dX2_run_25 : decode cX2_run 25 = .ok (.iload 4, 2) := by decide +kernel
theorem dX2_run_27 : decode cX2_run 27 = .ok (.ifCond .ne 30, 3) := by decide +kernel
theorem dX2_run_30 : decode cX2_run 30 = .ok (.iload 5, 2) := by decide +kernel
theorem dX2_run_32 : decode cX2_run 32 = .ok (.bipush 40, 2) := by decide +kernel
theorem dX2_run_34 : decode cX2_run 34 = .ok (.if_icmp .ge 23, 3) := by decide +kernel
theorem dX2_run_37 : decode cX2_run 37 = .ok (.aload_n 0, 1) := by decide +kernel
theorem dX2_run_38 : decode cX2_run 38 = .ok (.iload_n 3, 1) := by decide +kernel
theorem dX2_run_39 : decode cX2_run 39 = .ok (.invokevirtual 30, 3) := by decide +kernel
theorem dX2_run_42 : decode cX2_run 42 = .ok (.iinc 5 1, 3) := by decide +kernel
theorem dX2_run_45 : decode cX2_run 45 = .ok (.aload_n 0, 1) := by decide +kernel
theorem dX2_run_46 : decode cX2_run 46 = .ok (.getfield 12, 3) := by decide +kernel
theorem dX2_run_49 : decode cX2_run 49 = .ok (.invokevirtual 26, 3) := by decide +kernel
theorem dX2_run_52 : decode cX2_run 52 = .ok (.istore 4, 2) := by decide +kernel
theorem dX2_run_54 : decode cX2_run 54 = .ok (.goto (-29), 3) := by decide +kernel
theorem dX2_run_57 : decode cX2_run 57 = .ok (.aload_n 0, 1) := by decide +kernel
theorem dX2_run_58 : decode cX2_run 58 = .ok (.iload 4, 2) := by decide +kernel
theorem dX2_run_60 : decode cX2_run 60 = .ok (.ifCond .eq 8, 3) := by decide +kernel
theorem dX2_run_63 : decode cX2_run 63 = .ok (.iload 5, 2) := by decide +kernel
theorem dX2_run_65 : decode cX2_run 65 = .ok (.goto 4, 3) := by decide +kernel
theorem dX2_run_68 : decode cX2_run 68 = .ok (.iconst (-1), 1) := by decide +kernel
theorem dX2_run_69 : decode cX2_run 69 = .ok (.putfield 34, 3) := by decide +kernel
theorem dX2_run_72 : decode cX2_run 72 = .ok (.return_, 1) := by decide +kernel
theorem dX2_playRound_0 : decode cX2_playRound 0 = .ok (.aload_n 0, 1) := by decide +kernel
theorem dX2_playRound_1 : decode cX2_playRound 1 = .ok (.getfield 12, 3) := by decide +kernel
theorem dX2_playRound_4 : decode cX2_playRound 4 = .ok (.iconst 1, 1) := by decide +kernel
theorem dX2_playRound_5 : decode cX2_playRound 5 = .ok (.invokevirtual 37, 3) := by decide +kernel
theorem dX2_playRound_8 : decode cX2_playRound 8 = .ok (.pop, 1) := by decide +kernel
theorem dX2_playRound_9 : decode cX2_playRound 9 = .ok (.iconst 0, 1) := by decide +kernel
theorem dX2_playRound_10 : decode cX2_playRound 10 = .ok (.istore_n 2, 1) := by decide +kernel
theorem dX2_playRound_11 : decode cX2_playRound 11 = .ok (.iload_n 2, 1) := by decide +kernel
theorem dX2_playRound_12 : decode cX2_playRound 12 = .ok (.aload_n 0, 1) := by decide +kernel
theorem dX2_playRound_13 : decode cX2_playRound 13 = .ok (.getfield 12, 3) := by decide +kernel
theorem dX2_playRound_16 : decode cX2_playRound 16 = .ok (.getfield 41, 3) := by decide +kernel
theorem dX2_playRound_19 : decode cX2_playRound 19 = .ok (.if_icmp .ge 93, 3) := by decide +kernel
theorem dX2_playRound_22 : decode cX2_playRound 22 = .ok (.aload_n 0, 1) := by decide +kernel
theorem dX2_playRound_23 : decode cX2_playRound 23 = .ok (.getfield 12, 3) := by decide +kernel
theorem dX2_playRound_26 : decode cX2_playRound 26 = .ok (.iload_n 2, 1) := by decide +kernel
theorem dX2_playRound_27 : decode cX2_playRound 27 = .ok (.invokevirtual 44, 3) := by decide +kernel
theorem dX2_playRound_30 : decode cX2_playRound 30 = .ok (.ifCond .ne 76, 3) := by decide +kernel
theorem dX2_playRound_33 : decode cX2_playRound 33 = .ok (.aload_n 0, 1) := by decide +kernel
theorem dX2_playRound_34 : decode cX2_playRound 34 = .ok (.getfield 12, 3) := by decide +kernel
theorem dX2_playRound_37 : decode cX2_playRound 37 = .ok (.iload_n 2, 1) := by decide +kernel
theorem dX2_playRound_38 : decode cX2_playRound 38 = .ok (.invokevirtual 48, 3) := by decide +kernel
theorem dX2_playRound_41 : decode cX2_playRound 41 = .ok (.ifCond .ne 6, 3) := by decide +kernel
theorem dX2_playRound_44 : decode cX2_playRound 44 = .ok (.goto 62, 3) := by decide +kernel
theorem dX2_playRound_47 : decode cX2_playRound 47 = .ok (.aload_n 0, 1) := by decide +kernel
theorem dX2_playRound_48 : decode cX2_playRound 48 = .ok (.aload_n 0, 1) := by decide +kernel
theorem dX2_playRound_49 : decode cX2_playRound 49 = .ok (.getfield 22, 3) := by decide +kernel
theorem dX2_playRound_52 : decode cX2_playRound 52 = .ok (.invokestatic 51, 3) := by decide +kernel
theorem dX2_playRound_55 : decode cX2_playRound 55 = .ok (.putfield 22, 3) := by decide +kernel
theorem dX2_playRound_58 : decode cX2_playRound 58 = .ok (.aload_n 0, 1) := by decide +kernel
theorem dX2_playRound_59 : decode cX2_playRound 59 = .ok (.getfield 12, 3) := by decide +kernel
theorem dX2_playRound_62 : decode cX2_playRound 62 = .ok (.iload_n 2, 1) := by decide +kernel
theorem dX2_playRound_63 : decode cX2_playRound 63 = .ok (.aload_n 0, 1) := by decide +kernel
theorem dX2_playRound_64 : decode cX2_playRound 64 = .ok (.getfield 22, 3) := by decide +kernel
theorem dX2_playRound_67 : decode cX2_playRound 67 = .ok (.invokevirtual 54, 3) := by decide +kernel
theorem dX2_playRound_70 : decode cX2_playRound 70 = .ok (.istore_n 3, 1) := by decide +kernel
theorem dX2_playRound_71 : decode cX2_playRound 71 = .ok (.iload_n 3, 1) := by decide +kernel
theorem dX2_playRound_72 : decode cX2_playRound 72 = .ok (.iconst (-1), 1) := by decide +kernel
theorem dX2_playRound_73 : decode cX2_playRound 73 = .ok (.if_icmp .ne 6, 3) := by decide +kernel
theorem dX2_playRound_76 : decode cX2_playRound 76 = .ok (.goto 30, 3) := by decide +kernel
theorem dX2_playRound_79 : decode cX2_playRound 79 = .ok (.iload_n 1, 1) := by decide +kernel
theorem dX2_playRound_80 : decode cX2_playRound 80 = .ok (.ifCond .eq 16, 3) := by decide +kernel
theorem dX2_playRound_83 : decode cX2_playRound 83 = .ok (.aload_n 0, 1) := by decide +kernel
theorem dX2_playRound_84 : decode cX2_playRound 84 = .ok (.getfield 12, 3) := by decide +kernel
theorem dX2_playRound_87 : decode cX2_playRound 87 = .ok (.iload_n 2, 1) := by decide +kernel
theorem dX2_playRound_88 : decode cX2_playRound 88 = .ok (.iload_n 3, 1) := by decide +kernel
theorem dX2_playRound_89 : decode cX2_playRound 89 = .ok (.invokevirtual 58, 3) := by decide +kernel
theorem dX2_playRound_92 : decode cX2_playRound 92 = .ok (.pop, 1) := by decide +kernel
theorem dX2_playRound_93 : decode cX2_playRound 93 = .ok (.goto 13, 3) := by decide +kernel
theorem dX2_playRound_96 : decode cX2_playRound 96 = .ok (.aload_n 0, 1) := by decide +kernel
theorem dX2_playRound_97 : decode cX2_playRound 97 = .ok (.getfield 12, 3) := by decide +kernel
theorem dX2_playRound_100 : decode cX2_playRound 100 = .ok (.iload_n 2, 1) := by decide +kernel
theorem dX2_playRound_101 : decode cX2_playRound 101 = .ok (.iload_n 3, 1) := by decide +kernel
theorem dX2_playRound_102 : decode cX2_playRound 102 = .ok (.invokevirtual 61, 3) := by decide +kernel
theorem dX2_playRound_105 : decode cX2_playRound 105 = .ok (.pop, 1) := by decide +kernel
theorem dX2_playRound_106 : decode cX2_playRound 106 = .ok (.iinc 2 1, 3) := by decide +kernel
theorem dX2_playRound_109 : decode cX2_playRound 109 = .ok (.goto (-98), 3) := by decide +kernel
theorem dX2_playRound_112 : decode cX2_playRound 112 = .ok (.return_, 1) := by decide +kernel
theorem dX2_outcome_0 : decode cX2_outcome 0 = .ok (.iload_n 1, 1) := by decide +kernel
theorem dX2_outcome_1 : decode cX2_outcome 1 = .ok (.lookupswitch 40 #[(0, 27), (1, 32)], 27) := by decide +kernel
theorem dX2_outcome_28 : decode cX2_outcome 28 = .ok (.aload_n 0, 1) := by decide +kernel
theorem dX2_outcome_29 : decode cX2_outcome 29 = .ok (.getfield 34, 3) := by decide +kernel
theorem dX2_outcome_32 : decode cX2_outcome 32 = .ok (.ireturn, 1) := by decide +kernel
theorem dX2_outcome_33 : decode cX2_outcome 33 = .ok (.aload_n 0, 1) := by decide +kernel
theorem dX2_outcome_34 : decode cX2_outcome 34 = .ok (.getfield 12, 3) := by decide +kernel
theorem dX2_outcome_37 : decode cX2_outcome 37 = .ok (.getfield 64, 3) := by decide +kernel
theorem dX2_outcome_40 : decode cX2_outcome 40 = .ok (.ireturn, 1) := by decide +kernel
theorem dX2_outcome_41 : decode cX2_outcome 41 = .ok (.aload_n 0, 1) := by decide +kernel
theorem dX2_outcome_42 : decode cX2_outcome 42 = .ok (.getfield 22, 3) := by decide +kernel
theorem dX2_outcome_45 : decode cX2_outcome 45 = .ok (.ireturn, 1) := by decide +kernel
theorem dJ6_bitCount_0f7a4_0 : decode cJ6_bitCount_0f7a4 0 = .ok (.iload_n 0, 1) := by decide +kernel
theorem dJ6_bitCount_0f7a4_1 : decode cJ6_bitCount_0f7a4 1 = .ok (.iload_n 0, 1) := by decide +kernel
theorem dJ6_bitCount_0f7a4_2 : decode cJ6_bitCount_0f7a4 2 = .ok (.iconst 1, 1) := by decide +kernel
theorem dJ6_bitCount_0f7a4_3 : decode cJ6_bitCount_0f7a4 3 = .ok (.iushr, 1) := by decide +kernel
theorem dJ6_bitCount_0f7a4_4 : decode cJ6_bitCount_0f7a4 4 = .ok (.ldc_w 265, 3) := by decide +kernel
theorem dJ6_bitCount_0f7a4_7 : decode cJ6_bitCount_0f7a4 7 = .ok (.iand, 1) := by decide +kernel
theorem dJ6_bitCount_0f7a4_8 : decode cJ6_bitCount_0f7a4 8 = .ok (.isub, 1) := by decide +kernel
theorem dJ6_bitCount_0f7a4_9 : decode cJ6_bitCount_0f7a4 9 = .ok (.istore_n 0, 1) := by decide +kernel
theorem dJ6_bitCount_0f7a4_10 : decode cJ6_bitCount_0f7a4 10 = .ok (.iload_n 0, 1) := by decide +kernel
theorem dJ6_bitCount_0f7a4_11 : decode cJ6_bitCount_0f7a4 11 = .ok (.ldc_w 266, 3) := by decide +kernel
theorem dJ6_bitCount_0f7a4_14 : decode cJ6_bitCount_0f7a4 14 = .ok (.iand, 1) := by decide +kernel
theorem dJ6_bitCount_0f7a4_15 : decode cJ6_bitCount_0f7a4 15 = .ok (.iload_n 0, 1) := by decide +kernel
theorem dJ6_bitCount_0f7a4_16 : decode cJ6_bitCount_0f7a4 16 = .ok (.iconst 2, 1) := by decide +kernel
theorem dJ6_bitCount_0f7a4_17 : decode cJ6_bitCount_0f7a4 17 = .ok (.iushr, 1) := by decide +kernel
theorem dJ6_bitCount_0f7a4_18 : decode cJ6_bitCount_0f7a4 18 = .ok (.ldc_w 266, 3) := by decide +kernel
theorem dJ6_bitCount_0f7a4_21 : decode cJ6_bitCount_0f7a4 21 = .ok (.iand, 1) := by decide +kernel
theorem dJ6_bitCount_0f7a4_22 : decode cJ6_bitCount_0f7a4 22 = .ok (.iadd, 1) := by decide +kernel
theorem dJ6_bitCount_0f7a4_23 : decode cJ6_bitCount_0f7a4 23 = .ok (.istore_n 0, 1) := by decide +kernel
theorem dJ6_bitCount_0f7a4_24 : decode cJ6_bitCount_0f7a4 24 = .ok (.iload_n 0, 1) := by decide +kernel
theorem dJ6_bitCount_0f7a4_25 : decode cJ6_bitCount_0f7a4 25 = .ok (.iload_n 0, 1) := by decide +kernel
theorem dJ6_bitCount_0f7a4_26 : decode cJ6_bitCount_0f7a4 26 = .ok (.iconst 4, 1) := by decide +kernel
theorem dJ6_bitCount_0f7a4_27 : decode cJ6_bitCount_0f7a4 27 = .ok (.iushr, 1) := by decide +kernel
theorem dJ6_bitCount_0f7a4_28 : decode cJ6_bitCount_0f7a4 28 = .ok (.iadd, 1) := by decide +kernel
theorem dJ6_bitCount_0f7a4_29 : decode cJ6_bitCount_0f7a4 29 = .ok (.ldc_w 267, 3) := by decide +kernel
theorem dJ6_bitCount_0f7a4_32 : decode cJ6_bitCount_0f7a4 32 = .ok (.iand, 1) := by decide +kernel
theorem dJ6_bitCount_0f7a4_33 : decode cJ6_bitCount_0f7a4 33 = .ok (.istore_n 0, 1) := by decide +kernel
theorem dJ6_bitCount_0f7a4_34 : decode cJ6_bitCount_0f7a4 34 = .ok (.iload_n 0, 1) := by decide +kernel
theorem dJ6_bitCount_0f7a4_35 : decode cJ6_bitCount_0f7a4 35 = .ok (.iload_n 0, 1) := by decide +kernel
theorem dJ6_bitCount_0f7a4_36 : decode cJ6_bitCount_0f7a4 36 = .ok (.bipush 8, 2) := by decide +kernel
theorem dJ6_bitCount_0f7a4_38 : decode cJ6_bitCount_0f7a4 38 = .ok (.iushr, 1) := by decide +kernel
theorem dJ6_bitCount_0f7a4_39 : decode cJ6_bitCount_0f7a4 39 = .ok (.iadd, 1) := by decide +kernel
theorem dJ6_bitCount_0f7a4_40 : decode cJ6_bitCount_0f7a4 40 = .ok (.istore_n 0, 1) := by decide +kernel
theorem dJ6_bitCount_0f7a4_41 : decode cJ6_bitCount_0f7a4 41 = .ok (.iload_n 0, 1) := by decide +kernel
theorem dJ6_bitCount_0f7a4_42 : decode cJ6_bitCount_0f7a4 42 = .ok (.iload_n 0, 1) := by decide +kernel
theorem dJ6_bitCount_0f7a4_43 : decode cJ6_bitCount_0f7a4 43 = .ok (.bipush 16, 2) := by decide +kernel
theorem dJ6_bitCount_0f7a4_45 : decode cJ6_bitCount_0f7a4 45 = .ok (.iushr, 1) := by decide +kernel
theorem dJ6_bitCount_0f7a4_46 : decode cJ6_bitCount_0f7a4 46 = .ok (.iadd, 1) := by decide +kernel
theorem dJ6_bitCount_0f7a4_47 : decode cJ6_bitCount_0f7a4 47 = .ok (.istore_n 0, 1) := by decide +kernel
theorem dJ6_bitCount_0f7a4_48 : decode cJ6_bitCount_0f7a4 48 = .ok (.iload_n 0, 1) := by decide +kernel
theorem dJ6_bitCount_0f7a4_49 : decode cJ6_bitCount_0f7a4 49 = .ok (.bipush 63, 2) := by decide +kernel
theorem dJ6_bitCount_0f7a4_51 : decode cJ6_bitCount_0f7a4 51 = .ok (.iand, 1) := by decide +kernel
theorem dJ6_bitCount_0f7a4_52 : decode cJ6_bitCount_0f7a4 52 = .ok (.ireturn, 1) := by decide +kernel
theorem dJ9_abs_0f7a4_0 : decode cJ9_abs_0f7a4 0 = .ok (.iload_n 0, 1) := by decide +kernel
theorem dJ9_abs_0f7a4_1 : decode cJ9_abs_0f7a4 1 = .ok (.ifCond .ge 8, 3) := by decide +kernel
theorem dJ9_abs_0f7a4_4 : decode cJ9_abs_0f7a4 4 = .ok (.iload_n 0, 1) := by decide +kernel
theorem dJ9_abs_0f7a4_5 : decode cJ9_abs_0f7a4 5 = .ok (.ineg, 1) := by decide +kernel
theorem dJ9_abs_0f7a4_6 : decode cJ9_abs_0f7a4 6 = .ok (.goto 4, 3) := by decide +kernel
theorem dJ9_abs_0f7a4_9 : decode cJ9_abs_0f7a4 9 = .ok (.iload_n 0, 1) := by decide +kernel
theorem dJ9_abs_0f7a4_10 : decode cJ9_abs_0f7a4 10 = .ok (.ireturn, 1) := by decide +kernel
theorem dX3_init_0 : decode cX3_init 0 = .ok (.aload_n 0, 1) := by decide +kernel
theorem dX3_init_1 : decode cX3_init 1 = .ok (.invokespecial 3, 3) := by decide +kernel
theorem dX3_init_4 : decode cX3_init 4 = .ok (.aload_n 0, 1) := by decide +kernel
theorem dX3_init_5 : decode cX3_init 5 = .ok (.iconst 4, 1) := by decide +kernel
theorem dX3_init_6 : decode cX3_init 6 = .ok (.newarray .int, 2) := by decide +kernel
theorem dX3_init_8 : decode cX3_init 8 = .ok (.dup, 1) := by decide +kernel
theorem dX3_init_9 : decode cX3_init 9 = .ok (.iconst 0, 1) := by decide +kernel
theorem dX3_init_10 : decode cX3_init 10 = .ok (.bipush 10, 2) := by decide +kernel
theorem dX3_init_12 : decode cX3_init 12 = .ok (.iastore, 1) := by decide +kernel
theorem dX3_init_13 : decode cX3_init 13 = .ok (.dup, 1) := by decide +kernel
theorem dX3_init_14 : decode cX3_init 14 = .ok (.iconst 1, 1) := by decide +kernel
theorem dX3_init_15 : decode cX3_init 15 = .ok (.bipush 40, 2) := by decide +kernel
theorem dX3_init_17 : decode cX3_init 17 = .ok (.iastore, 1) := by decide +kernel
theorem dX3_init_18 : decode cX3_init 18 = .ok (.dup, 1) := by decide +kernel
theorem dX3_init_19 : decode cX3_init 19 = .ok (.iconst 2, 1) := by decide +kernel
theorem dX3_init_20 : decode cX3_init 20 = .ok (.iconst 2, 1) := by decide +kernel
theorem dX3_init_21 : decode cX3_init 21 = .ok (.iastore, 1) := by decide +kernel
theorem dX3_init_22 : decode cX3_init 22 = .ok (.dup, 1) := by decide +kernel
theorem dX3_init_23 : decode cX3_init 23 = .ok (.iconst 3, 1) := by decide +kernel
theorem dX3_init_24 : decode cX3_init 24 = .ok (.iconst 5, 1) := by decide +kernel
theorem dX3_init_25 : decode cX3_init 25 = .ok (.iastore, 1) := by decide +kernel
theorem dX3_init_26 : decode cX3_init 26 = .ok (.putfield 9, 3) := by decide +kernel
theorem dX3_init_29 : decode cX3_init 29 = .ok (.aload_n 0, 1) := by decide +kernel
theorem dX3_init_30 : decode cX3_init 30 = .ok (.bipush 6, 2) := by decide +kernel
theorem dX3_init_32 : decode cX3_init 32 = .ok (.newarray .int, 2) := by decide +kernel
theorem dX3_init_34 : decode cX3_init 34 = .ok (.putfield 15, 3) := by decide +kernel
theorem dX3_init_37 : decode cX3_init 37 = .ok (.aload_n 0, 1) := by decide +kernel
theorem dX3_init_38 : decode cX3_init 38 = .ok (.bipush 24, 2) := by decide +kernel
theorem dX3_init_40 : decode cX3_init 40 = .ok (.anewarray 18, 3) := by decide +kernel
theorem dX3_init_43 : decode cX3_init 43 = .ok (.putfield 20, 3) := by decide +kernel
theorem dX3_init_46 : decode cX3_init 46 = .ok (.aload_n 0, 1) := by decide +kernel
theorem dX3_init_47 : decode cX3_init 47 = .ok (.iconst 4, 1) := by decide +kernel
theorem dX3_init_48 : decode cX3_init 48 = .ok (.newarray .int, 2) := by decide +kernel
theorem dX3_init_50 : decode cX3_init 50 = .ok (.putfield 24, 3) := by decide +kernel
theorem dX3_init_53 : decode cX3_init 53 = .ok (.iconst 0, 1) := by decide +kernel
theorem dX3_init_54 : decode cX3_init 54 = .ok (.istore_n 1, 1) := by decide +kernel
theorem dX3_init_55 : decode cX3_init 55 = .ok (.iload_n 1, 1) := by decide +kernel
theorem dX3_init_56 : decode cX3_init 56 = .ok (.aload_n 0, 1) := by decide +kernel
theorem dX3_init_57 : decode cX3_init 57 = .ok (.getfield 20, 3) := by decide +kernel
theorem dX3_init_60 : decode cX3_init 60 = .ok (.arraylength, 1) := by decide +kernel
theorem dX3_init_61 : decode cX3_init 61 = .ok (.if_icmp .ge 22, 3) := by decide +kernel
theorem dX3_init_64 : decode cX3_init 64 = .ok (.aload_n 0, 1) := by decide +kernel
theorem dX3_init_65 : decode cX3_init 65 = .ok (.getfield 20, 3) := by decide +kernel
theorem dX3_init_68 : decode cX3_init 68 = .ok (.iload_n 1, 1) := by decide +kernel
theorem dX3_init_69 : decode cX3_init 69 = .ok (.new 18, 3) := by decide +kernel
theorem dX3_init_72 : decode cX3_init 72 = .ok (.dup, 1) := by decide +kernel
theorem dX3_init_73 : decode cX3_init 73 = .ok (.invokespecial 27, 3) := by decide +kernel
theorem dX3_init_76 : decode cX3_init 76 = .ok (.aastore, 1) := by decide +kernel
theorem dX3_init_77 : decode cX3_init 77 = .ok (.iinc 1 1, 3) := by decide +kernel
theorem dX3_init_80 : decode cX3_init 80 = .ok (.goto (-25), 3) := by decide +kernel
theorem dX3_init_83 : decode cX3_init 83 = .ok (.return_, 1) := by decide +kernel
theorem dX3_startLine_0 : decode cX3_startLine 0 = .ok (.aload_n 0, 1) := by decide +kernel
theorem dX3_startLine_1 : decode cX3_startLine 1 = .ok (.aload_n 1, 1) := by decide +kernel
theorem dX3_startLine_2 : decode cX3_startLine 2 = .ok (.getfield 28, 3) := by decide +kernel
theorem dX3_startLine_5 : decode cX3_startLine 5 = .ok (.putfield 34, 3) := by decide +kernel
theorem dX3_startLine_8 : decode cX3_startLine 8 = .ok (.aload_n 0, 1) := by decide +kernel
theorem dX3_startLine_9 : decode cX3_startLine 9 = .ok (.iconst 0, 1) := by decide +kernel
theorem dX3_startLine_10 : decode cX3_startLine 10 = .ok (.putfield 37, 3) := by decide +kernel
theorem dX3_startLine_13 : decode cX3_startLine 13 = .ok (.aload_n 0, 1) := by decide +kernel
theorem dX3_startLine_14 : decode cX3_startLine 14 = .ok (.iconst 0, 1) := by decide +kernel
theorem dX3_startLine_15 : decode cX3_startLine 15 = .ok (.putfield 40, 3) := by decide +kernel
theorem dX3_startLine_18 : decode cX3_startLine 18 = .ok (.aload_n 0, 1) := by decide +kernel
theorem dX3_startLine_19 : decode cX3_startLine 19 = .ok (.iconst 0, 1) := by decide +kernel
theorem dX3_startLine_20 : decode cX3_startLine 20 = .ok (.putfield 43, 3) := by decide +kernel
theorem dX3_startLine_23 : decode cX3_startLine 23 = .ok (.aload_n 0, 1) := by decide +kernel
theorem dX3_startLine_24 : decode cX3_startLine 24 = .ok (.iconst 0, 1) := by decide +kernel
theorem dX3_startLine_25 : decode cX3_startLine 25 = .ok (.putfield 46, 3) := by decide +kernel
theorem dX3_startLine_28 : decode cX3_startLine 28 = .ok (.aload_n 0, 1) := by decide +kernel
theorem dX3_startLine_29 : decode cX3_startLine 29 = .ok (.iconst 0, 1) := by decide +kernel
theorem dX3_startLine_30 : decode cX3_startLine 30 = .ok (.putfield 49, 3) := by decide +kernel
theorem dX3_startLine_33 : decode cX3_startLine 33 = .ok (.iconst 0, 1) := by decide +kernel
theorem dX3_startLine_34 : decode cX3_startLine 34 = .ok (.istore_n 2, 1) := by decide +kernel
theorem dX3_startLine_35 : decode cX3_startLine 35 = .ok (.iload_n 2, 1) := by decide +kernel
theorem dX3_startLine_36 : decode cX3_startLine 36 = .ok (.bipush 6, 2) := by decide +kernel
theorem dX3_startLine_38 : decode cX3_startLine 38 = .ok (.if_icmp .ge 21, 3) := by decide +kernel
theorem dX3_startLine_41 : decode cX3_startLine 41 = .ok (.aload_n 0, 1) := by decide +kernel
theorem dX3_startLine_42 : decode cX3_startLine 42 = .ok (.getfield 15, 3) := by decide +kernel
theorem dX3_startLine_45 : decode cX3_startLine 45 = .ok (.iload_n 2, 1) := by decide +kernel
theorem dX3_startLine_46 : decode cX3_startLine 46 = .ok (.aload_n 1, 1) := by decide +kernel
theorem dX3_startLine_47 : decode cX3_startLine 47 = .ok (.getfield 52, 3) := by decide +kernel
theorem dX3_startLine_50 : decode cX3_startLine 50 = .ok (.iload_n 2, 1) := by decide +kernel
theorem dX3_startLine_51 : decode cX3_startLine 51 = .ok (.iaload, 1) := by decide +kernel
theorem dX3_startLine_52 : decode cX3_startLine 52 = .ok (.iastore, 1) := by decide +kernel
theorem dX3_startLine_53 : decode cX3_startLine 53 = .ok (.iinc 2 1, 3) := by decide +kernel
theorem dX3_startLine_56 : decode cX3_startLine 56 = .ok (.goto (-21), 3) := by decide +kernel
theorem dX3_startLine_59 : decode cX3_startLine 59 = .ok (.iconst 0, 1) := by decide +kernel
theorem dX3_startLine_60 : decode cX3_startLine 60 = .ok (.istore_n 2, 1) := by decide +kernel
theorem dX3_startLine_61 : decode cX3_startLine 61 = .ok (.iload_n 2, 1) := by decide +kernel
theorem dX3_startLine_62 : decode cX3_startLine 62 = .ok (.iconst 4, 1) := by decide +kernel
theorem dX3_startLine_63 : decode cX3_startLine 63 = .ok (.if_icmp .ge 16, 3) := by decide +kernel
theorem dX3_startLine_66 : decode cX3_startLine 66 = .ok (.aload_n 0, 1) := by decide +kernel
theorem dX3_startLine_67 : decode cX3_startLine 67 = .ok (.getfield 24, 3) := by decide +kernel
theorem dX3_startLine_70 : decode cX3_startLine 70 = .ok (.iload_n 2, 1) := by decide +kernel
theorem dX3_startLine_71 : decode cX3_startLine 71 = .ok (.iconst 0, 1) := by decide +kernel
theorem dX3_startLine_72 : decode cX3_startLine 72 = .ok (.iastore, 1) := by decide +kernel
theorem dX3_startLine_73 : decode cX3_startLine 73 = .ok (.iinc 2 1, 3) := by decide +kernel
theorem dX3_startLine_76 : decode cX3_startLine 76 = .ok (.goto (-15), 3) := by decide +kernel
theorem dX3_startLine_79 : decode cX3_startLine 79 = .ok (.iconst 0, 1) := by decide +kernel
theorem dX3_startLine_80 : decode cX3_startLine 80 = .ok (.istore_n 2, 1) := by decide +kernel
theorem dX3_startLine_81 : decode cX3_startLine 81 = .ok (.iload_n 2, 1) := by decide +kernel
theorem dX3_startLine_82 : decode cX3_startLine 82 = .ok (.aload_n 0, 1) := by decide +kernel
theorem dX3_startLine_83 : decode cX3_startLine 83 = .ok (.getfield 20, 3) := by decide +kernel
theorem dX3_startLine_86 : decode cX3_startLine 86 = .ok (.arraylength, 1) := by decide +kernel
theorem dX3_startLine_87 : decode cX3_startLine 87 = .ok (.if_icmp .ge 18, 3) := by decide +kernel
theorem dX3_startLine_90 : decode cX3_startLine 90 = .ok (.aload_n 0, 1) := by decide +kernel
theorem dX3_startLine_91 : decode cX3_startLine 91 = .ok (.getfield 20, 3) := by decide +kernel
theorem dX3_startLine_94 : decode cX3_startLine 94 = .ok (.iload_n 2, 1) := by decide +kernel
theorem dX3_startLine_95 : decode cX3_startLine 95 = .ok (.aaload, 1) := by decide +kernel
theorem dX3_startLine_96 : decode cX3_startLine 96 = .ok (.invokevirtual 55, 3) := by decide +kernel
theorem dX3_startLine_99 : decode cX3_startLine 99 = .ok (.iinc 2 1, 3) := by decide +kernel
theorem dX3_startLine_102 : decode cX3_startLine 102 = .ok (.goto (-21), 3) := by decide +kernel
theorem dX3_startLine_105 : decode cX3_startLine 105 = .ok (.return_, 1) := by decide +kernel
theorem dX3_startTrial_0 : decode cX3_startTrial 0 = .ok (.aload_n 0, 1) := by decide +kernel
theorem dX3_startTrial_1 : decode cX3_startTrial 1 = .ok (.aload_n 1, 1) := by decide +kernel
theorem dX3_startTrial_2 : decode cX3_startTrial 2 = .ok (.getfield 34, 3) := by decide +kernel
theorem dX3_startTrial_5 : decode cX3_startTrial 5 = .ok (.putfield 34, 3) := by decide +kernel
theorem dX3_startTrial_8 : decode cX3_startTrial 8 = .ok (.aload_n 0, 1) := by decide +kernel
theorem dX3_startTrial_9 : decode cX3_startTrial 9 = .ok (.aload_n 1, 1) := by decide +kernel
theorem dX3_startTrial_10 : decode cX3_startTrial 10 = .ok (.getfield 37, 3) := by decide +kernel
theorem dX3_startTrial_13 : decode cX3_startTrial 13 = .ok (.putfield 37, 3) := by decide +kernel
theorem dX3_startTrial_16 : decode cX3_startTrial 16 = .ok (.aload_n 0, 1) := by decide +kernel
theorem dX3_startTrial_17 : decode cX3_startTrial 17 = .ok (.aload_n 1, 1) := by decide +kernel
theorem dX3_startTrial_18 : decode cX3_startTrial 18 = .ok (.getfield 40, 3) := by decide +kernel
theorem dX3_startTrial_21 : decode cX3_startTrial 21 = .ok (.putfield 40, 3) := by decide +kernel
theorem dX3_startTrial_24 : decode cX3_startTrial 24 = .ok (.aload_n 0, 1) := by decide +kernel
theorem dX3_startTrial_25 : decode cX3_startTrial 25 = .ok (.iconst 0, 1) := by decide +kernel
theorem dX3_startTrial_26 : decode cX3_startTrial 26 = .ok (.putfield 43, 3) := by decide +kernel
theorem dX3_startTrial_29 : decode cX3_startTrial 29 = .ok (.aload_n 1, 1) := by decide +kernel
theorem dX3_startTrial_30 : decode cX3_startTrial 30 = .ok (.getfield 9, 3) := by decide +kernel
theorem dX3_startTrial_33 : decode cX3_startTrial 33 = .ok (.iconst 0, 1) := by decide +kernel
theorem dX3_startTrial_34 : decode cX3_startTrial 34 = .ok (.aload_n 0, 1) := by decide +kernel
theorem dX3_startTrial_35 : decode cX3_startTrial 35 = .ok (.getfield 9, 3) := by decide +kernel
theorem dX3_startTrial_38 : decode cX3_startTrial 38 = .ok (.iconst 0, 1) := by decide +kernel
theorem dX3_startTrial_39 : decode cX3_startTrial 39 = .ok (.aload_n 0, 1) := by decide +kernel
theorem dX3_startTrial_40 : decode cX3_startTrial 40 = .ok (.getfield 9, 3) := by decide +kernel
theorem dX3_startTrial_43 : decode cX3_startTrial 43 = .ok (.arraylength, 1) := by decide +kernel
theorem dX3_startTrial_44 : decode cX3_startTrial 44 = .ok (.invokestatic 58, 3) := by decide +kernel
theorem dX3_startTrial_47 : decode cX3_startTrial 47 = .ok (.aload_n 1, 1) := by decide +kernel
theorem dX3_startTrial_48 : decode cX3_startTrial 48 = .ok (.getfield 15, 3) := by decide +kernel
theorem dX3_startTrial_51 : decode cX3_startTrial 51 = .ok (.iconst 0, 1) := by decide +kernel
theorem dX3_startTrial_52 : decode cX3_startTrial 52 = .ok (.aload_n 0, 1) := by decide +kernel
theorem dX3_startTrial_53 : decode cX3_startTrial 53 = .ok (.getfield 15, 3) := by decide +kernel
theorem dX3_startTrial_56 : decode cX3_startTrial 56 = .ok (.iconst 0, 1) := by decide +kernel
theorem dX3_startTrial_57 : decode cX3_startTrial 57 = .ok (.bipush 6, 2) := by decide +kernel
theorem dX3_startTrial_59 : decode cX3_startTrial 59 = .ok (.invokestatic 58, 3) := by decide +kernel
theorem dX3_startTrial_62 : decode cX3_startTrial 62 = .ok (.iconst 0, 1) := by decide +kernel
theorem dX3_startTrial_63 : decode cX3_startTrial 63 = .ok (.istore_n 2, 1) := by decide +kernel
theorem dX3_startTrial_64 : decode cX3_startTrial 64 = .ok (.iload_n 2, 1) := by decide +kernel
theorem dX3_startTrial_65 : decode cX3_startTrial 65 = .ok (.aload_n 0, 1) := by decide +kernel
theorem dX3_startTrial_66 : decode cX3_startTrial 66 = .ok (.getfield 20, 3) := by decide +kernel
theorem dX3_startTrial_69 : decode cX3_startTrial 69 = .ok (.arraylength, 1) := by decide +kernel
theorem dX3_startTrial_70 : decode cX3_startTrial 70 = .ok (.if_icmp .ge 33, 3) := by decide +kernel
theorem dX3_startTrial_73 : decode cX3_startTrial 73 = .ok (.aload_n 0, 1) := by decide +kernel
theorem dX3_startTrial_74 : decode cX3_startTrial 74 = .ok (.getfield 20, 3) := by decide +kernel
theorem dX3_startTrial_77 : decode cX3_startTrial 77 = .ok (.iload_n 2, 1) := by decide +kernel
theorem dX3_startTrial_78 : decode cX3_startTrial 78 = .ok (.aaload, 1) := by decide +kernel
theorem dX3_startTrial_79 : decode cX3_startTrial 79 = .ok (.aload_n 1, 1) := by decide +kernel
theorem dX3_startTrial_80 : decode cX3_startTrial 80 = .ok (.getfield 20, 3) := by decide +kernel
theorem dX3_startTrial_83 : decode cX3_startTrial 83 = .ok (.iload_n 2, 1) := by decide +kernel
theorem dX3_startTrial_84 : decode cX3_startTrial 84 = .ok (.aaload, 1) := by decide +kernel
theorem dX3_startTrial_85 : decode cX3_startTrial 85 = .ok (.aload_n 1, 1) := by decide +kernel
theorem dX3_startTrial_86 : decode cX3_startTrial 86 = .ok (.getfield 20, 3) := by decide +kernel
theorem dX3_startTrial_89 : decode cX3_startTrial 89 = .ok (.iload_n 2, 1) := by decide +kernel
theorem dX3_startTrial_90 : decode cX3_startTrial 90 = .ok (.aaload, 1) := by decide +kernel
theorem dX3_startTrial_91 : decode cX3_startTrial 91 = .ok (.getfield 64, 3) := by decide +kernel
theorem dX3_startTrial_94 : decode cX3_startTrial 94 = .ok (.invokevirtual 67, 3) := by decide +kernel
theorem dX3_startTrial_97 : decode cX3_startTrial 97 = .ok (.iinc 2 1, 3) := by decide +kernel
theorem dX3_startTrial_100 : decode cX3_startTrial 100 = .ok (.goto (-36), 3) := by decide +kernel
theorem dX3_startTrial_103 : decode cX3_startTrial 103 = .ok (.return_, 1) := by decide +kernel
theorem dX3_knowsSite_0 : decode cX3_knowsSite 0 = .ok (.iload_n 1, 1) := by decide +kernel
theorem dX3_knowsSite_1 : decode cX3_knowsSite 1 = .ok (.ifCond .lt 15, 3) := by decide +kernel
theorem dX3_knowsSite_4 : decode cX3_knowsSite 4 = .ok (.iload_n 1, 1) := by decide +kernel
theorem dX3_knowsSite_5 : decode cX3_knowsSite 5 = .ok (.aload_n 0, 1) := by decide +kernel
theorem dX3_knowsSite_6 : decode cX3_knowsSite 6 = .ok (.getfield 34, 3) := by decide +kernel
theorem dX3_knowsSite_9 : decode cX3_knowsSite 9 = .ok (.if_icmp .ge 7, 3) := by decide +kernel
theorem dX3_knowsSite_12 : decode cX3_knowsSite 12 = .ok (.iconst 1, 1) := by decide +kernel
theorem dX3_knowsSite_13 : decode cX3_knowsSite 13 = .ok (.goto 4, 3) := by decide +kernel
theorem dX3_knowsSite_16 : decode cX3_knowsSite 16 = .ok (.iconst 0, 1) := by decide +kernel
theorem dX3_knowsSite_17 : decode cX3_knowsSite 17 = .ok (.ireturn, 1) := by decide +kernel
theorem dX3_isOff_0 : decode cX3_isOff 0 = .ok (.aload_n 0, 1) := by decide +kernel
theorem dX3_isOff_1 : decode cX3_isOff 1 = .ok (.getfield 40, 3) := by decide +kernel
theorem dX3_isOff_4 : decode cX3_isOff 4 = .ok (.iload_n 1, 1) := by decide +kernel
theorem dX3_isOff_5 : decode cX3_isOff 5 = .ok (.ishr, 1) := by decide +kernel
theorem dX3_isOff_6 : decode cX3_isOff 6 = .ok (.iconst 1, 1) := by decide +kernel
theorem dX3_isOff_7 : decode cX3_isOff 7 = .ok (.iand, 1) := by decide +kernel
theorem dX3_isOff_8 : decode cX3_isOff 8 = .ok (.iconst 1, 1) := by decide +kernel
theorem dX3_isOff_9 : decode cX3_isOff 9 = .ok (.if_icmp .ne 7, 3) := by decide +kernel
theorem dX3_isOff_12 : decode cX3_isOff 12 = .ok (.iconst 1, 1) := by decide +kernel
theorem dX3_isOff_13 : decode cX3_isOff 13 = .ok (.goto 4, 3) := by decide +kernel
theorem dX3_isOff_16 : decode cX3_isOff 16 = .ok (.iconst 0, 1) := by decide +kernel
theorem dX3_isOff_17 : decode cX3_isOff 17 = .ok (.ireturn, 1) := by decide +kernel
theorem dX3_itemAt_0 : decode cX3_itemAt 0 = .ok (.aload_n 0, 1) := by decide +kernel
theorem dX3_itemAt_1 : decode cX3_itemAt 1 = .ok (.getfield 20, 3) := by decide +kernel
theorem dX3_itemAt_4 : decode cX3_itemAt 4 = .ok (.iload_n 1, 1) := by decide +kernel
theorem dX3_itemAt_5 : decode cX3_itemAt 5 = .ok (.iconst 4, 1) := by decide +kernel
theorem dX3_itemAt_6 : decode cX3_itemAt 6 = .ok (.imul, 1) := by decide +kernel
theorem dX3_itemAt_7 : decode cX3_itemAt 7 = .ok (.iload_n 2, 1) := by decide +kernel
theorem dX3_itemAt_8 : decode cX3_itemAt 8 = .ok (.iadd, 1) := by decide +kernel
theorem dX3_itemAt_9 : decode cX3_itemAt 9 = .ok (.aaload, 1) := by decide +kernel
theorem dX3_itemAt_10 : decode cX3_itemAt 10 = .ok (.areturn, 1) := by decide +kernel
theorem dX3_advance_0 : decode cX3_advance 0 = .ok (.aload_n 0, 1) := by decide +kernel
theorem dX3_advance_1 : decode cX3_advance 1 = .ok (.dup, 1) := by decide +kernel
theorem dX3_advance_2 : decode cX3_advance 2 = .ok (.getfield 37, 3) := by decide +kernel
theorem dX3_advance_5 : decode cX3_advance 5 = .ok (.iload_n 1, 1) := by decide +kernel
theorem dX3_advance_6 : decode cX3_advance 6 = .ok (.iadd, 1) := by decide +kernel
theorem dX3_advance_7 : decode cX3_advance 7 = .ok (.putfield 37, 3) := by decide +kernel
theorem dX3_advance_10 : decode cX3_advance 10 = .ok (.aload_n 0, 1) := by decide +kernel
theorem dX3_advance_11 : decode cX3_advance 11 = .ok (.invokevirtual 71, 3) := by decide +kernel
theorem dX3_advance_14 : decode cX3_advance 14 = .ok (.ireturn, 1) := by decide +kernel
theorem dX3_dropGone_0 : decode cX3_dropGone 0 = .ok (.iconst 0, 1) := by decide +kernel
theorem dX3_dropGone_1 : decode cX3_dropGone 1 = .ok (.istore_n 1, 1) := by decide +kernel
theorem dX3_dropGone_2 : decode cX3_dropGone 2 = .ok (.iconst 0, 1) := by decide +kernel
theorem dX3_dropGone_3 : decode cX3_dropGone 3 = .ok (.istore_n 2, 1) := by decide +kernel
theorem dX3_dropGone_4 : decode cX3_dropGone 4 = .ok (.iload_n 2, 1) := by decide +kernel
theorem dX3_dropGone_5 : decode cX3_dropGone 5 = .ok (.aload_n 0, 1) := by decide +kernel
theorem dX3_dropGone_6 : decode cX3_dropGone 6 = .ok (.getfield 34, 3) := by decide +kernel
theorem dX3_dropGone_9 : decode cX3_dropGone 9 = .ok (.if_icmp .ge 57, 3) := by decide +kernel
theorem dX3_dropGone_12 : decode cX3_dropGone 12 = .ok (.iconst 0, 1) := by decide +kernel
theorem dX3_dropGone_13 : decode cX3_dropGone 13 = .ok (.istore_n 3, 1) := by decide +kernel
theorem dX3_dropGone_14 : decode cX3_dropGone 14 = .ok (.iload_n 3, 1) := by decide +kernel
theorem dX3_dropGone_15 : decode cX3_dropGone 15 = .ok (.iconst 4, 1) := by decide +kernel
theorem dX3_dropGone_16 : decode cX3_dropGone 16 = .ok (.if_icmp .ge 44, 3) := by decide +kernel
theorem dX3_dropGone_19 : decode cX3_dropGone 19 = .ok (.aload_n 0, 1) := by decide +kernel
theorem dX3_dropGone_20 : decode cX3_dropGone 20 = .ok (.iload_n 2, 1) := by decide +kernel
theorem dX3_dropGone_21 : decode cX3_dropGone 21 = .ok (.iload_n 3, 1) := by decide +kernel
theorem dX3_dropGone_22 : decode cX3_dropGone 22 = .ok (.invokevirtual 75, 3) := by decide +kernel
theorem dX3_dropGone_25 : decode cX3_dropGone 25 = .ok (.astore 4, 2) := by decide +kernel
theorem dX3_dropGone_27 : decode cX3_dropGone 27 = .ok (.aload_n 0, 1) := by decide +kernel
theorem dX3_dropGone_28 : decode cX3_dropGone 28 = .ok (.aload 4, 2) := by decide +kernel
theorem dX3_dropGone_30 : decode cX3_dropGone 30 = .ok (.invokevirtual 79, 3) := by decide +kernel
theorem dX3_dropGone_33 : decode cX3_dropGone 33 = .ok (.ifCond .eq 21, 3) := by decide +kernel
theorem dX3_dropGone_36 : decode cX3_dropGone 36 = .ok (.aload_n 0, 1) := by decide +kernel
theorem dX3_dropGone_37 : decode cX3_dropGone 37 = .ok (.aload 4, 2) := by decide +kernel
theorem dX3_dropGone_39 : decode cX3_dropGone 39 = .ok (.iload_n 2, 1) := by decide +kernel
theorem dX3_dropGone_40 : decode cX3_dropGone 40 = .ok (.invokevirtual 83, 3) := by decide +kernel
theorem dX3_dropGone_43 : decode cX3_dropGone 43 = .ok (.ifCond .ne 11, 3) := by decide +kernel
theorem dX3_dropGone_46 : decode cX3_dropGone 46 = .ok (.aload 4, 2) := by decide +kernel
theorem dX3_dropGone_48 : decode cX3_dropGone 48 = .ok (.invokevirtual 55, 3) := by decide +kernel
theorem dX3_dropGone_51 : decode cX3_dropGone 51 = .ok (.iinc 1 1, 3) := by decide +kernel
theorem dX3_dropGone_54 : decode cX3_dropGone 54 = .ok (.iinc 3 1, 3) := by decide +kernel
theorem dX3_dropGone_57 : decode cX3_dropGone 57 = .ok (.goto (-43), 3) := by decide +kernel
theorem dX3_dropGone_60 : decode cX3_dropGone 60 = .ok (.iinc 2 1, 3) := by decide +kernel
theorem dX3_dropGone_63 : decode cX3_dropGone 63 = .ok (.goto (-59), 3) := by decide +kernel
theorem dX3_dropGone_66 : decode cX3_dropGone 66 = .ok (.aload_n 0, 1) := by decide +kernel
theorem dX3_dropGone_67 : decode cX3_dropGone 67 = .ok (.dup, 1) := by decide +kernel
theorem dX3_dropGone_68 : decode cX3_dropGone 68 = .ok (.getfield 49, 3) := by decide +kernel
theorem dX3_dropGone_71 : decode cX3_dropGone 71 = .ok (.iload_n 1, 1) := by decide +kernel
theorem dX3_dropGone_72 : decode cX3_dropGone 72 = .ok (.iadd, 1) := by decide +kernel
theorem dX3_dropGone_73 : decode cX3_dropGone 73 = .ok (.putfield 49, 3) := by decide +kernel
theorem dX3_dropGone_76 : decode cX3_dropGone 76 = .ok (.iload_n 1, 1) := by decide +kernel
theorem dX3_dropGone_77 : decode cX3_dropGone 77 = .ok (.ireturn, 1) := by decide +kernel
theorem dX3_isDormant_0 : decode cX3_isDormant 0 = .ok (.aload_n 1, 1) := by decide +kernel
theorem dX3_isDormant_1 : decode cX3_isDormant 1 = .ok (.getfield 87, 3) := by decide +kernel
theorem dX3_isDormant_4 : decode cX3_isDormant 4 = .ok (.iconst 2, 1) := by decide +kernel
theorem dX3_isDormant_5 : decode cX3_isDormant 5 = .ok (.if_icmp .ne 25, 3) := by decide +kernel
theorem dX3_isDormant_8 : decode cX3_isDormant 8 = .ok (.aload_n 0, 1) := by decide +kernel
theorem dX3_isDormant_9 : decode cX3_isDormant 9 = .ok (.getfield 37, 3) := by decide +kernel
theorem dX3_isDormant_12 : decode cX3_isDormant 12 = .ok (.aload_n 1, 1) := by decide +kernel
theorem dX3_isDormant_13 : decode cX3_isDormant 13 = .ok (.getfield 90, 3) := by decide +kernel
theorem dX3_isDormant_16 : decode cX3_isDormant 16 = .ok (.isub, 1) := by decide +kernel
theorem dX3_isDormant_17 : decode cX3_isDormant 17 = .ok (.aload_n 0, 1) := by decide +kernel
theorem dX3_isDormant_18 : decode cX3_isDormant 18 = .ok (.getfield 9, 3) := by decide +kernel
theorem dX3_isDormant_21 : decode cX3_isDormant 21 = .ok (.iconst 0, 1) := by decide +kernel
theorem dX3_isDormant_22 : decode cX3_isDormant 22 = .ok (.iaload, 1) := by decide +kernel
theorem dX3_isDormant_23 : decode cX3_isDormant 23 = .ok (.if_icmp .le 7, 3) := by decide +kernel
theorem dX3_isDormant_26 : decode cX3_isDormant 26 = .ok (.iconst 1, 1) := by decide +kernel
theorem dX3_isDormant_27 : decode cX3_isDormant 27 = .ok (.goto 4, 3) := by decide +kernel
theorem dX3_isDormant_30 : decode cX3_isDormant 30 = .ok (.iconst 0, 1) := by decide +kernel
theorem dX3_isDormant_31 : decode cX3_isDormant 31 = .ok (.ireturn, 1) := by decide +kernel
theorem dX3_isAwake_0 : decode cX3_isAwake 0 = .ok (.aload_n 1, 1) := by decide +kernel
theorem dX3_isAwake_1 : decode cX3_isAwake 1 = .ok (.getfield 87, 3) := by decide +kernel
theorem dX3_isAwake_4 : decode cX3_isAwake 4 = .ok (.iconst 1, 1) := by decide +kernel
theorem dX3_isAwake_5 : decode cX3_isAwake 5 = .ok (.if_icmp .eq 29, 3) := by decide +kernel
theorem dX3_isAwake_8 : decode cX3_isAwake 8 = .ok (.aload_n 1, 1) := by decide +kernel
theorem dX3_isAwake_9 : decode cX3_isAwake 9 = .ok (.getfield 87, 3) := by decide +kernel
theorem dX3_isAwake_12 : decode cX3_isAwake 12 = .ok (.iconst 2, 1) := by decide +kernel
theorem dX3_isAwake_13 : decode cX3_isAwake 13 = .ok (.if_icmp .ne 25, 3) := by decide +kernel
theorem dX3_isAwake_16 : decode cX3_isAwake 16 = .ok (.aload_n 0, 1) := by decide +kernel
theorem dX3_isAwake_17 : decode cX3_isAwake 17 = .ok (.getfield 37, 3) := by decide +kernel
theorem dX3_isAwake_20 : decode cX3_isAwake 20 = .ok (.aload_n 1, 1) := by decide +kernel
theorem dX3_isAwake_21 : decode cX3_isAwake 21 = .ok (.getfield 90, 3) := by decide +kernel
theorem dX3_isAwake_24 : decode cX3_isAwake 24 = .ok (.isub, 1) := by decide +kernel
theorem dX3_isAwake_25 : decode cX3_isAwake 25 = .ok (.aload_n 0, 1) := by decide +kernel
theorem dX3_isAwake_26 : decode cX3_isAwake 26 = .ok (.getfield 9, 3) := by decide +kernel
theorem dX3_isAwake_29 : decode cX3_isAwake 29 = .ok (.iconst 0, 1) := by decide +kernel
theorem dX3_isAwake_30 : decode cX3_isAwake 30 = .ok (.iaload, 1) := by decide +kernel
theorem dX3_isAwake_31 : decode cX3_isAwake 31 = .ok (.if_icmp .gt 7, 3) := by decide +kernel
theorem dX3_isAwake_34 : decode cX3_isAwake 34 = .ok (.iconst 1, 1) := by decide +kernel
theorem dX3_isAwake_35 : decode cX3_isAwake 35 = .ok (.goto 4, 3) := by decide +kernel
theorem dX3_isAwake_38 : decode cX3_isAwake 38 = .ok (.iconst 0, 1) := by decide +kernel
theorem dX3_isAwake_39 : decode cX3_isAwake 39 = .ok (.ireturn, 1) := by decide +kernel
theorem dX3_isKept_0 : decode cX3_isKept 0 = .ok (.aload_n 1, 1) := by decide +kernel
theorem dX3_isKept_1 : decode cX3_isKept 1 = .ok (.getfield 93, 3) := by decide +kernel
theorem dX3_isKept_4 : decode cX3_isKept 4 = .ok (.iload_n 2, 1) := by decide +kernel
theorem dX3_isKept_5 : decode cX3_isKept 5 = .ok (.ishr, 1) := by decide +kernel
theorem dX3_isKept_6 : decode cX3_isKept 6 = .ok (.iconst 1, 1) := by decide +kernel
theorem dX3_isKept_7 : decode cX3_isKept 7 = .ok (.iand, 1) := by decide +kernel
theorem dX3_isKept_8 : decode cX3_isKept 8 = .ok (.iconst 1, 1) := by decide +kernel
theorem dX3_isKept_9 : decode cX3_isKept 9 = .ok (.if_icmp .ne 7, 3) := by decide +kernel
theorem dX3_isKept_12 : decode cX3_isKept 12 = .ok (.iconst 1, 1) := by decide +kernel
theorem dX3_isKept_13 : decode cX3_isKept 13 = .ok (.goto 4, 3) := by decide +kernel
theorem dX3_isKept_16 : decode cX3_isKept 16 = .ok (.iconst 0, 1) := by decide +kernel
theorem dX3_isKept_17 : decode cX3_isKept 17 = .ok (.istore_n 3, 1) := by decide +kernel
theorem dX3_isKept_18 : decode cX3_isKept 18 = .ok (.iload_n 3, 1) := by decide +kernel
theorem dX3_isKept_19 : decode cX3_isKept 19 = .ok (.ifCond .eq 32, 3) := by decide +kernel
theorem dX3_isKept_22 : decode cX3_isKept 22 = .ok (.aload_n 0, 1) := by decide +kernel
theorem dX3_isKept_23 : decode cX3_isKept 23 = .ok (.getfield 37, 3) := by decide +kernel
theorem dX3_isKept_26 : decode cX3_isKept 26 = .ok (.aload_n 1, 1) := by decide +kernel
theorem dX3_isKept_27 : decode cX3_isKept 27 = .ok (.getfield 90, 3) := by decide +kernel
theorem dX3_isKept_30 : decode cX3_isKept 30 = .ok (.isub, 1) := by decide +kernel
theorem dX3_isKept_31 : decode cX3_isKept 31 = .ok (.aload_n 0, 1) := by decide +kernel
theorem dX3_isKept_32 : decode cX3_isKept 32 = .ok (.getfield 9, 3) := by decide +kernel
theorem dX3_isKept_35 : decode cX3_isKept 35 = .ok (.iconst 0, 1) := by decide +kernel
theorem dX3_isKept_36 : decode cX3_isKept 36 = .ok (.iaload, 1) := by decide +kernel
theorem dX3_isKept_37 : decode cX3_isKept 37 = .ok (.aload_n 0, 1) := by decide +kernel
theorem dX3_isKept_38 : decode cX3_isKept 38 = .ok (.getfield 9, 3) := by decide +kernel
theorem dX3_isKept_41 : decode cX3_isKept 41 = .ok (.iconst 1, 1) := by decide +kernel
theorem dX3_isKept_42 : decode cX3_isKept 42 = .ok (.iaload, 1) := by decide +kernel
theorem dX3_isKept_43 : decode cX3_isKept 43 = .ok (.iadd, 1) := by decide +kernel
theorem dX3_isKept_44 : decode cX3_isKept 44 = .ok (.if_icmp .gt 7, 3) := by decide +kernel
theorem dX3_isKept_47 : decode cX3_isKept 47 = .ok (.iconst 1, 1) := by decide +kernel
theorem dX3_isKept_48 : decode cX3_isKept 48 = .ok (.goto 4, 3) := by decide +kernel
theorem dX3_isKept_51 : decode cX3_isKept 51 = .ok (.iconst 0, 1) := by decide +kernel
theorem dX3_isKept_52 : decode cX3_isKept 52 = .ok (.ireturn, 1) := by decide +kernel
theorem dX3_wake_0 : decode cX3_wake 0 = .ok (.aload_n 1, 1) := by decide +kernel
theorem dX3_wake_1 : decode cX3_wake 1 = .ok (.aload_n 0, 1) := by decide +kernel
theorem dX3_wake_2 : decode cX3_wake 2 = .ok (.getfield 37, 3) := by decide +kernel
theorem dX3_wake_5 : decode cX3_wake 5 = .ok (.putfield 90, 3) := by decide +kernel
theorem dX3_wake_8 : decode cX3_wake 8 = .ok (.aload_n 1, 1) := by decide +kernel
theorem dX3_wake_9 : decode cX3_wake 9 = .ok (.aload_n 0, 1) := by decide +kernel
theorem dX3_wake_10 : decode cX3_wake 10 = .ok (.getfield 9, 3) := by decide +kernel
theorem dX3_wake_13 : decode cX3_wake 13 = .ok (.iconst 2, 1) := by decide +kernel
theorem dX3_wake_14 : decode cX3_wake 14 = .ok (.iaload, 1) := by decide +kernel
theorem dX3_wake_15 : decode cX3_wake 15 = .ok (.putfield 64, 3) := by decide +kernel
theorem dX3_wake_18 : decode cX3_wake 18 = .ok (.aload_n 0, 1) := by decide +kernel
theorem dX3_wake_19 : decode cX3_wake 19 = .ok (.dup, 1) := by decide +kernel
theorem dX3_wake_20 : decode cX3_wake 20 = .ok (.getfield 46, 3) := by decide +kernel
theorem dX3_wake_23 : decode cX3_wake 23 = .ok (.iconst 1, 1) := by decide +kernel
theorem dX3_wake_24 : decode cX3_wake 24 = .ok (.iadd, 1) := by decide +kernel
theorem dX3_wake_25 : decode cX3_wake 25 = .ok (.putfield 46, 3) := by decide +kernel
theorem dX3_wake_28 : decode cX3_wake 28 = .ok (.return_, 1) := by decide +kernel
theorem dX3_putValue_0 : decode cX3_putValue 0 = .ok (.aload_n 0, 1) := by decide +kernel
theorem dX3_putValue_1 : decode cX3_putValue 1 = .ok (.iconst 1, 1) := by decide +kernel
theorem dX3_putValue_2 : decode cX3_putValue 2 = .ok (.invokevirtual 96, 3) := by decide +kernel
theorem dX3_putValue_5 : decode cX3_putValue 5 = .ok (.pop, 1) := by decide +kernel
theorem dX3_putValue_6 : decode cX3_putValue 6 = .ok (.aload_n 0, 1) := by decide +kernel
theorem dX3_putValue_7 : decode cX3_putValue 7 = .ok (.iload_n 1, 1) := by decide +kernel
theorem dX3_putValue_8 : decode cX3_putValue 8 = .ok (.iload_n 2, 1) := by decide +kernel
theorem dX3_putValue_9 : decode cX3_putValue 9 = .ok (.invokevirtual 75, 3) := by decide +kernel
theorem dX3_putValue_12 : decode cX3_putValue 12 = .ok (.iload_n 3, 1) := by decide +kernel
theorem dX3_putValue_13 : decode cX3_putValue 13 = .ok (.aload_n 0, 1) := by decide +kernel
theorem dX3_putValue_14 : decode cX3_putValue 14 = .ok (.getfield 37, 3) := by decide +kernel
theorem dX3_putValue_17 : decode cX3_putValue 17 = .ok (.aload_n 0, 1) := by decide +kernel
theorem dX3_putValue_18 : decode cX3_putValue 18 = .ok (.getfield 9, 3) := by decide +kernel
theorem dX3_putValue_21 : decode cX3_putValue 21 = .ok (.iconst 2, 1) := by decide +kernel
theorem dX3_putValue_22 : decode cX3_putValue 22 = .ok (.iaload, 1) := by decide +kernel
theorem dX3_putValue_23 : decode cX3_putValue 23 = .ok (.invokevirtual 100, 3) := by decide +kernel
theorem dX3_putValue_26 : decode cX3_putValue 26 = .ok (.aload_n 0, 1) := by decide +kernel
theorem dX3_putValue_27 : decode cX3_putValue 27 = .ok (.getfield 37, 3) := by decide +kernel
theorem dX3_putValue_30 : decode cX3_putValue 30 = .ok (.ireturn, 1) := by decide +kernel
theorem dX3_removeValue_0 : decode cX3_removeValue 0 = .ok (.aload_n 0, 1) := by decide +kernel
theorem dX3_removeValue_1 : decode cX3_removeValue 1 = .ok (.iconst 1, 1) := by decide +kernel
theorem dX3_removeValue_2 : decode cX3_removeValue 2 = .ok (.invokevirtual 96, 3) := by decide +kernel
theorem dX3_removeValue_5 : decode cX3_removeValue 5 = .ok (.pop, 1) := by decide +kernel
theorem dX3_removeValue_6 : decode cX3_removeValue 6 = .ok (.aload_n 0, 1) := by decide +kernel
theorem dX3_removeValue_7 : decode cX3_removeValue 7 = .ok (.iload_n 1, 1) := by decide +kernel
theorem dX3_removeValue_8 : decode cX3_removeValue 8 = .ok (.iload_n 2, 1) := by decide +kernel
theorem dX3_removeValue_9 : decode cX3_removeValue 9 = .ok (.invokevirtual 75, 3) := by decide +kernel
theorem dX3_removeValue_12 : decode cX3_removeValue 12 = .ok (.aload_n 0, 1) := by decide +kernel
theorem dX3_removeValue_13 : decode cX3_removeValue 13 = .ok (.iload_n 1, 1) := by decide +kernel
theorem dX3_removeValue_14 : decode cX3_removeValue 14 = .ok (.iload_n 3, 1) := by decide +kernel
theorem dX3_removeValue_15 : decode cX3_removeValue 15 = .ok (.invokevirtual 104, 3) := by decide +kernel
theorem dX3_removeValue_18 : decode cX3_removeValue 18 = .ok (.aload_n 0, 1) := by decide +kernel
theorem dX3_removeValue_19 : decode cX3_removeValue 19 = .ok (.getfield 37, 3) := by decide +kernel
theorem dX3_removeValue_22 : decode cX3_removeValue 22 = .ok (.aload_n 0, 1) := by decide +kernel
theorem dX3_removeValue_23 : decode cX3_removeValue 23 = .ok (.getfield 9, 3) := by decide +kernel
theorem dX3_removeValue_26 : decode cX3_removeValue 26 = .ok (.iconst 2, 1) := by decide +kernel
theorem dX3_removeValue_27 : decode cX3_removeValue 27 = .ok (.iaload, 1) := by decide +kernel
theorem dX3_removeValue_28 : decode cX3_removeValue 28 = .ok (.invokevirtual 108, 3) := by decide +kernel
theorem dX3_removeValue_31 : decode cX3_removeValue 31 = .ok (.aload_n 0, 1) := by decide +kernel
theorem dX3_removeValue_32 : decode cX3_removeValue 32 = .ok (.getfield 24, 3) := by decide +kernel
theorem dX3_removeValue_35 : decode cX3_removeValue 35 = .ok (.iload_n 2, 1) := by decide +kernel
theorem dX3_removeValue_36 : decode cX3_removeValue 36 = .ok (.aload_n 0, 1) := by decide +kernel
theorem dX3_removeValue_37 : decode cX3_removeValue 37 = .ok (.getfield 37, 3) := by decide +kernel
theorem dX3_removeValue_40 : decode cX3_removeValue 40 = .ok (.iastore, 1) := by decide +kernel
theorem dX3_removeValue_41 : decode cX3_removeValue 41 = .ok (.aload_n 0, 1) := by decide +kernel
theorem dX3_removeValue_42 : decode cX3_removeValue 42 = .ok (.getfield 37, 3) := by decide +kernel
theorem dX3_removeValue_45 : decode cX3_removeValue 45 = .ok (.ireturn, 1) := by decide +kernel
theorem dX3_keepersOf_0 : decode cX3_keepersOf 0 = .ok (.iconst 1, 1) := by decide +kernel
theorem dX3_keepersOf_1 : decode cX3_keepersOf 1 = .ok (.iload_n 1, 1) := by decide +kernel
theorem dX3_keepersOf_2 : decode cX3_keepersOf 2 = .ok (.ishl, 1) := by decide +kernel
theorem dX3_keepersOf_3 : decode cX3_keepersOf 3 = .ok (.istore_n 3, 1) := by decide +kernel
theorem dX3_keepersOf_4 : decode cX3_keepersOf 4 = .ok (.aload_n 0, 1) := by decide +kernel
theorem dX3_keepersOf_5 : decode cX3_keepersOf 5 = .ok (.iload_n 1, 1) := by decide +kernel
theorem dX3_keepersOf_6 : decode cX3_keepersOf 6 = .ok (.invokevirtual 111, 3) := by decide +kernel
theorem dX3_keepersOf_9 : decode cX3_keepersOf 9 = .ok (.istore 4, 2) := by decide +kernel
theorem dX3_keepersOf_11 : decode cX3_keepersOf 11 = .ok (.iconst 1, 1) := by decide +kernel
theorem dX3_keepersOf_12 : decode cX3_keepersOf 12 = .ok (.istore 5, 2) := by decide +kernel
theorem dX3_keepersOf_14 : decode cX3_keepersOf 14 = .ok (.iload 5, 2) := by decide +kernel
theorem dX3_keepersOf_16 : decode cX3_keepersOf 16 = .ok (.iload_n 2, 1) := by decide +kernel
theorem dX3_keepersOf_17 : decode cX3_keepersOf 17 = .ok (.if_icmp .ge 39, 3) := by decide +kernel
theorem dX3_keepersOf_20 : decode cX3_keepersOf 20 = .ok (.iload 4, 2) := by decide +kernel
theorem dX3_keepersOf_22 : decode cX3_keepersOf 22 = .ok (.ifCond .eq 34, 3) := by decide +kernel
theorem dX3_keepersOf_25 : decode cX3_keepersOf 25 = .ok (.iconst 1, 1) := by decide +kernel
theorem dX3_keepersOf_26 : decode cX3_keepersOf 26 = .ok (.aload_n 0, 1) := by decide +kernel
theorem dX3_keepersOf_27 : decode cX3_keepersOf 27 = .ok (.iload_n 1, 1) := by decide +kernel
theorem dX3_keepersOf_28 : decode cX3_keepersOf 28 = .ok (.iload 4, 2) := by decide +kernel
theorem dX3_keepersOf_30 : decode cX3_keepersOf 30 = .ok (.invokevirtual 114, 3) := by decide +kernel
theorem dX3_keepersOf_33 : decode cX3_keepersOf 33 = .ok (.ishl, 1) := by decide +kernel
theorem dX3_keepersOf_34 : decode cX3_keepersOf 34 = .ok (.istore 6, 2) := by decide +kernel
theorem dX3_keepersOf_36 : decode cX3_keepersOf 36 = .ok (.iload_n 3, 1) := by decide +kernel
theorem dX3_keepersOf_37 : decode cX3_keepersOf 37 = .ok (.iload 6, 2) := by decide +kernel
theorem dX3_keepersOf_39 : decode cX3_keepersOf 39 = .ok (.ior, 1) := by decide +kernel
theorem dX3_keepersOf_40 : decode cX3_keepersOf 40 = .ok (.istore_n 3, 1) := by decide +kernel
theorem dX3_keepersOf_41 : decode cX3_keepersOf 41 = .ok (.iload 4, 2) := by decide +kernel
theorem dX3_keepersOf_43 : decode cX3_keepersOf 43 = .ok (.iload 6, 2) := by decide +kernel
theorem dX3_keepersOf_45 : decode cX3_keepersOf 45 = .ok (.iconst (-1), 1) := by decide +kernel
theorem dX3_keepersOf_46 : decode cX3_keepersOf 46 = .ok (.ixor, 1) := by decide +kernel
theorem dX3_keepersOf_47 : decode cX3_keepersOf 47 = .ok (.iand, 1) := by decide +kernel
theorem dX3_keepersOf_48 : decode cX3_keepersOf 48 = .ok (.istore 4, 2) := by decide +kernel
theorem dX3_keepersOf_50 : decode cX3_keepersOf 50 = .ok (.iinc 5 1, 3) := by decide +kernel
theorem dX3_keepersOf_53 : decode cX3_keepersOf 53 = .ok (.goto (-39), 3) := by decide +kernel
theorem dX3_keepersOf_56 : decode cX3_keepersOf 56 = .ok (.iload_n 3, 1) := by decide +kernel
theorem dX3_keepersOf_57 : decode cX3_keepersOf 57 = .ok (.ireturn, 1) := by decide +kernel
theorem dX3_compareAll_0 : decode cX3_compareAll 0 = .ok (.aload_n 0, 1) := by decide +kernel
theorem dX3_compareAll_1 : decode cX3_compareAll 1 = .ok (.iload_n 1, 1) := by decide +kernel
theorem dX3_compareAll_2 : decode cX3_compareAll 2 = .ok (.iload_n 2, 1) := by decide +kernel
theorem dX3_compareAll_3 : decode cX3_compareAll 3 = .ok (.invokevirtual 117, 3) := by decide +kernel
theorem dX3_compareAll_6 : decode cX3_compareAll 6 = .ok (.istore_n 3, 1) := by decide +kernel
theorem dX3_compareAll_7 : decode cX3_compareAll 7 = .ok (.aload_n 0, 1) := by decide +kernel
theorem dX3_compareAll_8 : decode cX3_compareAll 8 = .ok (.iload_n 1, 1) := by decide +kernel
theorem dX3_compareAll_9 : decode cX3_compareAll 9 = .ok (.iload_n 2, 1) := by decide +kernel
theorem dX3_compareAll_10 : decode cX3_compareAll 10 = .ok (.iload_n 3, 1) := by decide +kernel
theorem dX3_compareAll_11 : decode cX3_compareAll 11 = .ok (.invokevirtual 120, 3) := by decide +kernel
theorem dX3_compareAll_14 : decode cX3_compareAll 14 = .ok (.istore 4, 2) := by decide +kernel
theorem dX3_compareAll_16 : decode cX3_compareAll 16 = .ok (.aload_n 0, 1) := by decide +kernel
theorem dX3_compareAll_17 : decode cX3_compareAll 17 = .ok (.iload_n 1, 1) := by decide +kernel
theorem dX3_compareAll_18 : decode cX3_compareAll 18 = .ok (.iload_n 2, 1) := by decide +kernel
theorem dX3_compareAll_19 : decode cX3_compareAll 19 = .ok (.invokevirtual 124, 3) := by decide +kernel
theorem dX3_compareAll_22 : decode cX3_compareAll 22 = .ok (.ifCond .ne 20, 3) := by decide +kernel
theorem dX3_compareAll_25 : decode cX3_compareAll 25 = .ok (.iload 4, 2) := by decide +kernel
theorem dX3_compareAll_27 : decode cX3_compareAll 27 = .ok (.aload_n 0, 1) := by decide +kernel
theorem dX3_compareAll_28 : decode cX3_compareAll 28 = .ok (.iload_n 1, 1) := by decide +kernel
theorem dX3_compareAll_29 : decode cX3_compareAll 29 = .ok (.iload_n 2, 1) := by decide +kernel
theorem dX3_compareAll_30 : decode cX3_compareAll 30 = .ok (.bipush 15, 2) := by decide +kernel
theorem dX3_compareAll_32 : decode cX3_compareAll 32 = .ok (.iload_n 3, 1) := by decide +kernel
theorem dX3_compareAll_33 : decode cX3_compareAll 33 = .ok (.iconst (-1), 1) := by decide +kernel
theorem dX3_compareAll_34 : decode cX3_compareAll 34 = .ok (.ixor, 1) := by decide +kernel
theorem dX3_compareAll_35 : decode cX3_compareAll 35 = .ok (.iand, 1) := by decide +kernel
theorem dX3_compareAll_36 : decode cX3_compareAll 36 = .ok (.invokevirtual 120, 3) := by decide +kernel
theorem dX3_compareAll_39 : decode cX3_compareAll 39 = .ok (.iadd, 1) := by decide +kernel
theorem dX3_compareAll_40 : decode cX3_compareAll 40 = .ok (.istore 4, 2) := by decide +kernel
theorem dX3_compareAll_42 : decode cX3_compareAll 42 = .ok (.iload 4, 2) := by decide +kernel
theorem dX3_compareAll_44 : decode cX3_compareAll 44 = .ok (.ireturn, 1) := by decide +kernel
theorem dX3_recentKeys_0 : decode cX3_recentKeys 0 = .ok (.iconst 0, 1) := by decide +kernel
theorem dX3_recentKeys_1 : decode cX3_recentKeys 1 = .ok (.istore_n 3, 1) := by decide +kernel
theorem dX3_recentKeys_2 : decode cX3_recentKeys 2 = .ok (.iconst 0, 1) := by decide +kernel
theorem dX3_recentKeys_3 : decode cX3_recentKeys 3 = .ok (.istore 4, 2) := by decide +kernel
theorem dX3_recentKeys_5 : decode cX3_recentKeys 5 = .ok (.iload 4, 2) := by decide +kernel
theorem dX3_recentKeys_7 : decode cX3_recentKeys 7 = .ok (.iconst 4, 1) := by decide +kernel
theorem dX3_recentKeys_8 : decode cX3_recentKeys 8 = .ok (.if_icmp .ge 44, 3) := by decide +kernel
theorem dX3_recentKeys_11 : decode cX3_recentKeys 11 = .ok (.aload_n 0, 1) := by decide +kernel
theorem dX3_recentKeys_12 : decode cX3_recentKeys 12 = .ok (.aload_n 0, 1) := by decide +kernel
theorem dX3_recentKeys_13 : decode cX3_recentKeys 13 = .ok (.iload_n 1, 1) := by decide +kernel
theorem dX3_recentKeys_14 : decode cX3_recentKeys 14 = .ok (.iload 4, 2) := by decide +kernel
theorem dX3_recentKeys_16 : decode cX3_recentKeys 16 = .ok (.invokevirtual 75, 3) := by decide +kernel
theorem dX3_recentKeys_19 : decode cX3_recentKeys 19 = .ok (.invokevirtual 128, 3) := by decide +kernel
theorem dX3_recentKeys_22 : decode cX3_recentKeys 22 = .ok (.ifCond .ne 17, 3) := by decide +kernel
theorem dX3_recentKeys_25 : decode cX3_recentKeys 25 = .ok (.aload_n 0, 1) := by decide +kernel
theorem dX3_recentKeys_26 : decode cX3_recentKeys 26 = .ok (.aload_n 0, 1) := by decide +kernel
theorem dX3_recentKeys_27 : decode cX3_recentKeys 27 = .ok (.iload_n 2, 1) := by decide +kernel
theorem dX3_recentKeys_28 : decode cX3_recentKeys 28 = .ok (.iload 4, 2) := by decide +kernel
theorem dX3_recentKeys_30 : decode cX3_recentKeys 30 = .ok (.invokevirtual 75, 3) := by decide +kernel
theorem dX3_recentKeys_33 : decode cX3_recentKeys 33 = .ok (.invokevirtual 128, 3) := by decide +kernel
theorem dX3_recentKeys_36 : decode cX3_recentKeys 36 = .ok (.ifCond .eq 10, 3) := by decide +kernel
theorem dX3_recentKeys_39 : decode cX3_recentKeys 39 = .ok (.iload_n 3, 1) := by decide +kernel
theorem dX3_recentKeys_40 : decode cX3_recentKeys 40 = .ok (.iconst 1, 1) := by decide +kernel
theorem dX3_recentKeys_41 : decode cX3_recentKeys 41 = .ok (.iload 4, 2) := by decide +kernel
theorem dX3_recentKeys_43 : decode cX3_recentKeys 43 = .ok (.ishl, 1) := by decide +kernel
theorem dX3_recentKeys_44 : decode cX3_recentKeys 44 = .ok (.ior, 1) := by decide +kernel
theorem dX3_recentKeys_45 : decode cX3_recentKeys 45 = .ok (.istore_n 3, 1) := by decide +kernel
theorem dX3_recentKeys_46 : decode cX3_recentKeys 46 = .ok (.iinc 4 1, 3) := by decide +kernel
theorem dX3_recentKeys_49 : decode cX3_recentKeys 49 = .ok (.goto (-44), 3) := by decide +kernel
theorem dX3_recentKeys_52 : decode cX3_recentKeys 52 = .ok (.iload_n 3, 1) := by decide +kernel
theorem dX3_recentKeys_53 : decode cX3_recentKeys 53 = .ok (.ireturn, 1) := by decide +kernel
theorem dX3_isRecent_0 : decode cX3_isRecent 0 = .ok (.aload_n 0, 1) := by decide +kernel
theorem dX3_isRecent_1 : decode cX3_isRecent 1 = .ok (.aload_n 1, 1) := by decide +kernel
theorem dX3_isRecent_2 : decode cX3_isRecent 2 = .ok (.invokevirtual 131, 3) := by decide +kernel
theorem dX3_isRecent_5 : decode cX3_isRecent 5 = .ok (.ifCond .eq 25, 3) := by decide +kernel
theorem dX3_isRecent_8 : decode cX3_isRecent 8 = .ok (.aload_n 0, 1) := by decide +kernel
theorem dX3_isRecent_9 : decode cX3_isRecent 9 = .ok (.getfield 37, 3) := by decide +kernel
theorem dX3_isRecent_12 : decode cX3_isRecent 12 = .ok (.aload_n 1, 1) := by decide +kernel
theorem dX3_isRecent_13 : decode cX3_isRecent 13 = .ok (.getfield 90, 3) := by decide +kernel
theorem dX3_isRecent_16 : decode cX3_isRecent 16 = .ok (.isub, 1) := by decide +kernel
theorem dX3_isRecent_17 : decode cX3_isRecent 17 = .ok (.aload_n 0, 1) := by decide +kernel
theorem dX3_isRecent_18 : decode cX3_isRecent 18 = .ok (.getfield 9, 3) := by decide +kernel
theorem dX3_isRecent_21 : decode cX3_isRecent 21 = .ok (.iconst 3, 1) := by decide +kernel
theorem dX3_isRecent_22 : decode cX3_isRecent 22 = .ok (.iaload, 1) := by decide +kernel
theorem dX3_isRecent_23 : decode cX3_isRecent 23 = .ok (.if_icmp .ge 7, 3) := by decide +kernel
theorem dX3_isRecent_26 : decode cX3_isRecent 26 = .ok (.iconst 1, 1) := by decide +kernel
theorem dX3_isRecent_27 : decode cX3_isRecent 27 = .ok (.goto 4, 3) := by decide +kernel
theorem dX3_isRecent_30 : decode cX3_isRecent 30 = .ok (.iconst 0, 1) := by decide +kernel
theorem dX3_isRecent_31 : decode cX3_isRecent 31 = .ok (.ireturn, 1) := by decide +kernel
theorem dX3_meetKeys_0 : decode cX3_meetKeys 0 = .ok (.iconst 0, 1) := by decide +kernel
theorem dX3_meetKeys_1 : decode cX3_meetKeys 1 = .ok (.istore 4, 2) := by decide +kernel
theorem dX3_meetKeys_3 : decode cX3_meetKeys 3 = .ok (.iconst 0, 1) := by decide +kernel
theorem dX3_meetKeys_4 : decode cX3_meetKeys 4 = .ok (.istore 5, 2) := by decide +kernel
theorem dX3_meetKeys_6 : decode cX3_meetKeys 6 = .ok (.iload 5, 2) := by decide +kernel
theorem dX3_meetKeys_8 : decode cX3_meetKeys 8 = .ok (.iconst 4, 1) := by decide +kernel
theorem dX3_meetKeys_9 : decode cX3_meetKeys 9 = .ok (.if_icmp .ge 88, 3) := by decide +kernel
theorem dX3_meetKeys_12 : decode cX3_meetKeys 12 = .ok (.iload_n 3, 1) := by decide +kernel
theorem dX3_meetKeys_13 : decode cX3_meetKeys 13 = .ok (.iload 5, 2) := by decide +kernel
theorem dX3_meetKeys_15 : decode cX3_meetKeys 15 = .ok (.ishr, 1) := by decide +kernel
theorem dX3_meetKeys_16 : decode cX3_meetKeys 16 = .ok (.iconst 1, 1) := by decide +kernel
theorem dX3_meetKeys_17 : decode cX3_meetKeys 17 = .ok (.iand, 1) := by decide +kernel
theorem dX3_meetKeys_18 : decode cX3_meetKeys 18 = .ok (.iconst 1, 1) := by decide +kernel
theorem dX3_meetKeys_19 : decode cX3_meetKeys 19 = .ok (.if_icmp .ne 72, 3) := by decide +kernel
theorem dX3_meetKeys_22 : decode cX3_meetKeys 22 = .ok (.aload_n 0, 1) := by decide +kernel
theorem dX3_meetKeys_23 : decode cX3_meetKeys 23 = .ok (.iload_n 1, 1) := by decide +kernel
theorem dX3_meetKeys_24 : decode cX3_meetKeys 24 = .ok (.iload 5, 2) := by decide +kernel
theorem dX3_meetKeys_26 : decode cX3_meetKeys 26 = .ok (.invokevirtual 75, 3) := by decide +kernel
theorem dX3_meetKeys_29 : decode cX3_meetKeys 29 = .ok (.astore 6, 2) := by decide +kernel
theorem dX3_meetKeys_31 : decode cX3_meetKeys 31 = .ok (.aload_n 0, 1) := by decide +kernel
theorem dX3_meetKeys_32 : decode cX3_meetKeys 32 = .ok (.iload_n 2, 1) := by decide +kernel
theorem dX3_meetKeys_33 : decode cX3_meetKeys 33 = .ok (.iload 5, 2) := by decide +kernel
theorem dX3_meetKeys_35 : decode cX3_meetKeys 35 = .ok (.invokevirtual 75, 3) := by decide +kernel
theorem dX3_meetKeys_38 : decode cX3_meetKeys 38 = .ok (.astore 7, 2) := by decide +kernel
theorem dX3_meetKeys_40 : decode cX3_meetKeys 40 = .ok (.aload_n 0, 1) := by decide +kernel
theorem dX3_meetKeys_41 : decode cX3_meetKeys 41 = .ok (.dup, 1) := by decide +kernel
theorem dX3_meetKeys_42 : decode cX3_meetKeys 42 = .ok (.getfield 43, 3) := by decide +kernel
theorem dX3_meetKeys_45 : decode cX3_meetKeys 45 = .ok (.aload_n 0, 1) := by decide +kernel
theorem dX3_meetKeys_46 : decode cX3_meetKeys 46 = .ok (.aload 6, 2) := by decide +kernel
theorem dX3_meetKeys_48 : decode cX3_meetKeys 48 = .ok (.invokevirtual 131, 3) := by decide +kernel
theorem dX3_meetKeys_51 : decode cX3_meetKeys 51 = .ok (.ifCond .eq 7, 3) := by decide +kernel
theorem dX3_meetKeys_54 : decode cX3_meetKeys 54 = .ok (.iconst 1, 1) := by decide +kernel
theorem dX3_meetKeys_55 : decode cX3_meetKeys 55 = .ok (.goto 4, 3) := by decide +kernel
theorem dX3_meetKeys_58 : decode cX3_meetKeys 58 = .ok (.iconst 0, 1) := by decide +kernel
theorem dX3_meetKeys_59 : decode cX3_meetKeys 59 = .ok (.aload_n 0, 1) := by decide +kernel
theorem dX3_meetKeys_60 : decode cX3_meetKeys 60 = .ok (.aload 7, 2) := by decide +kernel
theorem dX3_meetKeys_62 : decode cX3_meetKeys 62 = .ok (.invokevirtual 131, 3) := by decide +kernel
theorem dX3_meetKeys_65 : decode cX3_meetKeys 65 = .ok (.ifCond .eq 7, 3) := by decide +kernel
theorem dX3_meetKeys_68 : decode cX3_meetKeys 68 = .ok (.iconst 1, 1) := by decide +kernel
theorem dX3_meetKeys_69 : decode cX3_meetKeys 69 = .ok (.goto 4, 3) := by decide +kernel
theorem dX3_meetKeys_72 : decode cX3_meetKeys 72 = .ok (.iconst 0, 1) := by decide +kernel
theorem dX3_meetKeys_73 : decode cX3_meetKeys 73 = .ok (.iadd, 1) := by decide +kernel
theorem dX3_meetKeys_74 : decode cX3_meetKeys 74 = .ok (.iadd, 1) := by decide +kernel
theorem dX3_meetKeys_75 : decode cX3_meetKeys 75 = .ok (.putfield 43, 3) := by decide +kernel
theorem dX3_meetKeys_78 : decode cX3_meetKeys 78 = .ok (.iload 4, 2) := by decide +kernel
theorem dX3_meetKeys_80 : decode cX3_meetKeys 80 = .ok (.aload_n 0, 1) := by decide +kernel
theorem dX3_meetKeys_81 : decode cX3_meetKeys 81 = .ok (.aload 6, 2) := by decide +kernel
theorem dX3_meetKeys_83 : decode cX3_meetKeys 83 = .ok (.aload 7, 2) := by decide +kernel
theorem dX3_meetKeys_85 : decode cX3_meetKeys 85 = .ok (.invokevirtual 134, 3) := by decide +kernel
theorem dX3_meetKeys_88 : decode cX3_meetKeys 88 = .ok (.iadd, 1) := by decide +kernel
theorem dX3_meetKeys_89 : decode cX3_meetKeys 89 = .ok (.istore 4, 2) := by decide +kernel
theorem dX3_meetKeys_91 : decode cX3_meetKeys 91 = .ok (.iinc 5 1, 3) := by decide +kernel
theorem dX3_meetKeys_94 : decode cX3_meetKeys 94 = .ok (.goto (-88), 3) := by decide +kernel
theorem dX3_meetKeys_97 : decode cX3_meetKeys 97 = .ok (.iload 4, 2) := by decide +kernel
theorem dX3_meetKeys_99 : decode cX3_meetKeys 99 = .ok (.ireturn, 1) := by decide +kernel
theorem dX3_meet_0 : decode cX3_meet 0 = .ok (.aload_n 0, 1) := by decide +kernel
theorem dX3_meet_1 : decode cX3_meet 1 = .ok (.aload_n 1, 1) := by decide +kernel
theorem dX3_meet_2 : decode cX3_meet 2 = .ok (.invokevirtual 79, 3) := by decide +kernel
theorem dX3_meet_5 : decode cX3_meet 5 = .ok (.ifCond .eq 22, 3) := by decide +kernel
theorem dX3_meet_8 : decode cX3_meet 8 = .ok (.aload_n 2, 1) := by decide +kernel
theorem dX3_meet_9 : decode cX3_meet 9 = .ok (.aload_n 1, 1) := by decide +kernel
theorem dX3_meet_10 : decode cX3_meet 10 = .ok (.getfield 138, 3) := by decide +kernel
theorem dX3_meet_13 : decode cX3_meet 13 = .ok (.invokevirtual 141, 3) := by decide +kernel
theorem dX3_meet_16 : decode cX3_meet 16 = .ok (.ifCond .eq 11, 3) := by decide +kernel
theorem dX3_meet_19 : decode cX3_meet 19 = .ok (.aload_n 0, 1) := by decide +kernel
theorem dX3_meet_20 : decode cX3_meet 20 = .ok (.aload_n 1, 1) := by decide +kernel
theorem dX3_meet_21 : decode cX3_meet 21 = .ok (.invokevirtual 145, 3) := by decide +kernel
theorem dX3_meet_24 : decode cX3_meet 24 = .ok (.goto 27, 3) := by decide +kernel
theorem dX3_meet_27 : decode cX3_meet 27 = .ok (.aload_n 0, 1) := by decide +kernel
theorem dX3_meet_28 : decode cX3_meet 28 = .ok (.aload_n 2, 1) := by decide +kernel
theorem dX3_meet_29 : decode cX3_meet 29 = .ok (.invokevirtual 79, 3) := by decide +kernel
theorem dX3_meet_32 : decode cX3_meet 32 = .ok (.ifCond .eq 19, 3) := by decide +kernel
theorem dX3_meet_35 : decode cX3_meet 35 = .ok (.aload_n 1, 1) := by decide +kernel
theorem dX3_meet_36 : decode cX3_meet 36 = .ok (.aload_n 2, 1) := by decide +kernel
theorem dX3_meet_37 : decode cX3_meet 37 = .ok (.getfield 138, 3) := by decide +kernel
theorem dX3_meet_40 : decode cX3_meet 40 = .ok (.invokevirtual 141, 3) := by decide +kernel
theorem dX3_meet_43 : decode cX3_meet 43 = .ok (.ifCond .eq 8, 3) := by decide +kernel
theorem dX3_meet_46 : decode cX3_meet 46 = .ok (.aload_n 0, 1) := by decide +kernel
theorem dX3_meet_47 : decode cX3_meet 47 = .ok (.aload_n 2, 1) := by decide +kernel
theorem dX3_meet_48 : decode cX3_meet 48 = .ok (.invokevirtual 145, 3) := by decide +kernel
theorem dX3_meet_51 : decode cX3_meet 51 = .ok (.aload_n 0, 1) := by decide +kernel
theorem dX3_meet_52 : decode cX3_meet 52 = .ok (.aload_n 1, 1) := by decide +kernel
theorem dX3_meet_53 : decode cX3_meet 53 = .ok (.invokevirtual 131, 3) := by decide +kernel
theorem dX3_meet_56 : decode cX3_meet 56 = .ok (.ifCond .eq 19, 3) := by decide +kernel
theorem dX3_meet_59 : decode cX3_meet 59 = .ok (.aload_n 1, 1) := by decide +kernel
theorem dX3_meet_60 : decode cX3_meet 60 = .ok (.aload_n 2, 1) := by decide +kernel
theorem dX3_meet_61 : decode cX3_meet 61 = .ok (.invokevirtual 149, 3) := by decide +kernel
theorem dX3_meet_64 : decode cX3_meet 64 = .ok (.ifCond .eq 11, 3) := by decide +kernel
theorem dX3_meet_67 : decode cX3_meet 67 = .ok (.aload_n 2, 1) := by decide +kernel
theorem dX3_meet_68 : decode cX3_meet 68 = .ok (.aload_n 1, 1) := by decide +kernel
theorem dX3_meet_69 : decode cX3_meet 69 = .ok (.iconst 0, 1) := by decide +kernel
theorem dX3_meet_70 : decode cX3_meet 70 = .ok (.invokevirtual 67, 3) := by decide +kernel
theorem dX3_meet_73 : decode cX3_meet 73 = .ok (.iconst 1, 1) := by decide +kernel
theorem dX3_meet_74 : decode cX3_meet 74 = .ok (.ireturn, 1) := by decide +kernel
theorem dX3_meet_75 : decode cX3_meet 75 = .ok (.aload_n 0, 1) := by decide +kernel
theorem dX3_meet_76 : decode cX3_meet 76 = .ok (.aload_n 2, 1) := by decide +kernel
theorem dX3_meet_77 : decode cX3_meet 77 = .ok (.invokevirtual 131, 3) := by decide +kernel
theorem dX3_meet_80 : decode cX3_meet 80 = .ok (.ifCond .eq 19, 3) := by decide +kernel
theorem dX3_meet_83 : decode cX3_meet 83 = .ok (.aload_n 2, 1) := by decide +kernel
theorem dX3_meet_84 : decode cX3_meet 84 = .ok (.aload_n 1, 1) := by decide +kernel
theorem dX3_meet_85 : decode cX3_meet 85 = .ok (.invokevirtual 149, 3) := by decide +kernel
theorem dX3_meet_88 : decode cX3_meet 88 = .ok (.ifCond .eq 11, 3) := by decide +kernel
theorem dX3_meet_91 : decode cX3_meet 91 = .ok (.aload_n 1, 1) := by decide +kernel
theorem dX3_meet_92 : decode cX3_meet 92 = .ok (.aload_n 2, 1) := by decide +kernel
theorem dX3_meet_93 : decode cX3_meet 93 = .ok (.iconst 0, 1) := by decide +kernel
theorem dX3_meet_94 : decode cX3_meet 94 = .ok (.invokevirtual 67, 3) := by decide +kernel
theorem dX3_meet_97 : decode cX3_meet 97 = .ok (.iconst 1, 1) := by decide +kernel
theorem dX3_meet_98 : decode cX3_meet 98 = .ok (.ireturn, 1) := by decide +kernel
theorem dX3_meet_99 : decode cX3_meet 99 = .ok (.iconst 0, 1) := by decide +kernel
theorem dX3_meet_100 : decode cX3_meet 100 = .ok (.ireturn, 1) := by decide +kernel
theorem dX3_tellHot_0 : decode cX3_tellHot 0 = .ok (.iconst 0, 1) := by decide +kernel
theorem dX3_tellHot_1 : decode cX3_tellHot 1 = .ok (.istore_n 3, 1) := by decide +kernel
theorem dX3_tellHot_2 : decode cX3_tellHot 2 = .ok (.iconst 0, 1) := by decide +kernel
theorem dX3_tellHot_3 : decode cX3_tellHot 3 = .ok (.istore 4, 2) := by decide +kernel
theorem dX3_tellHot_5 : decode cX3_tellHot 5 = .ok (.iload 4, 2) := by decide +kernel
theorem dX3_tellHot_7 : decode cX3_tellHot 7 = .ok (.iconst 4, 1) := by decide +kernel
theorem dX3_tellHot_8 : decode cX3_tellHot 8 = .ok (.if_icmp .ge 61, 3) := by decide +kernel
theorem dX3_tellHot_11 : decode cX3_tellHot 11 = .ok (.aload_n 0, 1) := by decide +kernel
theorem dX3_tellHot_12 : decode cX3_tellHot 12 = .ok (.iload_n 1, 1) := by decide +kernel
theorem dX3_tellHot_13 : decode cX3_tellHot 13 = .ok (.iload 4, 2) := by decide +kernel
theorem dX3_tellHot_15 : decode cX3_tellHot 15 = .ok (.invokevirtual 75, 3) := by decide +kernel
theorem dX3_tellHot_18 : decode cX3_tellHot 18 = .ok (.astore 5, 2) := by decide +kernel
theorem dX3_tellHot_20 : decode cX3_tellHot 20 = .ok (.aload 5, 2) := by decide +kernel
theorem dX3_tellHot_22 : decode cX3_tellHot 22 = .ok (.getfield 64, 3) := by decide +kernel
theorem dX3_tellHot_25 : decode cX3_tellHot 25 = .ok (.ifCond .le 38, 3) := by decide +kernel
theorem dX3_tellHot_28 : decode cX3_tellHot 28 = .ok (.aload_n 0, 1) := by decide +kernel
theorem dX3_tellHot_29 : decode cX3_tellHot 29 = .ok (.aload 5, 2) := by decide +kernel
theorem dX3_tellHot_31 : decode cX3_tellHot 31 = .ok (.invokevirtual 131, 3) := by decide +kernel
theorem dX3_tellHot_34 : decode cX3_tellHot 34 = .ok (.ifCond .eq 29, 3) := by decide +kernel
theorem dX3_tellHot_37 : decode cX3_tellHot 37 = .ok (.aload_n 0, 1) := by decide +kernel
theorem dX3_tellHot_38 : decode cX3_tellHot 38 = .ok (.dup, 1) := by decide +kernel
theorem dX3_tellHot_39 : decode cX3_tellHot 39 = .ok (.getfield 43, 3) := by decide +kernel
theorem dX3_tellHot_42 : decode cX3_tellHot 42 = .ok (.iconst 1, 1) := by decide +kernel
theorem dX3_tellHot_43 : decode cX3_tellHot 43 = .ok (.iadd, 1) := by decide +kernel
theorem dX3_tellHot_44 : decode cX3_tellHot 44 = .ok (.putfield 43, 3) := by decide +kernel
theorem dX3_tellHot_47 : decode cX3_tellHot 47 = .ok (.iload_n 3, 1) := by decide +kernel
theorem dX3_tellHot_48 : decode cX3_tellHot 48 = .ok (.aload_n 0, 1) := by decide +kernel
theorem dX3_tellHot_49 : decode cX3_tellHot 49 = .ok (.aload 5, 2) := by decide +kernel
theorem dX3_tellHot_51 : decode cX3_tellHot 51 = .ok (.aload_n 0, 1) := by decide +kernel
theorem dX3_tellHot_52 : decode cX3_tellHot 52 = .ok (.iload_n 2, 1) := by decide +kernel
theorem dX3_tellHot_53 : decode cX3_tellHot 53 = .ok (.iload 4, 2) := by decide +kernel
theorem dX3_tellHot_55 : decode cX3_tellHot 55 = .ok (.invokevirtual 75, 3) := by decide +kernel
theorem dX3_tellHot_58 : decode cX3_tellHot 58 = .ok (.invokevirtual 152, 3) := by decide +kernel
theorem dX3_tellHot_61 : decode cX3_tellHot 61 = .ok (.iadd, 1) := by decide +kernel
theorem dX3_tellHot_62 : decode cX3_tellHot 62 = .ok (.istore_n 3, 1) := by decide +kernel
theorem dX3_tellHot_63 : decode cX3_tellHot 63 = .ok (.iinc 4 1, 3) := by decide +kernel
theorem dX3_tellHot_66 : decode cX3_tellHot 66 = .ok (.goto (-61), 3) := by decide +kernel
theorem dX3_tellHot_69 : decode cX3_tellHot 69 = .ok (.iload_n 3, 1) := by decide +kernel
theorem dX3_tellHot_70 : decode cX3_tellHot 70 = .ok (.ireturn, 1) := by decide +kernel
theorem dX3_tell_0 : decode cX3_tell 0 = .ok (.aload_n 1, 1) := by decide +kernel
theorem dX3_tell_1 : decode cX3_tell 1 = .ok (.aload_n 2, 1) := by decide +kernel
theorem dX3_tell_2 : decode cX3_tell 2 = .ok (.invokevirtual 149, 3) := by decide +kernel
theorem dX3_tell_5 : decode cX3_tell 5 = .ok (.ifCond .eq 16, 3) := by decide +kernel
theorem dX3_tell_8 : decode cX3_tell 8 = .ok (.aload_n 2, 1) := by decide +kernel
theorem dX3_tell_9 : decode cX3_tell 9 = .ok (.aload_n 1, 1) := by decide +kernel
theorem dX3_tell_10 : decode cX3_tell 10 = .ok (.aload_n 0, 1) := by decide +kernel
theorem dX3_tell_11 : decode cX3_tell 11 = .ok (.getfield 9, 3) := by decide +kernel
theorem dX3_tell_14 : decode cX3_tell 14 = .ok (.iconst 2, 1) := by decide +kernel
theorem dX3_tell_15 : decode cX3_tell 15 = .ok (.iaload, 1) := by decide +kernel
theorem dX3_tell_16 : decode cX3_tell 16 = .ok (.invokevirtual 67, 3) := by decide +kernel
theorem dX3_tell_19 : decode cX3_tell 19 = .ok (.iconst 1, 1) := by decide +kernel
theorem dX3_tell_20 : decode cX3_tell 20 = .ok (.ireturn, 1) := by decide +kernel
theorem dX3_tell_21 : decode cX3_tell 21 = .ok (.aload_n 1, 1) := by decide +kernel
theorem dX3_tell_22 : decode cX3_tell 22 = .ok (.dup, 1) := by decide +kernel
theorem dX3_tell_23 : decode cX3_tell 23 = .ok (.getfield 64, 3) := by decide +kernel
theorem dX3_tell_26 : decode cX3_tell 26 = .ok (.iconst 1, 1) := by decide +kernel
theorem dX3_tell_27 : decode cX3_tell 27 = .ok (.isub, 1) := by decide +kernel
theorem dX3_tell_28 : decode cX3_tell 28 = .ok (.putfield 64, 3) := by decide +kernel
theorem dX3_tell_31 : decode cX3_tell 31 = .ok (.aload_n 0, 1) := by decide +kernel
theorem dX3_tell_32 : decode cX3_tell 32 = .ok (.aload_n 2, 1) := by decide +kernel
theorem dX3_tell_33 : decode cX3_tell 33 = .ok (.invokevirtual 79, 3) := by decide +kernel
theorem dX3_tell_36 : decode cX3_tell 36 = .ok (.ifCond .eq 19, 3) := by decide +kernel
theorem dX3_tell_39 : decode cX3_tell 39 = .ok (.aload_n 1, 1) := by decide +kernel
theorem dX3_tell_40 : decode cX3_tell 40 = .ok (.aload_n 2, 1) := by decide +kernel
theorem dX3_tell_41 : decode cX3_tell 41 = .ok (.getfield 138, 3) := by decide +kernel
theorem dX3_tell_44 : decode cX3_tell 44 = .ok (.invokevirtual 141, 3) := by decide +kernel
theorem dX3_tell_47 : decode cX3_tell 47 = .ok (.ifCond .eq 8, 3) := by decide +kernel
theorem dX3_tell_50 : decode cX3_tell 50 = .ok (.aload_n 0, 1) := by decide +kernel
theorem dX3_tell_51 : decode cX3_tell 51 = .ok (.aload_n 2, 1) := by decide +kernel
theorem dX3_tell_52 : decode cX3_tell 52 = .ok (.invokevirtual 145, 3) := by decide +kernel
theorem dX3_tell_55 : decode cX3_tell 55 = .ok (.iconst 0, 1) := by decide +kernel
theorem dX3_tell_56 : decode cX3_tell 56 = .ok (.ireturn, 1) := by decide +kernel
theorem dX3_areAlike_0 : decode cX3_areAlike 0 = .ok (.iconst 0, 1) := by decide +kernel
theorem dX3_areAlike_1 : decode cX3_areAlike 1 = .ok (.istore_n 3, 1) := by decide +kernel
theorem dX3_areAlike_2 : decode cX3_areAlike 2 = .ok (.iload_n 3, 1) := by decide +kernel
theorem dX3_areAlike_3 : decode cX3_areAlike 3 = .ok (.iconst 4, 1) := by decide +kernel
theorem dX3_areAlike_4 : decode cX3_areAlike 4 = .ok (.if_icmp .ge 30, 3) := by decide +kernel
theorem dX3_areAlike_7 : decode cX3_areAlike 7 = .ok (.aload_n 0, 1) := by decide +kernel
theorem dX3_areAlike_8 : decode cX3_areAlike 8 = .ok (.aload_n 0, 1) := by decide +kernel
theorem dX3_areAlike_9 : decode cX3_areAlike 9 = .ok (.iload_n 1, 1) := by decide +kernel
theorem dX3_areAlike_10 : decode cX3_areAlike 10 = .ok (.iload_n 3, 1) := by decide +kernel
theorem dX3_areAlike_11 : decode cX3_areAlike 11 = .ok (.invokevirtual 75, 3) := by decide +kernel
theorem dX3_areAlike_14 : decode cX3_areAlike 14 = .ok (.aload_n 0, 1) := by decide +kernel
theorem dX3_areAlike_15 : decode cX3_areAlike 15 = .ok (.iload_n 2, 1) := by decide +kernel
theorem dX3_areAlike_16 : decode cX3_areAlike 16 = .ok (.iload_n 3, 1) := by decide +kernel
theorem dX3_areAlike_17 : decode cX3_areAlike 17 = .ok (.invokevirtual 75, 3) := by decide +kernel
theorem dX3_areAlike_20 : decode cX3_areAlike 20 = .ok (.invokevirtual 155, 3) := by decide +kernel
theorem dX3_areAlike_23 : decode cX3_areAlike 23 = .ok (.ifCond .ne 5, 3) := by decide +kernel
theorem dX3_areAlike_26 : decode cX3_areAlike 26 = .ok (.iconst 0, 1) := by decide +kernel
theorem dX3_areAlike_27 : decode cX3_areAlike 27 = .ok (.ireturn, 1) := by decide +kernel
theorem dX3_areAlike_28 : decode cX3_areAlike 28 = .ok (.iinc 3 1, 3) := by decide +kernel
theorem dX3_areAlike_31 : decode cX3_areAlike 31 = .ok (.goto (-29), 3) := by decide +kernel
theorem dX3_areAlike_34 : decode cX3_areAlike 34 = .ok (.iconst 1, 1) := by decide +kernel
theorem dX3_areAlike_35 : decode cX3_areAlike 35 = .ok (.ireturn, 1) := by decide +kernel
theorem dX3_isSame_0 : decode cX3_isSame 0 = .ok (.aload_n 0, 1) := by decide +kernel
theorem dX3_isSame_1 : decode cX3_isSame 1 = .ok (.aload_n 1, 1) := by decide +kernel
theorem dX3_isSame_2 : decode cX3_isSame 2 = .ok (.invokevirtual 131, 3) := by decide +kernel
theorem dX3_isSame_5 : decode cX3_isSame 5 = .ok (.ifCond .eq 11, 3) := by decide +kernel
theorem dX3_isSame_8 : decode cX3_isSame 8 = .ok (.aload_n 0, 1) := by decide +kernel
theorem dX3_isSame_9 : decode cX3_isSame 9 = .ok (.aload_n 2, 1) := by decide +kernel
theorem dX3_isSame_10 : decode cX3_isSame 10 = .ok (.invokevirtual 131, 3) := by decide +kernel
theorem dX3_isSame_13 : decode cX3_isSame 13 = .ok (.ifCond .ne 25, 3) := by decide +kernel
theorem dX3_isSame_16 : decode cX3_isSame 16 = .ok (.aload_n 0, 1) := by decide +kernel
theorem dX3_isSame_17 : decode cX3_isSame 17 = .ok (.aload_n 1, 1) := by decide +kernel
theorem dX3_isSame_18 : decode cX3_isSame 18 = .ok (.invokevirtual 131, 3) := by decide +kernel
theorem dX3_isSame_21 : decode cX3_isSame 21 = .ok (.ifCond .ne 15, 3) := by decide +kernel
theorem dX3_isSame_24 : decode cX3_isSame 24 = .ok (.aload_n 0, 1) := by decide +kernel
theorem dX3_isSame_25 : decode cX3_isSame 25 = .ok (.aload_n 2, 1) := by decide +kernel
theorem dX3_isSame_26 : decode cX3_isSame 26 = .ok (.invokevirtual 131, 3) := by decide +kernel
theorem dX3_isSame_29 : decode cX3_isSame 29 = .ok (.ifCond .ne 7, 3) := by decide +kernel
theorem dX3_isSame_32 : decode cX3_isSame 32 = .ok (.iconst 1, 1) := by decide +kernel
theorem dX3_isSame_33 : decode cX3_isSame 33 = .ok (.goto 4, 3) := by decide +kernel
theorem dX3_isSame_36 : decode cX3_isSame 36 = .ok (.iconst 0, 1) := by decide +kernel
theorem dX3_isSame_37 : decode cX3_isSame 37 = .ok (.ireturn, 1) := by decide +kernel
theorem dX3_isSame_38 : decode cX3_isSame 38 = .ok (.aload_n 1, 1) := by decide +kernel
theorem dX3_isSame_39 : decode cX3_isSame 39 = .ok (.getfield 138, 3) := by decide +kernel
theorem dX3_isSame_42 : decode cX3_isSame 42 = .ok (.aload_n 2, 1) := by decide +kernel
theorem dX3_isSame_43 : decode cX3_isSame 43 = .ok (.getfield 138, 3) := by decide +kernel
theorem dX3_isSame_46 : decode cX3_isSame 46 = .ok (.if_icmp .ne 18, 3) := by decide +kernel
theorem dX3_isSame_49 : decode cX3_isSame 49 = .ok (.aload_n 1, 1) := by decide +kernel
theorem dX3_isSame_50 : decode cX3_isSame 50 = .ok (.getfield 90, 3) := by decide +kernel
theorem dX3_isSame_53 : decode cX3_isSame 53 = .ok (.aload_n 2, 1) := by decide +kernel
theorem dX3_isSame_54 : decode cX3_isSame 54 = .ok (.getfield 90, 3) := by decide +kernel
theorem dX3_isSame_57 : decode cX3_isSame 57 = .ok (.if_icmp .ne 7, 3) := by decide +kernel
theorem dX3_isSame_60 : decode cX3_isSame 60 = .ok (.iconst 1, 1) := by decide +kernel
theorem dX3_isSame_61 : decode cX3_isSame 61 = .ok (.goto 4, 3) := by decide +kernel
theorem dX3_isSame_64 : decode cX3_isSame 64 = .ok (.iconst 0, 1) := by decide +kernel
theorem dX3_isSame_65 : decode cX3_isSame 65 = .ok (.ireturn, 1) := by decide +kernel
theorem dX3_allOnAlike_0 : decode cX3_allOnAlike 0 = .ok (.iconst (-1), 1) := by decide +kernel
theorem dX3_allOnAlike_1 : decode cX3_allOnAlike 1 = .ok (.istore_n 1, 1) := by decide +kernel
theorem dX3_allOnAlike_2 : decode cX3_allOnAlike 2 = .ok (.iconst 0, 1) := by decide +kernel
theorem dX3_allOnAlike_3 : decode cX3_allOnAlike 3 = .ok (.istore_n 2, 1) := by decide +kernel
theorem dX3_allOnAlike_4 : decode cX3_allOnAlike 4 = .ok (.iload_n 2, 1) := by decide +kernel
theorem dX3_allOnAlike_5 : decode cX3_allOnAlike 5 = .ok (.aload_n 0, 1) := by decide +kernel
theorem dX3_allOnAlike_6 : decode cX3_allOnAlike 6 = .ok (.getfield 34, 3) := by decide +kernel
theorem dX3_allOnAlike_9 : decode cX3_allOnAlike 9 = .ok (.if_icmp .ge 35, 3) := by decide +kernel
theorem dX3_allOnAlike_12 : decode cX3_allOnAlike 12 = .ok (.aload_n 0, 1) := by decide +kernel
theorem dX3_allOnAlike_13 : decode cX3_allOnAlike 13 = .ok (.iload_n 2, 1) := by decide +kernel
theorem dX3_allOnAlike_14 : decode cX3_allOnAlike 14 = .ok (.invokevirtual 159, 3) := by decide +kernel
theorem dX3_allOnAlike_17 : decode cX3_allOnAlike 17 = .ok (.ifCond .ne 21, 3) := by decide +kernel
theorem dX3_allOnAlike_20 : decode cX3_allOnAlike 20 = .ok (.iload_n 1, 1) := by decide +kernel
theorem dX3_allOnAlike_21 : decode cX3_allOnAlike 21 = .ok (.iconst (-1), 1) := by decide +kernel
theorem dX3_allOnAlike_22 : decode cX3_allOnAlike 22 = .ok (.if_icmp .eq 14, 3) := by decide +kernel
theorem dX3_allOnAlike_25 : decode cX3_allOnAlike 25 = .ok (.aload_n 0, 1) := by decide +kernel
theorem dX3_allOnAlike_26 : decode cX3_allOnAlike 26 = .ok (.iload_n 1, 1) := by decide +kernel
theorem dX3_allOnAlike_27 : decode cX3_allOnAlike 27 = .ok (.iload_n 2, 1) := by decide +kernel
theorem dX3_allOnAlike_28 : decode cX3_allOnAlike 28 = .ok (.invokevirtual 124, 3) := by decide +kernel
theorem dX3_allOnAlike_31 : decode cX3_allOnAlike 31 = .ok (.ifCond .ne 5, 3) := by decide +kernel
theorem dX3_allOnAlike_34 : decode cX3_allOnAlike 34 = .ok (.iconst 0, 1) := by decide +kernel
theorem dX3_allOnAlike_35 : decode cX3_allOnAlike 35 = .ok (.ireturn, 1) := by decide +kernel
theorem dX3_allOnAlike_36 : decode cX3_allOnAlike 36 = .ok (.iload_n 2, 1) := by decide +kernel
theorem dX3_allOnAlike_37 : decode cX3_allOnAlike 37 = .ok (.istore_n 1, 1) := by decide +kernel
theorem dX3_allOnAlike_38 : decode cX3_allOnAlike 38 = .ok (.iinc 2 1, 3) := by decide +kernel
theorem dX3_allOnAlike_41 : decode cX3_allOnAlike 41 = .ok (.goto (-37), 3) := by decide +kernel
theorem dX3_allOnAlike_44 : decode cX3_allOnAlike 44 = .ok (.iconst 1, 1) := by decide +kernel
theorem dX3_allOnAlike_45 : decode cX3_allOnAlike 45 = .ok (.ireturn, 1) := by decide +kernel
theorem dX3_newestKey_0 : decode cX3_newestKey 0 = .ok (.iconst (-1), 1) := by decide +kernel
theorem dX3_newestKey_1 : decode cX3_newestKey 1 = .ok (.istore_n 3, 1) := by decide +kernel
theorem dX3_newestKey_2 : decode cX3_newestKey 2 = .ok (.iconst 0, 1) := by decide +kernel
theorem dX3_newestKey_3 : decode cX3_newestKey 3 = .ok (.istore 4, 2) := by decide +kernel
theorem dX3_newestKey_5 : decode cX3_newestKey 5 = .ok (.iload 4, 2) := by decide +kernel
theorem dX3_newestKey_7 : decode cX3_newestKey 7 = .ok (.iconst 4, 1) := by decide +kernel
theorem dX3_newestKey_8 : decode cX3_newestKey 8 = .ok (.if_icmp .ge 81, 3) := by decide +kernel
theorem dX3_newestKey_11 : decode cX3_newestKey 11 = .ok (.aload_n 0, 1) := by decide +kernel
theorem dX3_newestKey_12 : decode cX3_newestKey 12 = .ok (.iload_n 1, 1) := by decide +kernel
theorem dX3_newestKey_13 : decode cX3_newestKey 13 = .ok (.iload 4, 2) := by decide +kernel
theorem dX3_newestKey_15 : decode cX3_newestKey 15 = .ok (.invokevirtual 75, 3) := by decide +kernel
theorem dX3_newestKey_18 : decode cX3_newestKey 18 = .ok (.astore 5, 2) := by decide +kernel
theorem dX3_newestKey_20 : decode cX3_newestKey 20 = .ok (.iload_n 2, 1) := by decide +kernel
theorem dX3_newestKey_21 : decode cX3_newestKey 21 = .ok (.ifCond .ne 19, 3) := by decide +kernel
theorem dX3_newestKey_24 : decode cX3_newestKey 24 = .ok (.aload 5, 2) := by decide +kernel
theorem dX3_newestKey_26 : decode cX3_newestKey 26 = .ok (.getfield 87, 3) := by decide +kernel
theorem dX3_newestKey_29 : decode cX3_newestKey 29 = .ok (.ifCond .eq 7, 3) := by decide +kernel
theorem dX3_newestKey_32 : decode cX3_newestKey 32 = .ok (.iconst 1, 1) := by decide +kernel
theorem dX3_newestKey_33 : decode cX3_newestKey 33 = .ok (.goto 21, 3) := by decide +kernel
theorem dX3_newestKey_36 : decode cX3_newestKey 36 = .ok (.iconst 0, 1) := by decide +kernel
theorem dX3_newestKey_37 : decode cX3_newestKey 37 = .ok (.goto 17, 3) := by decide +kernel
theorem dX3_newestKey_40 : decode cX3_newestKey 40 = .ok (.aload 5, 2) := by decide +kernel
theorem dX3_newestKey_42 : decode cX3_newestKey 42 = .ok (.getfield 87, 3) := by decide +kernel
theorem dX3_newestKey_45 : decode cX3_newestKey 45 = .ok (.iload_n 2, 1) := by decide +kernel
theorem dX3_newestKey_46 : decode cX3_newestKey 46 = .ok (.if_icmp .ne 7, 3) := by decide +kernel
theorem dX3_newestKey_49 : decode cX3_newestKey 49 = .ok (.iconst 1, 1) := by decide +kernel
theorem dX3_newestKey_50 : decode cX3_newestKey 50 = .ok (.goto 4, 3) := by decide +kernel
theorem dX3_newestKey_53 : decode cX3_newestKey 53 = .ok (.iconst 0, 1) := by decide +kernel
theorem dX3_newestKey_54 : decode cX3_newestKey 54 = .ok (.istore 6, 2) := by decide +kernel
theorem dX3_newestKey_56 : decode cX3_newestKey 56 = .ok (.iload 6, 2) := by decide +kernel
theorem dX3_newestKey_58 : decode cX3_newestKey 58 = .ok (.ifCond .eq 25, 3) := by decide +kernel
theorem dX3_newestKey_61 : decode cX3_newestKey 61 = .ok (.iload_n 3, 1) := by decide +kernel
theorem dX3_newestKey_62 : decode cX3_newestKey 62 = .ok (.iconst (-1), 1) := by decide +kernel
theorem dX3_newestKey_63 : decode cX3_newestKey 63 = .ok (.if_icmp .eq 17, 3) := by decide +kernel
theorem dX3_newestKey_66 : decode cX3_newestKey 66 = .ok (.aload 5, 2) := by decide +kernel
theorem dX3_newestKey_68 : decode cX3_newestKey 68 = .ok (.aload_n 0, 1) := by decide +kernel
theorem dX3_newestKey_69 : decode cX3_newestKey 69 = .ok (.iload_n 1, 1) := by decide +kernel
theorem dX3_newestKey_70 : decode cX3_newestKey 70 = .ok (.iload_n 3, 1) := by decide +kernel
theorem dX3_newestKey_71 : decode cX3_newestKey 71 = .ok (.invokevirtual 75, 3) := by decide +kernel
theorem dX3_newestKey_74 : decode cX3_newestKey 74 = .ok (.invokevirtual 149, 3) := by decide +kernel
theorem dX3_newestKey_77 : decode cX3_newestKey 77 = .ok (.ifCond .eq 6, 3) := by decide +kernel
theorem dX3_newestKey_80 : decode cX3_newestKey 80 = .ok (.iload 4, 2) := by decide +kernel
theorem dX3_newestKey_82 : decode cX3_newestKey 82 = .ok (.istore_n 3, 1) := by decide +kernel
theorem dX3_newestKey_83 : decode cX3_newestKey 83 = .ok (.iinc 4 1, 3) := by decide +kernel
theorem dX3_newestKey_86 : decode cX3_newestKey 86 = .ok (.goto (-81), 3) := by decide +kernel
theorem dX3_newestKey_89 : decode cX3_newestKey 89 = .ok (.iload_n 3, 1) := by decide +kernel
theorem dX3_newestKey_90 : decode cX3_newestKey 90 = .ok (.ireturn, 1) := by decide +kernel
theorem dX3_risenSites_0 : decode cX3_risenSites 0 = .ok (.iconst 0, 1) := by decide +kernel
theorem dX3_risenSites_1 : decode cX3_risenSites 1 = .ok (.istore_n 2, 1) := by decide +kernel
theorem dX3_risenSites_2 : decode cX3_risenSites 2 = .ok (.iconst 0, 1) := by decide +kernel
theorem dX3_risenSites_3 : decode cX3_risenSites 3 = .ok (.istore_n 3, 1) := by decide +kernel
theorem dX3_risenSites_4 : decode cX3_risenSites 4 = .ok (.iload_n 3, 1) := by decide +kernel
theorem dX3_risenSites_5 : decode cX3_risenSites 5 = .ok (.aload_n 0, 1) := by decide +kernel
theorem dX3_risenSites_6 : decode cX3_risenSites 6 = .ok (.getfield 34, 3) := by decide +kernel
theorem dX3_risenSites_9 : decode cX3_risenSites 9 = .ok (.if_icmp .ge 46, 3) := by decide +kernel
theorem dX3_risenSites_12 : decode cX3_risenSites 12 = .ok (.aload_n 0, 1) := by decide +kernel
theorem dX3_risenSites_13 : decode cX3_risenSites 13 = .ok (.iload_n 3, 1) := by decide +kernel
theorem dX3_risenSites_14 : decode cX3_risenSites 14 = .ok (.iload_n 1, 1) := by decide +kernel
theorem dX3_risenSites_15 : decode cX3_risenSites 15 = .ok (.invokevirtual 75, 3) := by decide +kernel
theorem dX3_risenSites_18 : decode cX3_risenSites 18 = .ok (.astore 4, 2) := by decide +kernel
theorem dX3_risenSites_20 : decode cX3_risenSites 20 = .ok (.aload 4, 2) := by decide +kernel
theorem dX3_risenSites_22 : decode cX3_risenSites 22 = .ok (.getfield 87, 3) := by decide +kernel
theorem dX3_risenSites_25 : decode cX3_risenSites 25 = .ok (.iconst 1, 1) := by decide +kernel
theorem dX3_risenSites_26 : decode cX3_risenSites 26 = .ok (.if_icmp .ne 23, 3) := by decide +kernel
theorem dX3_risenSites_29 : decode cX3_risenSites 29 = .ok (.aload 4, 2) := by decide +kernel
theorem dX3_risenSites_31 : decode cX3_risenSites 31 = .ok (.getfield 138, 3) := by decide +kernel
theorem dX3_risenSites_34 : decode cX3_risenSites 34 = .ok (.aload_n 0, 1) := by decide +kernel
theorem dX3_risenSites_35 : decode cX3_risenSites 35 = .ok (.getfield 24, 3) := by decide +kernel
theorem dX3_risenSites_38 : decode cX3_risenSites 38 = .ok (.iload_n 1, 1) := by decide +kernel
theorem dX3_risenSites_39 : decode cX3_risenSites 39 = .ok (.iaload, 1) := by decide +kernel
theorem dX3_risenSites_40 : decode cX3_risenSites 40 = .ok (.if_icmp .ge 9, 3) := by decide +kernel
theorem dX3_risenSites_43 : decode cX3_risenSites 43 = .ok (.iload_n 2, 1) := by decide +kernel
theorem dX3_risenSites_44 : decode cX3_risenSites 44 = .ok (.iconst 1, 1) := by decide +kernel
theorem dX3_risenSites_45 : decode cX3_risenSites 45 = .ok (.iload_n 3, 1) := by decide +kernel
theorem dX3_risenSites_46 : decode cX3_risenSites 46 = .ok (.ishl, 1) := by decide +kernel
theorem dX3_risenSites_47 : decode cX3_risenSites 47 = .ok (.ior, 1) := by decide +kernel
theorem dX3_risenSites_48 : decode cX3_risenSites 48 = .ok (.istore_n 2, 1) := by decide +kernel
theorem dX3_risenSites_49 : decode cX3_risenSites 49 = .ok (.iinc 3 1, 3) := by decide +kernel
theorem dX3_risenSites_52 : decode cX3_risenSites 52 = .ok (.goto (-48), 3) := by decide +kernel
theorem dX3_risenSites_55 : decode cX3_risenSites 55 = .ok (.iload_n 2, 1) := by decide +kernel
theorem dX3_risenSites_56 : decode cX3_risenSites 56 = .ok (.ireturn, 1) := by decide +kernel
theorem dX3_othersOf_0 : decode cX3_othersOf 0 = .ok (.iconst 1, 1) := by decide +kernel
theorem dX3_othersOf_1 : decode cX3_othersOf 1 = .ok (.aload_n 0, 1) := by decide +kernel
theorem dX3_othersOf_2 : decode cX3_othersOf 2 = .ok (.getfield 34, 3) := by decide +kernel
theorem dX3_othersOf_5 : decode cX3_othersOf 5 = .ok (.ishl, 1) := by decide +kernel
theorem dX3_othersOf_6 : decode cX3_othersOf 6 = .ok (.iconst 1, 1) := by decide +kernel
theorem dX3_othersOf_7 : decode cX3_othersOf 7 = .ok (.isub, 1) := by decide +kernel
theorem dX3_othersOf_8 : decode cX3_othersOf 8 = .ok (.iconst 1, 1) := by decide +kernel
theorem dX3_othersOf_9 : decode cX3_othersOf 9 = .ok (.iload_n 1, 1) := by decide +kernel
theorem dX3_othersOf_10 : decode cX3_othersOf 10 = .ok (.ishl, 1) := by decide +kernel
theorem dX3_othersOf_11 : decode cX3_othersOf 11 = .ok (.iconst (-1), 1) := by decide +kernel
theorem dX3_othersOf_12 : decode cX3_othersOf 12 = .ok (.ixor, 1) := by decide +kernel
theorem dX3_othersOf_13 : decode cX3_othersOf 13 = .ok (.iand, 1) := by decide +kernel
theorem dX3_othersOf_14 : decode cX3_othersOf 14 = .ok (.ireturn, 1) := by decide +kernel
theorem dX3_othersOn_0 : decode cX3_othersOn 0 = .ok (.aload_n 0, 1) := by decide +kernel
theorem dX3_othersOn_1 : decode cX3_othersOn 1 = .ok (.iload_n 1, 1) := by decide +kernel
theorem dX3_othersOn_2 : decode cX3_othersOn 2 = .ok (.invokevirtual 111, 3) := by decide +kernel
theorem dX3_othersOn_5 : decode cX3_othersOn 5 = .ok (.aload_n 0, 1) := by decide +kernel
theorem dX3_othersOn_6 : decode cX3_othersOn 6 = .ok (.getfield 40, 3) := by decide +kernel
theorem dX3_othersOn_9 : decode cX3_othersOn 9 = .ok (.iconst (-1), 1) := by decide +kernel
theorem dX3_othersOn_10 : decode cX3_othersOn 10 = .ok (.ixor, 1) := by decide +kernel
theorem dX3_othersOn_11 : decode cX3_othersOn 11 = .ok (.iand, 1) := by decide +kernel
theorem dX3_othersOn_12 : decode cX3_othersOn 12 = .ok (.ireturn, 1) := by decide +kernel
theorem dX3_nearest_0 : decode cX3_nearest 0 = .ok (.iconst (-1), 1) := by decide +kernel
theorem dX3_nearest_1 : decode cX3_nearest 1 = .ok (.istore_n 3, 1) := by decide +kernel
theorem dX3_nearest_2 : decode cX3_nearest 2 = .ok (.iconst 0, 1) := by decide +kernel
theorem dX3_nearest_3 : decode cX3_nearest 3 = .ok (.istore 4, 2) := by decide +kernel
theorem dX3_nearest_5 : decode cX3_nearest 5 = .ok (.iconst 0, 1) := by decide +kernel
theorem dX3_nearest_6 : decode cX3_nearest 6 = .ok (.istore 5, 2) := by decide +kernel
theorem dX3_nearest_8 : decode cX3_nearest 8 = .ok (.iload 5, 2) := by decide +kernel
theorem dX3_nearest_10 : decode cX3_nearest 10 = .ok (.aload_n 0, 1) := by decide +kernel
theorem dX3_nearest_11 : decode cX3_nearest 11 = .ok (.getfield 34, 3) := by decide +kernel
theorem dX3_nearest_14 : decode cX3_nearest 14 = .ok (.if_icmp .ge 69, 3) := by decide +kernel
theorem dX3_nearest_17 : decode cX3_nearest 17 = .ok (.aload_n 0, 1) := by decide +kernel
theorem dX3_nearest_18 : decode cX3_nearest 18 = .ok (.getfield 15, 3) := by decide +kernel
theorem dX3_nearest_21 : decode cX3_nearest 21 = .ok (.iload 5, 2) := by decide +kernel
theorem dX3_nearest_23 : decode cX3_nearest 23 = .ok (.iaload, 1) := by decide +kernel
theorem dX3_nearest_24 : decode cX3_nearest 24 = .ok (.aload_n 0, 1) := by decide +kernel
theorem dX3_nearest_25 : decode cX3_nearest 25 = .ok (.getfield 15, 3) := by decide +kernel
theorem dX3_nearest_28 : decode cX3_nearest 28 = .ok (.iload_n 1, 1) := by decide +kernel
theorem dX3_nearest_29 : decode cX3_nearest 29 = .ok (.iaload, 1) := by decide +kernel
theorem dX3_nearest_30 : decode cX3_nearest 30 = .ok (.isub, 1) := by decide +kernel
theorem dX3_nearest_31 : decode cX3_nearest 31 = .ok (.invokestatic 162, 3) := by decide +kernel
theorem dX3_nearest_34 : decode cX3_nearest 34 = .ok (.istore 6, 2) := by decide +kernel
theorem dX3_nearest_36 : decode cX3_nearest 36 = .ok (.iload_n 2, 1) := by decide +kernel
theorem dX3_nearest_37 : decode cX3_nearest 37 = .ok (.iload 5, 2) := by decide +kernel
theorem dX3_nearest_39 : decode cX3_nearest 39 = .ok (.ishr, 1) := by decide +kernel
theorem dX3_nearest_40 : decode cX3_nearest 40 = .ok (.iconst 1, 1) := by decide +kernel
theorem dX3_nearest_41 : decode cX3_nearest 41 = .ok (.iand, 1) := by decide +kernel
theorem dX3_nearest_42 : decode cX3_nearest 42 = .ok (.iconst 1, 1) := by decide +kernel
theorem dX3_nearest_43 : decode cX3_nearest 43 = .ok (.if_icmp .ne 7, 3) := by decide +kernel
theorem dX3_nearest_46 : decode cX3_nearest 46 = .ok (.iconst 1, 1) := by decide +kernel
theorem dX3_nearest_47 : decode cX3_nearest 47 = .ok (.goto 4, 3) := by decide +kernel
theorem dX3_nearest_50 : decode cX3_nearest 50 = .ok (.iconst 0, 1) := by decide +kernel
theorem dX3_nearest_51 : decode cX3_nearest 51 = .ok (.istore 7, 2) := by decide +kernel
theorem dX3_nearest_53 : decode cX3_nearest 53 = .ok (.iload 7, 2) := by decide +kernel
theorem dX3_nearest_55 : decode cX3_nearest 55 = .ok (.ifCond .eq 22, 3) := by decide +kernel
theorem dX3_nearest_58 : decode cX3_nearest 58 = .ok (.iload_n 3, 1) := by decide +kernel
theorem dX3_nearest_59 : decode cX3_nearest 59 = .ok (.iconst (-1), 1) := by decide +kernel
theorem dX3_nearest_60 : decode cX3_nearest 60 = .ok (.if_icmp .eq 10, 3) := by decide +kernel
theorem dX3_nearest_63 : decode cX3_nearest 63 = .ok (.iload 6, 2) := by decide +kernel
theorem dX3_nearest_65 : decode cX3_nearest 65 = .ok (.iload 4, 2) := by decide +kernel
theorem dX3_nearest_67 : decode cX3_nearest 67 = .ok (.if_icmp .ge 10, 3) := by decide +kernel
theorem dX3_nearest_70 : decode cX3_nearest 70 = .ok (.iload 5, 2) := by decide +kernel
theorem dX3_nearest_72 : decode cX3_nearest 72 = .ok (.istore_n 3, 1) := by decide +kernel
theorem dX3_nearest_73 : decode cX3_nearest 73 = .ok (.iload 6, 2) := by decide +kernel
theorem dX3_nearest_75 : decode cX3_nearest 75 = .ok (.istore 4, 2) := by decide +kernel
theorem dX3_nearest_77 : decode cX3_nearest 77 = .ok (.iinc 5 1, 3) := by decide +kernel
theorem dX3_nearest_80 : decode cX3_nearest 80 = .ok (.goto (-72), 3) := by decide +kernel
theorem dX3_nearest_83 : decode cX3_nearest 83 = .ok (.iload_n 3, 1) := by decide +kernel
theorem dX3_nearest_84 : decode cX3_nearest 84 = .ok (.ireturn, 1) := by decide +kernel
theorem dX3_partnerBy_0 : decode cX3_partnerBy 0 = .ok (.aload_n 0, 1) := by decide +kernel
theorem dX3_partnerBy_1 : decode cX3_partnerBy 1 = .ok (.iload_n 1, 1) := by decide +kernel
theorem dX3_partnerBy_2 : decode cX3_partnerBy 2 = .ok (.invokevirtual 167, 3) := by decide +kernel
theorem dX3_partnerBy_5 : decode cX3_partnerBy 5 = .ok (.istore_n 3, 1) := by decide +kernel
theorem dX3_partnerBy_6 : decode cX3_partnerBy 6 = .ok (.iload_n 3, 1) := by decide +kernel
theorem dX3_partnerBy_7 : decode cX3_partnerBy 7 = .ok (.invokestatic 170, 3) := by decide +kernel
theorem dX3_partnerBy_10 : decode cX3_partnerBy 10 = .ok (.invokestatic 175, 3) := by decide +kernel
theorem dX3_partnerBy_13 : decode cX3_partnerBy 13 = .ok (.istore 4, 2) := by decide +kernel
theorem dX3_partnerBy_15 : decode cX3_partnerBy 15 = .ok (.iload 4, 2) := by decide +kernel
theorem dX3_partnerBy_17 : decode cX3_partnerBy 17 = .ok (.ifCond .gt 5, 3) := by decide +kernel
theorem dX3_partnerBy_20 : decode cX3_partnerBy 20 = .ok (.iconst (-1), 1) := by decide +kernel
theorem dX3_partnerBy_21 : decode cX3_partnerBy 21 = .ok (.ireturn, 1) := by decide +kernel
theorem dX3_partnerBy_22 : decode cX3_partnerBy 22 = .ok (.iload_n 2, 1) := by decide +kernel
theorem dX3_partnerBy_23 : decode cX3_partnerBy 23 = .ok (.ldc 178, 2) := by decide +kernel
theorem dX3_partnerBy_25 : decode cX3_partnerBy 25 = .ok (.idiv, 1) := by decide +kernel
theorem dX3_partnerBy_26 : decode cX3_partnerBy 26 = .ok (.iload 4, 2) := by decide +kernel
theorem dX3_partnerBy_28 : decode cX3_partnerBy 28 = .ok (.irem, 1) := by decide +kernel
theorem dX3_partnerBy_29 : decode cX3_partnerBy 29 = .ok (.istore 5, 2) := by decide +kernel
theorem dX3_partnerBy_31 : decode cX3_partnerBy 31 = .ok (.iconst 0, 1) := by decide +kernel
theorem dX3_partnerBy_32 : decode cX3_partnerBy 32 = .ok (.istore 6, 2) := by decide +kernel
theorem dX3_partnerBy_34 : decode cX3_partnerBy 34 = .ok (.iconst 0, 1) := by decide +kernel
theorem dX3_partnerBy_35 : decode cX3_partnerBy 35 = .ok (.istore 7, 2) := by decide +kernel
theorem dX3_partnerBy_37 : decode cX3_partnerBy 37 = .ok (.iload 7, 2) := by decide +kernel
theorem dX3_partnerBy_39 : decode cX3_partnerBy 39 = .ok (.getstatic 179, 3) := by decide +kernel
theorem dX3_partnerBy_42 : decode cX3_partnerBy 42 = .ok (.arraylength, 1) := by decide +kernel
theorem dX3_partnerBy_43 : decode cX3_partnerBy 43 = .ok (.if_icmp .ge 51, 3) := by decide +kernel
theorem dX3_partnerBy_46 : decode cX3_partnerBy 46 = .ok (.iload_n 3, 1) := by decide +kernel
theorem dX3_partnerBy_47 : decode cX3_partnerBy 47 = .ok (.ifCond .eq 47, 3) := by decide +kernel
theorem dX3_partnerBy_50 : decode cX3_partnerBy 50 = .ok (.aload_n 0, 1) := by decide +kernel
theorem dX3_partnerBy_51 : decode cX3_partnerBy 51 = .ok (.iload_n 1, 1) := by decide +kernel
theorem dX3_partnerBy_52 : decode cX3_partnerBy 52 = .ok (.iload_n 3, 1) := by decide +kernel
theorem dX3_partnerBy_53 : decode cX3_partnerBy 53 = .ok (.invokevirtual 114, 3) := by decide +kernel
theorem dX3_partnerBy_56 : decode cX3_partnerBy 56 = .ok (.istore 8, 2) := by decide +kernel
theorem dX3_partnerBy_58 : decode cX3_partnerBy 58 = .ok (.iload 6, 2) := by decide +kernel
theorem dX3_partnerBy_60 : decode cX3_partnerBy 60 = .ok (.getstatic 179, 3) := by decide +kernel
theorem dX3_partnerBy_63 : decode cX3_partnerBy 63 = .ok (.iload 7, 2) := by decide +kernel
theorem dX3_partnerBy_65 : decode cX3_partnerBy 65 = .ok (.iaload, 1) := by decide +kernel
theorem dX3_partnerBy_66 : decode cX3_partnerBy 66 = .ok (.iadd, 1) := by decide +kernel
theorem dX3_partnerBy_67 : decode cX3_partnerBy 67 = .ok (.istore 6, 2) := by decide +kernel
theorem dX3_partnerBy_69 : decode cX3_partnerBy 69 = .ok (.iload 6, 2) := by decide +kernel
theorem dX3_partnerBy_71 : decode cX3_partnerBy 71 = .ok (.iload 5, 2) := by decide +kernel
theorem dX3_partnerBy_73 : decode cX3_partnerBy 73 = .ok (.if_icmp .le 6, 3) := by decide +kernel
theorem dX3_partnerBy_76 : decode cX3_partnerBy 76 = .ok (.iload 8, 2) := by decide +kernel
theorem dX3_partnerBy_78 : decode cX3_partnerBy 78 = .ok (.ireturn, 1) := by decide +kernel
theorem dX3_partnerBy_79 : decode cX3_partnerBy 79 = .ok (.iload_n 3, 1) := by decide +kernel
theorem dX3_partnerBy_80 : decode cX3_partnerBy 80 = .ok (.iconst 1, 1) := by decide +kernel
theorem dX3_partnerBy_81 : decode cX3_partnerBy 81 = .ok (.iload 8, 2) := by decide +kernel
theorem dX3_partnerBy_83 : decode cX3_partnerBy 83 = .ok (.ishl, 1) := by decide +kernel
theorem dX3_partnerBy_84 : decode cX3_partnerBy 84 = .ok (.iconst (-1), 1) := by decide +kernel
theorem dX3_partnerBy_85 : decode cX3_partnerBy 85 = .ok (.ixor, 1) := by decide +kernel
theorem dX3_partnerBy_86 : decode cX3_partnerBy 86 = .ok (.iand, 1) := by decide +kernel
theorem dX3_partnerBy_87 : decode cX3_partnerBy 87 = .ok (.istore_n 3, 1) := by decide +kernel
theorem dX3_partnerBy_88 : decode cX3_partnerBy 88 = .ok (.iinc 7 1, 3) := by decide +kernel
theorem dX3_partnerBy_91 : decode cX3_partnerBy 91 = .ok (.goto (-54), 3) := by decide +kernel
theorem dX3_partnerBy_94 : decode cX3_partnerBy 94 = .ok (.iconst (-1), 1) := by decide +kernel
theorem dX3_partnerBy_95 : decode cX3_partnerBy 95 = .ok (.ireturn, 1) := by decide +kernel
theorem dX3_weightOf_0 : decode cX3_weightOf 0 = .ok (.iconst 0, 1) := by decide +kernel
theorem dX3_weightOf_1 : decode cX3_weightOf 1 = .ok (.istore_n 1, 1) := by decide +kernel
theorem dX3_weightOf_2 : decode cX3_weightOf 2 = .ok (.iconst 0, 1) := by decide +kernel
theorem dX3_weightOf_3 : decode cX3_weightOf 3 = .ok (.istore_n 2, 1) := by decide +kernel
theorem dX3_weightOf_4 : decode cX3_weightOf 4 = .ok (.iload_n 2, 1) := by decide +kernel
theorem dX3_weightOf_5 : decode cX3_weightOf 5 = .ok (.getstatic 179, 3) := by decide +kernel
theorem dX3_weightOf_8 : decode cX3_weightOf 8 = .ok (.arraylength, 1) := by decide +kernel
theorem dX3_weightOf_9 : decode cX3_weightOf 9 = .ok (.if_icmp .ge 22, 3) := by decide +kernel
theorem dX3_weightOf_12 : decode cX3_weightOf 12 = .ok (.iload_n 2, 1) := by decide +kernel
theorem dX3_weightOf_13 : decode cX3_weightOf 13 = .ok (.iload_n 0, 1) := by decide +kernel
theorem dX3_weightOf_14 : decode cX3_weightOf 14 = .ok (.if_icmp .ge 17, 3) := by decide +kernel
theorem dX3_weightOf_17 : decode cX3_weightOf 17 = .ok (.iload_n 1, 1) := by decide +kernel
theorem dX3_weightOf_18 : decode cX3_weightOf 18 = .ok (.getstatic 179, 3) := by decide +kernel
theorem dX3_weightOf_21 : decode cX3_weightOf 21 = .ok (.iload_n 2, 1) := by decide +kernel
theorem dX3_weightOf_22 : decode cX3_weightOf 22 = .ok (.iaload, 1) := by decide +kernel
theorem dX3_weightOf_23 : decode cX3_weightOf 23 = .ok (.iadd, 1) := by decide +kernel
theorem dX3_weightOf_24 : decode cX3_weightOf 24 = .ok (.istore_n 1, 1) := by decide +kernel
theorem dX3_weightOf_25 : decode cX3_weightOf 25 = .ok (.iinc 2 1, 3) := by decide +kernel
theorem dX3_weightOf_28 : decode cX3_weightOf 28 = .ok (.goto (-24), 3) := by decide +kernel
theorem dX3_weightOf_31 : decode cX3_weightOf 31 = .ok (.iload_n 1, 1) := by decide +kernel
theorem dX3_weightOf_32 : decode cX3_weightOf 32 = .ok (.ireturn, 1) := by decide +kernel
end
section
/-! the state of both systems, as numbers; the cells that hold it; the walk's judgement lc_V -/
abbrev lc_C : Type := Nat → Nat → Int32
abbrev lc_X : Type := lc_C × Int32 × Int32 × Int32
abbrev lc_S : Type := (Nat → lc_C) × (Nat → Nat → Int32) × (Nat → Int64)
abbrev lc_G := (Nat → Nat) × (Nat → ClassId) × (Nat → Nat → Nat) × ClassId × ClassId × Nat × Nat × Nat
def lc_cu (B : lc_C) (r k : Nat) (v : Int32) : lc_C := fun a b => if a = r ∧ b = k then v else B a b
def lc_uo (σ : lc_S) (r k : Nat) (v : Int32) : lc_S := (σ.1, fun a b => if a = r ∧ b = k then v else σ.2.1 a b, σ.2.2)
def lc_ul (σ : lc_S) (k : Nat) (v : Int64) : lc_S := (σ.1, σ.2.1, fun a => if a = k then v else σ.2.2 a)
def lc_ad (f : Nat → Int32) (t w g : Int32) : Nat → Int32 := fun k => if k = 0 then f 0 + t else if k = 1 then f 1 + w else if k = 2 then f 2 + g else f k
def lc_w (σ : lc_S) (j : Nat) (x : lc_X) : lc_S := (fun a => if a = j then x.1 else σ.1 a, fun r => if r = j then lc_ad (σ.2.1 j) x.2.1 x.2.2.1 x.2.2.2 else σ.2.1 r, σ.2.2)
abbrev lc_it (j i : Nat) : Nat := 26 + 24 * j + i
def lc_bi (b : Bool) : Int32 := if b = true then 1 else 0
abbrev lc_iE (σ : lc_S) (j i : Nat) : va_E := .inr (0, [.int (σ.1 j 0 i), .int (σ.1 j 1 i), .int (σ.1 j 2 i), .int (σ.1 j 3 i), .int (σ.1 j 4 i), .int (σ.1 j 5 i)])
abbrev lc_wE (G : lc_G) (σ : lc_S) (j : Nat) : va_E := .inr (3, [.ref (G.1 (6 + j)), .ref (G.1 (8 + j)), .ref (G.1 (10 + j)), .ref (G.1 (12 + j)), .int (σ.1 j 7 0), .int (σ.1 j 7 1), .int (σ.1 j 7 2), .int (σ.2.1 j 0), .int (σ.2.1 j 1), .int (σ.2.1 j 2)])
abbrev lc_mE (G : lc_G) (σ : lc_S) : va_E := .inr (5, [.int (σ.2.1 12 0), .ref (G.1 15), .int (σ.1 2 7 0), .ref (G.1 16), .int (σ.1 2 7 1), .int (σ.1 2 7 2), .int (σ.2.1 2 0), .int (σ.2.1 2 1), .int (σ.2.1 2 2), .int (σ.2.1 12 1), .ref (G.1 17), .ref (G.1 18), .ref (G.1 19), .ref (G.1 20), .ref (G.1 21), .ref (G.1 22), .ref (G.1 23), .ref (G.1 24), .long (σ.2.2 0), .ref (G.1 25), .int (σ.2.1 12 2), .int (σ.2.1 12 3), .long (σ.2.2 1)])
abbrev lc_aE (G : lc_G) (n : Nat) (f : Nat → Int32) : va_E := .inl (G.2.2.2.1, n, .inl f)
def lc_ent (G : lc_G) (σ : lc_S) (k : Nat) : va_E := match k with
  | 0 => .inr (4, [.ref (G.1 1), .ref (G.1 4), .ref (G.1 3), .int (σ.2.1 10 1)])
  | 1 => .inr (1, [.ref (G.1 2), .int (σ.2.1 10 0)])
  | 2 => lc_aE G 6 (σ.2.1 9)
  | 3 => .inr (2, [.ref (G.1 5), .int (σ.2.1 10 2), .int (σ.2.1 10 3)])
  | 4 => lc_wE G σ 0
  | 5 => lc_wE G σ 1
  | 6 => lc_aE G 4 (σ.1 0 6)
  | 7 => lc_aE G 4 (σ.1 1 6)
  | 8 => lc_aE G 6 (σ.2.1 6)
  | 9 => lc_aE G 6 (σ.2.1 7)
  | 10 => .inl (G.2.2.2.2.1, 24, .inr (.inr (.inr (.inr (fun i => some (G.1 (lc_it 0 i)))))))
  | 11 => .inl (G.2.2.2.2.1, 24, .inr (.inr (.inr (.inr (fun i => some (G.1 (lc_it 1 i)))))))
  | 12 => lc_aE G 4 (σ.2.1 3)
  | 13 => lc_aE G 4 (σ.2.1 4)
  | 14 => lc_mE G σ
  | 15 => lc_aE G 6 (σ.2.1 11)
  | 16 => lc_aE G 6 (σ.2.1 8)
  | 17 => lc_aE G 4 (σ.1 2 6)
  | 18 => lc_aE G 24 (σ.1 2 0)
  | 19 => lc_aE G 24 (σ.1 2 1)
  | 20 => lc_aE G 24 (σ.1 2 2)
  | 21 => lc_aE G 24 (σ.1 2 3)
  | 22 => lc_aE G 24 (σ.1 2 4)
  | 23 => lc_aE G 24 (σ.1 2 5)
  | 24 => lc_aE G 4 (σ.2.1 5)
  | 25 => lc_aE G 148 (σ.2.1 13)
  | k + 26 => lc_iE σ (k / 24) (k % 24)
theorem lc_ent_it (G : lc_G) (σ : lc_S) {j i : Nat} (hi : i < 24) : lc_ent G σ (lc_it j i) = lc_iE σ j i := by
  have e : lc_it j i = (24 * j + i) + 26 := by unfold lc_it; omega
  rw [e]
  show lc_iE σ ((24 * j + i) / 24) ((24 * j + i) % 24) = _
  have h1 : (24 * j + i) / 24 = j := by omega
  have h2 : (24 * j + i) % 24 = i := by omega
  rw [h1, h2]
def lc_ws (G : lc_G) (σ : lc_S) : va_W := (List.range 74).map (fun k => (G.1 k, lc_ent G σ k))
theorem lc_ws_get (G : lc_G) (σ : lc_S) {k : Nat} (hk : k < 74) : (lc_ws G σ)[k]? = some (G.1 k, lc_ent G σ k) := by
  simp [lc_ws, List.getElem?_map, List.getElem?_range hk]
theorem lc_ws_len (G : lc_G) (σ : lc_S) : (lc_ws G σ).length = 74 := by simp [lc_ws]
theorem lc_ws_set (G : lc_G) (σ σ' : lc_S) {k : Nat} {E : va_E} (h1 : lc_ent G σ' k = E) (h2 : ∀ i, i < 74 → i ≠ k → lc_ent G σ' i = lc_ent G σ i) : (lc_ws G σ).set k (G.1 k, E) = lc_ws G σ' := by
  apply List.ext_getElem?
  intro i
  by_cases hi : i < 74
  · by_cases hk : k = i
    · subst hk
      rw [List.getElem?_set_self (by rw [lc_ws_len]; exact hi), lc_ws_get G σ' hi, h1]
    · rw [List.getElem?_set_ne hk, lc_ws_get G σ hi, lc_ws_get G σ' hi, h2 i hi (fun e => hk e.symm)]
  · rw [List.getElem?_eq_none (by rw [List.length_set, lc_ws_len]; omega), List.getElem?_eq_none (by rw [lc_ws_len]; omega)]
theorem lc_ws_mem {G : lc_G} {σ : lc_S} {i : Nat} {q : Nat × va_E} (h : (lc_ws G σ)[i]? = some q) : i < 74 ∧ q = (G.1 i, lc_ent G σ i) := by
  have hi : i < 74 := by have := (List.getElem?_eq_some_iff.mp h).1; rw [lc_ws_len] at this; exact this
  rw [lc_ws_get G σ hi] at h
  exact ⟨hi, (Option.some.inj h).symm⟩
/-- the tables' words that a walk uses -/
def lc_gw (w : Cond) : Bool := goodWord w || (match w with | .fieldLinkNest _ _ _ _ _ _ => true | .methodLinkNest _ _ _ _ => true | _ => false)
def lc_T : List Cond := lw_tbl.filter lc_gw
def lc_Tb (U : State) : Prop := ∀ w ∈ lc_T, w.before #[] U = true
theorem lc_gw_nest {w : Cond} (h : lc_gw w = true) (hg : ¬ goodWord w = true) : (∃ a i b n d h, w = .fieldLinkNest a i b n d h) ∨ (∃ a i x h, w = .methodLinkNest a i x h) := by
  unfold lc_gw at h
  cases w <;> first | exact Or.inl ⟨_, _, _, _, _, _, rfl⟩ | exact Or.inr ⟨_, _, _, _, rfl⟩ | (exfalso; simp only [Bool.or_false] at h; exact hg h)
theorem lc_Tb.warm {s U : State} (hW : s.WarmedH U.vm) (h : lc_Tb s) : lc_Tb U := by
  intro w hw
  have hg : lc_gw w = true := (List.mem_filter.mp hw).2
  by_cases hq : goodWord w = true
  · exact word_at hW (good_of_word hq) (h w hw)
  · rcases lc_gw_nest hg hq with ⟨a, i, b, n, d, hh, rfl⟩ | ⟨a, i, x, hh, rfl⟩
    · exact va_Nw.warmF hW (h _ hw)
    · exact va_Nw.warmM hW (h _ hw)
theorem lc_Tb.use {s : State} (h : lc_Tb s) (args : Array Value) {w : Cond} (hw : w ∈ lc_T) : w.before args s = true := by
  have hg : lc_gw w = true := (List.mem_filter.mp hw).2
  by_cases hq : goodWord w = true
  · exact word_at (State.WarmedH.refl s) (good_of_word hq) (h w hw)
  · rcases lc_gw_nest hg hq with ⟨a, i, b, n, d, hh, rfl⟩ | ⟨a, i, x, hh, rfl⟩
    · exact va_Nw.use rfl (h _ hw)
    · exact va_Nw.use rfl (h _ hw)
theorem lc_in {w : Cond} (i : Nat) (h : lw_tbl[i]? = some w) (hg : lc_gw w = true) : w ∈ lc_T := List.mem_filter.mpr ⟨List.mem_of_getElem? h, hg⟩
def lc_K (G : lc_G) (U : State) : Prop := va_K (G.2.1, G.2.2.1) vwCl [(G.2.2.2.1, .int), (G.2.2.2.2.1, .object "LateCopies$Item")] U
def lc_P (G : lc_G) (σ : lc_S) (H : Heap) : Prop := va_P (G.2.1, G.2.2.1) vwCl (lc_ws G σ) H
def lc_Ap (G : lc_G) : Prop := ∀ i j, i < 74 → j < 74 → G.1 i = G.1 j → i = j
def lc_A (G : lc_G) : Nat → Prop := fun q => ∃ k, k < 74 ∧ q = G.1 k
def lc_least : Nat → Int32 := fun k => match k with | 0 => 1 | 1 => 0 | 2 => 1 | _ => 0
def lc_most : Nat → Int32 := fun k => match k with | 0 => 50 | 1 => 200 | 2 => 3 | _ => 50
def lc_wei : Nat → Int32 := fun k => match k with | 0 => 60 | 1 => 30 | 2 => 20 | 3 => 15 | _ => 12
def lc_St (G : lc_G) (A : Nat → Prop) (U : State) (H : Heap) : Prop :=
  (va_Z "LateCopies" "LEAST_LIMITS" "[I" (.ref G.2.2.2.2.2.1) A U H ∧ va_T .int G.2.2.2.2.2.1 4 (fun k => .int (lc_least k)) A U H) ∧
  (va_Z "LateCopies" "MOST_LIMITS" "[I" (.ref G.2.2.2.2.2.2.1) A U H ∧ va_T .int G.2.2.2.2.2.2.1 4 (fun k => .int (lc_most k)) A U H) ∧
  (va_Z "LateCopies" "WEIGHTS" "[I" (.ref G.2.2.2.2.2.2.2) A U H ∧ va_T .int G.2.2.2.2.2.2.2 5 (fun k => .int (lc_wei k)) A U H)
theorem lc_St.moved {G : lc_G} {A : Nat → Prop} {u U : State} {H : Heap} (hvm : u.vm.Alike U.vm) (h : lc_St G A u H) : lc_St G A U H :=
  ⟨⟨h.1.1.moved hvm, h.1.2.moved hvm⟩, ⟨h.2.1.1.moved hvm, h.2.1.2.moved hvm⟩, h.2.2.1.moved hvm, h.2.2.2.moved hvm⟩
theorem lc_St.kept {G : lc_G} {A : Nat → Prop} {U : State} {H H1 : Heap} (h : lc_St G A U H) (hq : ∀ a : Nat, a < H.size → ¬ A a → H1[a]? = H[a]?) : lc_St G A U H1 :=
  ⟨⟨h.1.1.kept hq, h.1.2.kept hq⟩, ⟨h.2.1.1.kept hq, h.2.1.2.kept hq⟩, h.2.2.1.kept hq, h.2.2.2.kept hq⟩
theorem lc_St.narrow {G : lc_G} {A B : Nat → Prop} {U : State} {H : Heap} (h : lc_St G A U H) (hAB : ∀ q, B q → A q) : lc_St G B U H :=
  ⟨⟨h.1.1.narrow hAB, h.1.2.narrow hAB⟩, ⟨h.2.1.1.narrow hAB, h.2.1.2.narrow hAB⟩, h.2.2.1.narrow hAB, h.2.2.2.narrow hAB⟩
/-- what holds at the start of every method of the two systems -/
def lc_Pre (G : lc_G) (σ : lc_S) (U : State) : Prop := lc_Tb U ∧ lc_K G U ∧ lc_P G σ U.heap ∧ lc_Ap G ∧ lc_St G (lc_A G) U U.heap
def lc_Post (G : lc_G) (o : Option Value) (σ' : lc_S) : Array Value → State → Outcome → State → Prop := fun _ st oc t => oc = .returned o ∧ lc_P G σ' t.heap ∧ va_F (lc_A G) st t
/-- a method's contract: from the state σ it answers o and leaves σ' -/
def lc_M (l : Launch) (G : lc_G) (y : MethodName) (cc : ByteArray) (nL : Nat) (ret : Option FieldType) (rm : Room) (av : List Value) (σ : lc_S) (o : Option Value) (σ' : lc_S) : Prop :=
  Met l y [.code y cc nL ret] rm (va_Pc av (lc_Pre G σ)) (lc_Post G o σ') 0 0 (lc_A G)
abbrev lc_Γ := Program × Launch × Env × Room × State × MethodId × Array Value × List Frame × Method × Code × (State → Prop) × (Nat → Prop) × Nat × Nat
abbrev lc_γR (Γ : lc_Γ) : Room := Γ.2.2.2.1
abbrev lc_γs (Γ : lc_Γ) : State := Γ.2.2.2.2.1
abbrev lc_γm (Γ : lc_Γ) : MethodId := Γ.2.2.2.2.2.1
abbrev lc_γargs (Γ : lc_Γ) : Array Value := Γ.2.2.2.2.2.2.1
abbrev lc_γbelow (Γ : lc_Γ) : List Frame := Γ.2.2.2.2.2.2.2.1
abbrev lc_γmeth (Γ : lc_Γ) : Method := Γ.2.2.2.2.2.2.2.2.1
abbrev lc_γc (Γ : lc_Γ) : Code := Γ.2.2.2.2.2.2.2.2.2.1
abbrev lc_γQ (Γ : lc_Γ) : State → Prop := Γ.2.2.2.2.2.2.2.2.2.2.1
abbrev lc_γA (Γ : lc_Γ) : Nat → Prop := Γ.2.2.2.2.2.2.2.2.2.2.2.1
abbrev lc_γk (Γ : lc_Γ) : Nat := Γ.2.2.2.2.2.2.2.2.2.2.2.2.1
abbrev lc_γn (Γ : lc_Γ) : Nat := Γ.2.2.2.2.2.2.2.2.2.2.2.2.2
abbrev lc_WW (Γ : lc_Γ) (H : Heap) (locs : List Loc) (g : JFrame) : Prop := W Γ.1 Γ.2.1 Γ.2.2.1 (lc_γR Γ) (lc_γs Γ) (lc_γm Γ) (lc_γargs Γ) (lc_γbelow Γ) (lc_γmeth Γ) (lc_γc Γ) H locs (lc_γk Γ) (lc_γn Γ) (lc_γQ Γ) g
def lc_Cx (G : lc_G) (Γ : lc_Γ) (cc : ByteArray) (nL : Nat) (own : String) : Prop :=
  Γ.1.tables.exec = Jvm.exec ∧ (lc_γc Γ).code = cc ∧ (lc_γc Γ).maxLocals = nL ∧ (lc_γs Γ).vm.findClass own = some (lc_γm Γ).cls ∧ lc_Tb (lc_γs Γ) ∧ lc_K G (lc_γs Γ) ∧ lc_Ap G ∧ (∀ k, k < 74 → lc_γA Γ (G.1 k)) ∧ lc_St G (lc_γA Γ) (lc_γs Γ) (lc_γs Γ).heap ∧ (lc_γmeth Γ).locks = false ∧ lc_γk Γ ≤ (lc_γR Γ).cells ∧ lc_γn Γ ≤ (lc_γR Γ).slots
def lc_Hp (G : lc_G) (Γ : lc_Γ) (σ : lc_S) (H : Heap) (locs : List Loc) : Prop := lc_P G σ H ∧ va_S (lc_γA Γ) (lc_γs Γ).heap H locs
/-- the walk stands at pc with these locals, this operand stack, this state, and comes to its end -/
def lc_V (G : lc_G) (Γ : lc_Γ) (cc : ByteArray) (nL : Nat) (own : String) (pc : Nat) (lv : List (Nat × Value)) (st : List Value) (σ : lc_S) : Prop :=
  lc_Cx G Γ cc nL own → ∀ (H : Heap) (locs : List Loc) (ls : Array Slot), lc_Hp G Γ σ H locs → lv_has ls nL lv → lc_WW Γ H locs (F0 (lc_γm Γ) pc ls st)
theorem lc_D {G : lc_G} {σ : lc_S} {A : Nat → Prop} (hap : lc_Ap G) (hA : ∀ k, k < 74 → A (G.1 k)) : va_D A (lc_ws G σ) := by
  refine ⟨fun i j p q hp hq e => ?_, fun k q hq => ?_⟩
  · obtain ⟨h1, rfl⟩ := lc_ws_mem hp
    obtain ⟨h2, rfl⟩ := lc_ws_mem hq
    exact hap i j h1 h2 e
  · obtain ⟨h1, rfl⟩ := lc_ws_mem hq
    exact hA k h1

section LCV
variable {G : lc_G} {Γ : lc_Γ} {cc : ByteArray} {nL : Nat} {own : String} {pc : Nat} {lv lv' : List (Nat × Value)} {st : List Value} {σ : lc_S}

theorem lc_iconst {n : Int} {v : Int32} (hd : decode cc pc = .ok (.iconst n, 1)) (hv : Int32.ofInt n = v) (kk : lc_V G Γ cc nL own (pc + 1) (lv) (.int v :: st) (σ)) : lc_V G Γ cc nL own (pc) (lv) (st) (σ) := fun C H locs ls hP hl => lv_iconst C.1 C.2.1 hd hv (kk C H locs ls hP hl)
theorem lc_bipush {n : Int} {v : Int32} (hd : decode cc pc = .ok (.bipush n, 2)) (hv : (Int8.ofInt n).toInt32 = v) (kk : lc_V G Γ cc nL own (pc + 2) (lv) (.int v :: st) (σ)) : lc_V G Γ cc nL own (pc) (lv) (st) (σ) := fun C H locs ls hP hl => lv_bipush C.1 C.2.1 hd hv (kk C H locs ls hP hl)
theorem lc_sipush {n : Int} {v : Int32} (hd : decode cc pc = .ok (.sipush n, 3)) (hv : (Int16.ofInt n).toInt32 = v) (kk : lc_V G Γ cc nL own (pc + 3) (lv) (.int v :: st) (σ)) : lc_V G Γ cc nL own (pc) (lv) (st) (σ) := fun C H locs ls hP hl => lv_sipush C.1 C.2.1 hd hv (kk C H locs ls hP hl)
theorem lc_lconst {n : Fin 2} {v : Int64} (hd : decode cc pc = .ok (.lconst n, 1)) (hv : Int64.ofNat (n : Nat) = v) (kk : lc_V G Γ cc nL own (pc + 1) (lv) (.long v :: st) (σ)) : lc_V G Γ cc nL own (pc) (lv) (st) (σ) := fun C H locs ls hP hl => lv_lconst C.1 C.2.1 hd hv (kk C H locs ls hP hl)
theorem lc_iload_n (k : Nat) {i : Fin 4} {x : Int32} (hd : decode cc pc = .ok (.iload_n i, 1)) (hk : lv[k]? = some ((i : Nat), .int x)) (kk : lc_V G Γ cc nL own (pc + 1) (lv) (.int x :: st) (σ)) : lc_V G Γ cc nL own (pc) (lv) (st) (σ) := fun C H locs ls hP hl => lv_iload_n C.1 C.2.1 hd rfl (lv_at hl k hk) (kk C H locs ls hP hl)
theorem lc_iload (k : Nat) {i : Nat} {x : Int32} (hd : decode cc pc = .ok (.iload i, 2)) (hk : lv[k]? = some (i, .int x)) (kk : lc_V G Γ cc nL own (pc + 2) (lv) (.int x :: st) (σ)) : lc_V G Γ cc nL own (pc) (lv) (st) (σ) := fun C H locs ls hP hl => lv_iload C.1 C.2.1 hd (lv_at hl k hk) (kk C H locs ls hP hl)
theorem lc_lload_n (k : Nat) {i : Fin 4} {x : Int64} (hd : decode cc pc = .ok (.lload_n i, 1)) (hk : lv[k]? = some ((i : Nat), .long x)) (kk : lc_V G Γ cc nL own (pc + 1) (lv) (.long x :: st) (σ)) : lc_V G Γ cc nL own (pc) (lv) (st) (σ) := fun C H locs ls hP hl => lv_lload_n C.1 C.2.1 hd rfl (lv_at hl k hk) (kk C H locs ls hP hl)
theorem lc_lload (k : Nat) {i : Nat} {x : Int64} (hd : decode cc pc = .ok (.lload i, 2)) (hk : lv[k]? = some (i, .long x)) (kk : lc_V G Γ cc nL own (pc + 2) (lv) (.long x :: st) (σ)) : lc_V G Γ cc nL own (pc) (lv) (st) (σ) := fun C H locs ls hP hl => lv_lload C.1 C.2.1 hd (lv_at hl k hk) (kk C H locs ls hP hl)
theorem lc_aload_n (k : Nat) {i : Fin 4} {x : Nat} (hd : decode cc pc = .ok (.aload_n i, 1)) (hk : lv[k]? = some ((i : Nat), .ref x)) (kk : lc_V G Γ cc nL own (pc + 1) (lv) (.ref x :: st) (σ)) : lc_V G Γ cc nL own (pc) (lv) (st) (σ) := fun C H locs ls hP hl => lv_aload_n C.1 C.2.1 hd rfl (lv_at hl k hk) (kk C H locs ls hP hl)
theorem lc_aload (k : Nat) {i : Nat} {x : Nat} (hd : decode cc pc = .ok (.aload i, 2)) (hk : lv[k]? = some (i, .ref x)) (kk : lc_V G Γ cc nL own (pc + 2) (lv) (.ref x :: st) (σ)) : lc_V G Γ cc nL own (pc) (lv) (st) (σ) := fun C H locs ls hP hl => lv_aload C.1 C.2.1 hd (lv_at hl k hk) (kk C H locs ls hP hl)
theorem lc_istore_n {i : Fin 4} {x : Int32} (lv' : List (Nat × Value)) (hd : decode cc pc = .ok (.istore_n i, 1)) (hn : (i : Nat) < nL) (hv : ((i : Nat), Value.int x) :: lv.filter (fun q => !(q.1 == (i : Nat)) && !(q.1 + 1 == (i : Nat) && q.2.category == 2)) = lv') (kk : lc_V G Γ cc nL own (pc + 1) (lv') (st) (σ)) : lc_V G Γ cc nL own (pc) (lv) (.int x :: st) (σ) := fun C H locs ls hP hl => lv_istore_n C.1 C.2.1 hd rfl hl hn hv (fun ls' hl' => kk C H locs ls' hP hl')
theorem lc_istore {i : Nat} {x : Int32} (lv' : List (Nat × Value)) (hd : decode cc pc = .ok (.istore i, 2)) (hn : i < nL) (hv : (i, Value.int x) :: lv.filter (fun q => !(q.1 == i) && !(q.1 + 1 == i && q.2.category == 2)) = lv') (kk : lc_V G Γ cc nL own (pc + 2) (lv') (st) (σ)) : lc_V G Γ cc nL own (pc) (lv) (.int x :: st) (σ) := fun C H locs ls hP hl => lv_istore C.1 C.2.1 hd hl hn hv (fun ls' hl' => kk C H locs ls' hP hl')
theorem lc_astore_n {i : Fin 4} {x : Nat} (lv' : List (Nat × Value)) (hd : decode cc pc = .ok (.astore_n i, 1)) (hn : (i : Nat) < nL) (hv : ((i : Nat), Value.ref x) :: lv.filter (fun q => !(q.1 == (i : Nat)) && !(q.1 + 1 == (i : Nat) && q.2.category == 2)) = lv') (kk : lc_V G Γ cc nL own (pc + 1) (lv') (st) (σ)) : lc_V G Γ cc nL own (pc) (lv) (.ref x :: st) (σ) := fun C H locs ls hP hl => lv_astore_n C.1 C.2.1 hd rfl hl hn hv (fun ls' hl' => kk C H locs ls' hP hl')
theorem lc_astore {i : Nat} {x : Nat} (lv' : List (Nat × Value)) (hd : decode cc pc = .ok (.astore i, 2)) (hn : i < nL) (hv : (i, Value.ref x) :: lv.filter (fun q => !(q.1 == i) && !(q.1 + 1 == i && q.2.category == 2)) = lv') (kk : lc_V G Γ cc nL own (pc + 2) (lv') (st) (σ)) : lc_V G Γ cc nL own (pc) (lv) (.ref x :: st) (σ) := fun C H locs ls hP hl => lv_astore C.1 C.2.1 hd hl hn hv (fun ls' hl' => kk C H locs ls' hP hl')
theorem lc_lstore_n {i : Fin 4} {x : Int64} (lv' : List (Nat × Value)) (hd : decode cc pc = .ok (.lstore_n i, 1)) (hn : (i : Nat) + 1 < nL) (hv : ((i : Nat), Value.long x) :: lv.filter (fun q => !(q.1 == (i : Nat)) && (!(q.1 == (i : Nat) + 1) && !(q.1 + 1 == (i : Nat) && q.2.category == 2))) = lv') (kk : lc_V G Γ cc nL own (pc + 1) (lv') (st) (σ)) : lc_V G Γ cc nL own (pc) (lv) (.long x :: st) (σ) := fun C H locs ls hP hl => lv_lstore_n C.1 C.2.1 hd rfl hl hn hv (fun ls' hl' => kk C H locs ls' hP hl')
theorem lc_lstore {i : Nat} {x : Int64} (lv' : List (Nat × Value)) (hd : decode cc pc = .ok (.lstore i, 2)) (hn : i + 1 < nL) (hv : (i, Value.long x) :: lv.filter (fun q => !(q.1 == i) && (!(q.1 == i + 1) && !(q.1 + 1 == i && q.2.category == 2))) = lv') (kk : lc_V G Γ cc nL own (pc + 2) (lv') (st) (σ)) : lc_V G Γ cc nL own (pc) (lv) (.long x :: st) (σ) := fun C H locs ls hP hl => lv_lstore C.1 C.2.1 hd hl hn hv (fun ls' hl' => kk C H locs ls' hP hl')
theorem lc_iinc (k : Nat) {i : Nat} {n : Int} {x : Int32} (v : Int32) (lv' : List (Nat × Value)) (hd : decode cc pc = .ok (.iinc i n, 3)) (hk : lv[k]? = some (i, .int x)) (hx : x + Int32.ofInt n = v) (hn : i < nL) (hv : (i, Value.int v) :: lv.filter (fun q => !(q.1 == i) && !(q.1 + 1 == i && q.2.category == 2)) = lv') (kk : lc_V G Γ cc nL own (pc + 3) (lv') (st) (σ)) : lc_V G Γ cc nL own (pc) (lv) (st) (σ) := fun C H locs ls hP hl => lv_iinc C.1 C.2.1 hd hl hk hx hn hv (fun ls' hl' => kk C H locs ls' hP hl')
theorem lc_iadd {x y : Int32} (hd : decode cc pc = .ok (.iadd, 1)) (kk : lc_V G Γ cc nL own (pc + 1) (lv) (.int (x + y) :: st) (σ)) : lc_V G Γ cc nL own (pc) (lv) (.int y :: .int x :: st) (σ) := fun C H locs ls hP hl => lv_iadd C.1 C.2.1 hd (kk C H locs ls hP hl)
theorem lc_isub {x y : Int32} (hd : decode cc pc = .ok (.isub, 1)) (kk : lc_V G Γ cc nL own (pc + 1) (lv) (.int (x - y) :: st) (σ)) : lc_V G Γ cc nL own (pc) (lv) (.int y :: .int x :: st) (σ) := fun C H locs ls hP hl => lv_isub C.1 C.2.1 hd (kk C H locs ls hP hl)
theorem lc_imul {x y : Int32} (hd : decode cc pc = .ok (.imul, 1)) (kk : lc_V G Γ cc nL own (pc + 1) (lv) (.int (x * y) :: st) (σ)) : lc_V G Γ cc nL own (pc) (lv) (.int y :: .int x :: st) (σ) := fun C H locs ls hP hl => lv_imul C.1 C.2.1 hd (kk C H locs ls hP hl)
theorem lc_iand {x y : Int32} (hd : decode cc pc = .ok (.iand, 1)) (kk : lc_V G Γ cc nL own (pc + 1) (lv) (.int (x &&& y) :: st) (σ)) : lc_V G Γ cc nL own (pc) (lv) (.int y :: .int x :: st) (σ) := fun C H locs ls hP hl => lv_iand C.1 C.2.1 hd (kk C H locs ls hP hl)
theorem lc_ior {x y : Int32} (hd : decode cc pc = .ok (.ior, 1)) (kk : lc_V G Γ cc nL own (pc + 1) (lv) (.int (x ||| y) :: st) (σ)) : lc_V G Γ cc nL own (pc) (lv) (.int y :: .int x :: st) (σ) := fun C H locs ls hP hl => lv_ior C.1 C.2.1 hd (kk C H locs ls hP hl)
theorem lc_ixor {x y : Int32} (hd : decode cc pc = .ok (.ixor, 1)) (kk : lc_V G Γ cc nL own (pc + 1) (lv) (.int (x ^^^ y) :: st) (σ)) : lc_V G Γ cc nL own (pc) (lv) (.int y :: .int x :: st) (σ) := fun C H locs ls hP hl => lv_ixor C.1 C.2.1 hd (kk C H locs ls hP hl)
theorem lc_ishl {x y : Int32} (hd : decode cc pc = .ok (.ishl, 1)) (kk : lc_V G Γ cc nL own (pc + 1) (lv) (.int (x <<< (y &&& 31)) :: st) (σ)) : lc_V G Γ cc nL own (pc) (lv) (.int y :: .int x :: st) (σ) := fun C H locs ls hP hl => lv_ishl C.1 C.2.1 hd (kk C H locs ls hP hl)
theorem lc_ishr {x y : Int32} (hd : decode cc pc = .ok (.ishr, 1)) (kk : lc_V G Γ cc nL own (pc + 1) (lv) (.int (x >>> (y &&& 31)) :: st) (σ)) : lc_V G Γ cc nL own (pc) (lv) (.int y :: .int x :: st) (σ) := fun C H locs ls hP hl => lv_ishr C.1 C.2.1 hd (kk C H locs ls hP hl)
theorem lc_idiv {x y : Int32} (hd : decode cc pc = .ok (.idiv, 1)) (hne : ¬ y = 0) (kk : lc_V G Γ cc nL own (pc + 1) (lv) (.int (x / y) :: st) (σ)) : lc_V G Γ cc nL own (pc) (lv) (.int y :: .int x :: st) (σ) := fun C H locs ls hP hl => lv_idiv C.1 C.2.1 hd hne (kk C H locs ls hP hl)
theorem lc_irem {x y : Int32} (hd : decode cc pc = .ok (.irem, 1)) (hne : ¬ y = 0) (kk : lc_V G Γ cc nL own (pc + 1) (lv) (.int (x - x / y * y) :: st) (σ)) : lc_V G Γ cc nL own (pc) (lv) (.int y :: .int x :: st) (σ) := fun C H locs ls hP hl => lv_irem C.1 C.2.1 hd hne (kk C H locs ls hP hl)
theorem lc_ineg {x : Int32} (hd : decode cc pc = .ok (.ineg, 1)) (kk : lc_V G Γ cc nL own (pc + 1) (lv) (.int (-x) :: st) (σ)) : lc_V G Γ cc nL own (pc) (lv) (.int x :: st) (σ) := fun C H locs ls hP hl => lv_ineg C.1 C.2.1 hd (kk C H locs ls hP hl)
theorem lc_ladd {x y : Int64} (hd : decode cc pc = .ok (.ladd, 1)) (kk : lc_V G Γ cc nL own (pc + 1) (lv) (.long (x + y) :: st) (σ)) : lc_V G Γ cc nL own (pc) (lv) (.long y :: .long x :: st) (σ) := fun C H locs ls hP hl => lv_ladd C.1 C.2.1 hd (kk C H locs ls hP hl)
theorem lc_lsub {x y : Int64} (hd : decode cc pc = .ok (.lsub, 1)) (kk : lc_V G Γ cc nL own (pc + 1) (lv) (.long (x - y) :: st) (σ)) : lc_V G Γ cc nL own (pc) (lv) (.long y :: .long x :: st) (σ) := fun C H locs ls hP hl => lv_lsub C.1 C.2.1 hd (kk C H locs ls hP hl)
theorem lc_lmul {x y : Int64} (hd : decode cc pc = .ok (.lmul, 1)) (kk : lc_V G Γ cc nL own (pc + 1) (lv) (.long (x * y) :: st) (σ)) : lc_V G Γ cc nL own (pc) (lv) (.long y :: .long x :: st) (σ) := fun C H locs ls hP hl => lv_lmul C.1 C.2.1 hd (kk C H locs ls hP hl)
theorem lc_land {x y : Int64} (hd : decode cc pc = .ok (.land, 1)) (kk : lc_V G Γ cc nL own (pc + 1) (lv) (.long (x &&& y) :: st) (σ)) : lc_V G Γ cc nL own (pc) (lv) (.long y :: .long x :: st) (σ) := fun C H locs ls hP hl => lv_land C.1 C.2.1 hd (kk C H locs ls hP hl)
theorem lc_ldiv {x y : Int64} (hd : decode cc pc = .ok (.ldiv, 1)) (hne : ¬ y = 0) (kk : lc_V G Γ cc nL own (pc + 1) (lv) (.long (x / y) :: st) (σ)) : lc_V G Γ cc nL own (pc) (lv) (.long y :: .long x :: st) (σ) := fun C H locs ls hP hl => lv_ldiv C.1 C.2.1 hd hne (kk C H locs ls hP hl)
theorem lc_lrem {x y : Int64} (hd : decode cc pc = .ok (.lrem, 1)) (hne : ¬ y = 0) (kk : lc_V G Γ cc nL own (pc + 1) (lv) (.long (x - x / y * y) :: st) (σ)) : lc_V G Γ cc nL own (pc) (lv) (.long y :: .long x :: st) (σ) := fun C H locs ls hP hl => lv_lrem C.1 C.2.1 hd hne (kk C H locs ls hP hl)
theorem lc_i2l {x : Int32} (hd : decode cc pc = .ok (.i2l, 1)) (kk : lc_V G Γ cc nL own (pc + 1) (lv) (.long x.toInt64 :: st) (σ)) : lc_V G Γ cc nL own (pc) (lv) (.int x :: st) (σ) := fun C H locs ls hP hl => lv_i2l C.1 C.2.1 hd rfl (kk C H locs ls hP hl)
theorem lc_l2i {x : Int64} (hd : decode cc pc = .ok (.l2i, 1)) (kk : lc_V G Γ cc nL own (pc + 1) (lv) (.int x.toInt32 :: st) (σ)) : lc_V G Γ cc nL own (pc) (lv) (.long x :: st) (σ) := fun C H locs ls hP hl => lv_l2i C.1 C.2.1 hd rfl (kk C H locs ls hP hl)
theorem lc_lcmp {x y : Int64} (hd : decode cc pc = .ok (.lcmp, 1)) (kk : lc_V G Γ cc nL own (pc + 1) (lv) (.int (lg_cmp x y) :: st) (σ)) : lc_V G Γ cc nL own (pc) (lv) (.long y :: .long x :: st) (σ) := fun C H locs ls hP hl => W.lcmp C.1 C.2.1 hd (kk C H locs ls hP hl)
theorem lc_dup {va : Value} (hd : decode cc pc = .ok (.dup, 1)) (hc : va.category = 1) (kk : lc_V G Γ cc nL own (pc + 1) (lv) (va :: va :: st) (σ)) : lc_V G Γ cc nL own (pc) (lv) (va :: st) (σ) := fun C H locs ls hP hl => lv_dup C.1 C.2.1 hd hc (kk C H locs ls hP hl)
theorem lc_pop {va : Value} (hd : decode cc pc = .ok (.pop, 1)) (hc : va.category = 1) (kk : lc_V G Γ cc nL own (pc + 1) (lv) (st) (σ)) : lc_V G Γ cc nL own (pc) (lv) (va :: st) (σ) := fun C H locs ls hP hl => lv_pop C.1 C.2.1 hd hc (kk C H locs ls hP hl)
theorem lc_dup2 {va vb : Value} (hd : decode cc pc = .ok (.dup2, 1)) (hc : va.category = 1) (hc2 : vb.category = 1) (kk : lc_V G Γ cc nL own (pc + 1) (lv) (va :: vb :: va :: vb :: st) (σ)) : lc_V G Γ cc nL own (pc) (lv) (va :: vb :: st) (σ) := fun C H locs ls hP hl => lv_dup2_11 C.1 C.2.1 hd hc hc2 (kk C H locs ls hP hl)
theorem lc_if_eq {x : Int32} {off : Int} (tgt : Nat) (hd : decode cc pc = .ok (.ifCond .eq off, 3)) (ht : (pc : Int) + off = (tgt : Int)) (kt : x = 0 → lc_V G Γ cc nL own (tgt) (lv) (st) (σ)) (kf : (¬ x = 0 ∧ ¬ 0 = x) → lc_V G Γ cc nL own (pc + 3) (lv) (st) (σ)) : lc_V G Γ cc nL own (pc) (lv) (.int x :: st) (σ) := fun C H locs ls hP hl => lv_if_eq C.1 C.2.1 hd ht (fun q => kt q C H locs ls hP hl) (fun q => kf ⟨q, fun z => q z.symm⟩ C H locs ls hP hl)
theorem lc_icmp_eq {x y : Int32} {off : Int} (tgt : Nat) (hd : decode cc pc = .ok (.if_icmp .eq off, 3)) (ht : (pc : Int) + off = (tgt : Int)) (kt : x = y → lc_V G Γ cc nL own (tgt) (lv) (st) (σ)) (kf : (¬ x = y ∧ ¬ y = x) → lc_V G Γ cc nL own (pc + 3) (lv) (st) (σ)) : lc_V G Γ cc nL own (pc) (lv) (.int y :: .int x :: st) (σ) := fun C H locs ls hP hl => lv_icmp_eq C.1 C.2.1 hd ht (fun q => kt q C H locs ls hP hl) (fun q => kf ⟨q, fun z => q z.symm⟩ C H locs ls hP hl)
theorem lc_if_ne {x : Int32} {off : Int} (tgt : Nat) (hd : decode cc pc = .ok (.ifCond .ne off, 3)) (ht : (pc : Int) + off = (tgt : Int)) (kt : (¬ x = 0 ∧ ¬ 0 = x) → lc_V G Γ cc nL own (tgt) (lv) (st) (σ)) (kf : x = 0 → lc_V G Γ cc nL own (pc + 3) (lv) (st) (σ)) : lc_V G Γ cc nL own (pc) (lv) (.int x :: st) (σ) := fun C H locs ls hP hl => lv_if_ne C.1 C.2.1 hd ht (fun q => kt ⟨q, fun z => q z.symm⟩ C H locs ls hP hl) (fun q => kf q C H locs ls hP hl)
theorem lc_icmp_ne {x y : Int32} {off : Int} (tgt : Nat) (hd : decode cc pc = .ok (.if_icmp .ne off, 3)) (ht : (pc : Int) + off = (tgt : Int)) (kt : (¬ x = y ∧ ¬ y = x) → lc_V G Γ cc nL own (tgt) (lv) (st) (σ)) (kf : x = y → lc_V G Γ cc nL own (pc + 3) (lv) (st) (σ)) : lc_V G Γ cc nL own (pc) (lv) (.int y :: .int x :: st) (σ) := fun C H locs ls hP hl => lv_icmp_ne C.1 C.2.1 hd ht (fun q => kt ⟨q, fun z => q z.symm⟩ C H locs ls hP hl) (fun q => kf q C H locs ls hP hl)
theorem lc_if_lt {x : Int32} {off : Int} (tgt : Nat) (hd : decode cc pc = .ok (.ifCond .lt off, 3)) (ht : (pc : Int) + off = (tgt : Int)) (kt : (x < 0 ∧ ¬ 0 ≤ x) → lc_V G Γ cc nL own (tgt) (lv) (st) (σ)) (kf : (0 ≤ x ∧ ¬ x < 0) → lc_V G Γ cc nL own (pc + 3) (lv) (st) (σ)) : lc_V G Γ cc nL own (pc) (lv) (.int x :: st) (σ) := fun C H locs ls hP hl => lv_if_lt C.1 C.2.1 hd ht (fun q => kt ⟨q, fun z => absurd q (Int32.not_lt.mpr z)⟩ C H locs ls hP hl) (fun q => kf ⟨Int32.not_lt.mp q, q⟩ C H locs ls hP hl)
theorem lc_icmp_lt {x y : Int32} {off : Int} (tgt : Nat) (hd : decode cc pc = .ok (.if_icmp .lt off, 3)) (ht : (pc : Int) + off = (tgt : Int)) (kt : (x < y ∧ ¬ y ≤ x) → lc_V G Γ cc nL own (tgt) (lv) (st) (σ)) (kf : (y ≤ x ∧ ¬ x < y) → lc_V G Γ cc nL own (pc + 3) (lv) (st) (σ)) : lc_V G Γ cc nL own (pc) (lv) (.int y :: .int x :: st) (σ) := fun C H locs ls hP hl => lv_icmp_lt C.1 C.2.1 hd ht (fun q => kt ⟨q, fun z => absurd q (Int32.not_lt.mpr z)⟩ C H locs ls hP hl) (fun q => kf ⟨Int32.not_lt.mp q, q⟩ C H locs ls hP hl)
theorem lc_if_ge {x : Int32} {off : Int} (tgt : Nat) (hd : decode cc pc = .ok (.ifCond .ge off, 3)) (ht : (pc : Int) + off = (tgt : Int)) (kt : (0 ≤ x ∧ ¬ x < 0) → lc_V G Γ cc nL own (tgt) (lv) (st) (σ)) (kf : (x < 0 ∧ ¬ 0 ≤ x) → lc_V G Γ cc nL own (pc + 3) (lv) (st) (σ)) : lc_V G Γ cc nL own (pc) (lv) (.int x :: st) (σ) := fun C H locs ls hP hl => lv_if_ge C.1 C.2.1 hd ht (fun q => kt ⟨q, fun z => absurd q (Int32.not_le.mpr z)⟩ C H locs ls hP hl) (fun q => kf ⟨Int32.not_le.mp q, q⟩ C H locs ls hP hl)
theorem lc_icmp_ge {x y : Int32} {off : Int} (tgt : Nat) (hd : decode cc pc = .ok (.if_icmp .ge off, 3)) (ht : (pc : Int) + off = (tgt : Int)) (kt : (y ≤ x ∧ ¬ x < y) → lc_V G Γ cc nL own (tgt) (lv) (st) (σ)) (kf : (x < y ∧ ¬ y ≤ x) → lc_V G Γ cc nL own (pc + 3) (lv) (st) (σ)) : lc_V G Γ cc nL own (pc) (lv) (.int y :: .int x :: st) (σ) := fun C H locs ls hP hl => lv_icmp_ge C.1 C.2.1 hd ht (fun q => kt ⟨q, fun z => absurd q (Int32.not_le.mpr z)⟩ C H locs ls hP hl) (fun q => kf ⟨Int32.not_le.mp q, q⟩ C H locs ls hP hl)
theorem lc_if_gt {x : Int32} {off : Int} (tgt : Nat) (hd : decode cc pc = .ok (.ifCond .gt off, 3)) (ht : (pc : Int) + off = (tgt : Int)) (kt : (0 < x ∧ ¬ x ≤ 0) → lc_V G Γ cc nL own (tgt) (lv) (st) (σ)) (kf : (x ≤ 0 ∧ ¬ 0 < x) → lc_V G Γ cc nL own (pc + 3) (lv) (st) (σ)) : lc_V G Γ cc nL own (pc) (lv) (.int x :: st) (σ) := fun C H locs ls hP hl => lv_if_gt C.1 C.2.1 hd ht (fun q => kt ⟨q, fun z => absurd q (Int32.not_lt.mpr z)⟩ C H locs ls hP hl) (fun q => kf ⟨Int32.not_lt.mp q, q⟩ C H locs ls hP hl)
theorem lc_icmp_gt {x y : Int32} {off : Int} (tgt : Nat) (hd : decode cc pc = .ok (.if_icmp .gt off, 3)) (ht : (pc : Int) + off = (tgt : Int)) (kt : (y < x ∧ ¬ x ≤ y) → lc_V G Γ cc nL own (tgt) (lv) (st) (σ)) (kf : (x ≤ y ∧ ¬ y < x) → lc_V G Γ cc nL own (pc + 3) (lv) (st) (σ)) : lc_V G Γ cc nL own (pc) (lv) (.int y :: .int x :: st) (σ) := fun C H locs ls hP hl => lv_icmp_gt C.1 C.2.1 hd ht (fun q => kt ⟨q, fun z => absurd q (Int32.not_lt.mpr z)⟩ C H locs ls hP hl) (fun q => kf ⟨Int32.not_lt.mp q, q⟩ C H locs ls hP hl)
theorem lc_if_le {x : Int32} {off : Int} (tgt : Nat) (hd : decode cc pc = .ok (.ifCond .le off, 3)) (ht : (pc : Int) + off = (tgt : Int)) (kt : (x ≤ 0 ∧ ¬ 0 < x) → lc_V G Γ cc nL own (tgt) (lv) (st) (σ)) (kf : (0 < x ∧ ¬ x ≤ 0) → lc_V G Γ cc nL own (pc + 3) (lv) (st) (σ)) : lc_V G Γ cc nL own (pc) (lv) (.int x :: st) (σ) := fun C H locs ls hP hl => lv_if_le C.1 C.2.1 hd ht (fun q => kt ⟨q, fun z => absurd q (Int32.not_le.mpr z)⟩ C H locs ls hP hl) (fun q => kf ⟨Int32.not_le.mp q, q⟩ C H locs ls hP hl)
theorem lc_icmp_le {x y : Int32} {off : Int} (tgt : Nat) (hd : decode cc pc = .ok (.if_icmp .le off, 3)) (ht : (pc : Int) + off = (tgt : Int)) (kt : (x ≤ y ∧ ¬ y < x) → lc_V G Γ cc nL own (tgt) (lv) (st) (σ)) (kf : (y < x ∧ ¬ x ≤ y) → lc_V G Γ cc nL own (pc + 3) (lv) (st) (σ)) : lc_V G Γ cc nL own (pc) (lv) (.int y :: .int x :: st) (σ) := fun C H locs ls hP hl => lv_icmp_le C.1 C.2.1 hd ht (fun q => kt ⟨q, fun z => absurd q (Int32.not_le.mpr z)⟩ C H locs ls hP hl) (fun q => kf ⟨Int32.not_le.mp q, q⟩ C H locs ls hP hl)
theorem lc_bi_0 {b : Bool} : lc_bi b = 0 ↔ b = false := by cases b <;> decide
theorem lc_bi_t : lc_bi true = 1 := rfl
theorem lc_bi_f : lc_bi false = 0 := rfl
theorem lc_ifb_eq {b : Bool} {off : Int} (tgt : Nat) (hd : decode cc pc = .ok (.ifCond .eq off, 3)) (ht : (pc : Int) + off = (tgt : Int)) (kt : b = false → lc_V G Γ cc nL own (tgt) (lv) (st) (σ)) (kf : b = true → lc_V G Γ cc nL own (pc + 3) (lv) (st) (σ)) : lc_V G Γ cc nL own (pc) (lv) (.int (lc_bi b) :: st) (σ) := lc_if_eq tgt hd ht (fun q => kt (lc_bi_0.mp q)) (fun q => kf (by cases b; exact absurd rfl q.1; rfl))
theorem lc_ifb_ne {b : Bool} {off : Int} (tgt : Nat) (hd : decode cc pc = .ok (.ifCond .ne off, 3)) (ht : (pc : Int) + off = (tgt : Int)) (kt : b = true → lc_V G Γ cc nL own (tgt) (lv) (st) (σ)) (kf : b = false → lc_V G Γ cc nL own (pc + 3) (lv) (st) (σ)) : lc_V G Γ cc nL own (pc) (lv) (.int (lc_bi b) :: st) (σ) := lc_if_ne tgt hd ht (fun q => kt (by cases b; exact absurd rfl q.1; rfl)) (fun q => kf (lc_bi_0.mp q))
theorem lc_goto {off : Int} (tgt : Nat) (hd : decode cc pc = .ok (.goto off, 3)) (ht : (pc : Int) + off = (tgt : Int)) (kk : lc_V G Γ cc nL own (tgt) (lv) (st) (σ)) : lc_V G Γ cc nL own (pc) (lv) (st) (σ) := fun C H locs ls hP hl => lv_goto C.1 C.2.1 hd ht (kk C H locs ls hP hl)
theorem lc_topi {x : Int32} (y : Int32) (h : x = y) (kk : lc_V G Γ cc nL own (pc) (lv) (.int y :: st) (σ)) : lc_V G Γ cc nL own (pc) (lv) (.int x :: st) (σ) := h ▸ kk
theorem lc_eq {σ' : lc_S} (h : σ = σ') (kk : lc_V G Γ cc nL own (pc) (lv) (st) (σ')) : lc_V G Γ cc nL own (pc) (lv) (st) (σ) := h ▸ kk
theorem lc_lv (ks : List Nat) (h : lv_pick lv ks = lv') (kk : lc_V G Γ cc nL own (pc) (lv') (st) (σ)) : lc_V G Γ cc nL own (pc) (lv) (st) (σ) := fun C H locs ls hP hl => kk C H locs ls hP (lv_sub hl ks h)
theorem lc_ldc {idx : Nat} {v : Int32} (hw : Cond.constant own idx v ∈ lc_T) (hd : decode cc pc = .ok (.ldc idx, 2)) (kk : lc_V G Γ cc nL own (pc + 2) (lv) (.int v :: st) (σ)) : lc_V G Γ cc nL own (pc) (lv) (st) (σ) := fun C H locs ls hP hl => W.ldc C.1 C.2.1 C.2.2.2.1 (C.2.2.2.2.1.use _ hw) rfl hd (kk C H locs ls hP hl)
theorem lc_ldc2 {idx : Nat} {v : Int64} (hw : Cond.constantLong own idx v ∈ lc_T) (hd : decode cc pc = .ok (.ldc2_w idx, 3)) (kk : lc_V G Γ cc nL own (pc + 3) (lv) (.long v :: st) (σ)) : lc_V G Γ cc nL own (pc) (lv) (st) (σ) := fun C H locs ls hP hl => W.ldc2 C.1 C.2.1 C.2.2.2.1 (C.2.2.2.2.1.use _ hw) rfl hd (kk C H locs ls hP hl)

/-- an entry of a class's pool that links a field -/
def lc_fl (own : String) (idx : Nat) (q : String × String × String × Bool) : Prop := Cond.fieldLink own idx q.1 q.2.1 q.2.2.1 ∈ lc_T ∨ ∃ host, Cond.fieldLinkNest own idx q.1 q.2.1 q.2.2.1 host ∈ lc_T
def lc_ml (own : String) (idx : Nat) (y : MethodName) : Prop := Cond.methodLink own idx y ∈ lc_T ∨ ∃ host, Cond.methodLinkNest own idx y host ∈ lc_T
/-- what a row of classes must be for its fields to be read -/
def lc_cl (ci : Nat) (Cn : String) (T : u_T) (N : Nat) : Prop := vwCl[ci]? = some (Cn, T, N) ∧ ∀ w ∈ u_ws Cn T N, w ∈ lc_T
theorem lc_get {idx : Nat} (q0 ci slot : Nat) {Cn : String} {T : u_T} {N : Nat} {fs : List Value} {v : Value} (hq : q0 < 74) (he : lc_ent G σ q0 = .inr (ci, fs)) (hc : lc_cl ci Cn T N) (hs : slot < N) (hv : fs[slot]? = some v) (hl : lc_fl own idx (T slot)) (hd : decode cc pc = .ok (.getfield idx, 3)) (kk : lc_V G Γ cc nL own (pc + 3) lv (v :: st) σ) : lc_V G Γ cc nL own pc lv (.ref (G.1 q0) :: st) σ := by
  intro C H locs ls hP hl'
  have hw : (lc_ws G σ)[q0]? = some (G.1 q0, .inr (ci, fs)) := by rw [lc_ws_get G σ hq, he]
  rcases hl with h | ⟨host, h⟩
  · exact va_get (D := (G.2.1, G.2.2.1)) C.1 C.2.1 (fun w hw => C.2.2.2.2.1.use _ hw) hc.2 C.2.2.2.1 C.2.2.2.2.2.1 hP.1 q0 hw hc.1 slot hs (C.2.2.2.2.1.use _ h) (fun _ h9 => h9) hv hd (kk C H locs ls hP hl')
  · exact va_getN (D := (G.2.1, G.2.2.1)) C.1 C.2.1 (fun w hw => C.2.2.2.2.1.use _ hw) hc.2 C.2.2.2.1 C.2.2.2.2.2.1 hP.1 q0 hw hc.1 slot hs (C.2.2.2.2.1.use _ h) (fun _ h9 => h9) hv hd (kk C H locs ls hP hl')
theorem lc_put {idx : Nat} (σ' : lc_S) (q0 ci slot : Nat) {Cn : String} {T : u_T} {N : Nat} (ty0 : Nat → FieldType) {ty : FieldType} {fs : List Value} {v : Value} (hty : ∀ k, k < N → parseFieldDescriptor (T k).2.2.1 = some (ty0 k)) (hnm : ∀ a, a < N → ∀ b, b < N → a ≠ b → (T a).2.1 ≠ (T b).2.1) (hq : q0 < 74) (he : lc_ent G σ q0 = .inr (ci, fs)) (hc : lc_cl ci Cn T N) (hs : slot < N) (hfin : (T slot).2.2.2 = false) (hpd : parseFieldDescriptor (T slot).2.2.1 = some ty) (hn : narrow ty v = v) (hfit : fits ty v = true) (hlen : slot < fs.length)
    (h1 : lc_ent G σ' q0 = .inr (ci, fs.set slot v)) (h2 : ∀ i, i < 74 → i ≠ q0 → lc_ent G σ' i = lc_ent G σ i) (hl : lc_fl own idx (T slot)) (hd : decode cc pc = .ok (.putfield idx, 3)) (kk : lc_V G Γ cc nL own (pc + 3) lv st σ') : lc_V G Γ cc nL own pc lv (v :: .ref (G.1 q0) :: st) σ := by
  intro C H locs ls hP hl'
  have hw : (lc_ws G σ)[q0]? = some (G.1 q0, .inr (ci, fs)) := by rw [lc_ws_get G σ hq, he]
  have hD : va_D (lc_γA Γ) (lc_ws G σ) := lc_D C.2.2.2.2.2.2.1 C.2.2.2.2.2.2.2.1
  have hse := lc_ws_set G σ σ' h1 h2
  rcases hl with h | ⟨host, h⟩
  · refine va_put (D := (G.2.1, G.2.2.1)) C.1 C.2.1 (fun w hw => C.2.2.2.2.1.use _ hw) hc.2 ty0 hty hnm C.2.2.2.1 C.2.2.2.2.2.1 hP.1 hD hP.2 q0 hw hc.1 slot hs (C.2.2.2.2.1.use _ h) (fun _ h9 => h9) hfin hpd hn hfit hlen hd (fun H1 locs1 hP1 hD1 hS1 => ?_)
    rw [hse] at hP1
    exact kk C H1 locs1 ls ⟨hP1, hS1⟩ hl'
  · refine va_putN (D := (G.2.1, G.2.2.1)) C.1 C.2.1 (fun w hw => C.2.2.2.2.1.use _ hw) hc.2 ty0 hty hnm C.2.2.2.1 C.2.2.2.2.2.1 hP.1 hD hP.2 q0 hw hc.1 slot hs (C.2.2.2.2.1.use _ h) (fun _ h9 => h9) hfin hpd hn hfit hlen hd (fun H1 locs1 hP1 hD1 hS1 => ?_)
    rw [hse] at hP1
    exact kk C H1 locs1 ls ⟨hP1, hS1⟩ hl'
theorem lc_iald (q0 i : Nat) {n : Nat} {f : Nat → Int32} {x : Int32} (hq : q0 < 74) (he : lc_ent G σ q0 = lc_aE G n f) (hx : x = nI i) (hi : i < n) (hn : n ≤ 148) (hd : decode cc pc = .ok (.iaload, 1)) (kk : lc_V G Γ cc nL own (pc + 1) lv (.int (f i) :: st) σ) : lc_V G Γ cc nL own pc lv (.int x :: .ref (G.1 q0) :: st) σ := by
  intro C H locs ls hP hl
  subst hx
  have hw : (lc_ws G σ)[q0]? = some (G.1 q0, .inl (G.2.2.2.1, n, .inl f)) := by rw [lc_ws_get G σ hq, he]
  refine va_iald (D := (G.2.1, G.2.2.1)) C.1 C.2.1 C.2.2.2.2.2.1 hP.1 q0 0 hw rfl (vp_in_nI hi (by omega)) hd ?_
  rw [nI_clamp (by omega)]
  exact kk C H locs ls hP hl
theorem lc_iast (σ' : lc_S) (q0 i : Nat) {n : Nat} {f : Nat → Int32} {x v : Int32} (hq : q0 < 74) (he : lc_ent G σ q0 = lc_aE G n f) (hx : x = nI i) (hi : i < n) (hn : n ≤ 148) (h1 : lc_ent G σ' q0 = lc_aE G n (upd f i v)) (h2 : ∀ k, k < 74 → k ≠ q0 → lc_ent G σ' k = lc_ent G σ k) (hd : decode cc pc = .ok (.iastore, 1)) (kk : lc_V G Γ cc nL own (pc + 1) lv st σ') : lc_V G Γ cc nL own pc lv (.int v :: .int x :: .ref (G.1 q0) :: st) σ := by
  intro C H locs ls hP hl
  subst hx
  have hw : (lc_ws G σ)[q0]? = some (G.1 q0, .inl (G.2.2.2.1, n, .inl f)) := by rw [lc_ws_get G σ hq, he]
  have hD : va_D (lc_γA Γ) (lc_ws G σ) := lc_D C.2.2.2.2.2.2.1 C.2.2.2.2.2.2.2.1
  have hse := lc_ws_set G σ σ' h1 h2
  refine va_iast (D := (G.2.1, G.2.2.1)) C.1 C.2.1 C.2.2.2.2.2.1 hP.1 hD hP.2 q0 0 hw rfl (vp_in_nI hi (by omega)) hd (fun H1 locs1 hP1 hD1 hS1 => ?_)
  rw [nI_clamp (by omega), hse] at hP1
  exact kk C H1 locs1 ls ⟨hP1, hS1⟩ hl
theorem lc_alen (q0 : Nat) {n : Nat} {f : Nat → Int32} (hq : q0 < 74) (he : lc_ent G σ q0 = lc_aE G n f) (hd : decode cc pc = .ok (.arraylength, 1)) (kk : lc_V G Γ cc nL own (pc + 1) lv (.int (nI n) :: st) σ) : lc_V G Γ cc nL own pc lv (.ref (G.1 q0) :: st) σ := by
  intro C H locs ls hP hl
  have hw : (lc_ws G σ)[q0]? = some (G.1 q0, .inl (G.2.2.2.1, n, .inl f)) := by rw [lc_ws_get G σ hq, he]
  exact va_alen (D := (G.2.1, G.2.2.1)) C.1 C.2.1 C.2.2.2.2.2.1 hP.1 q0 0 hw (ty := .int) rfl rfl hd (kk C H locs ls hP hl)
theorem lc_ilen (j : Nat) (hj : j < 2) (hd : decode cc pc = .ok (.arraylength, 1)) (kk : lc_V G Γ cc nL own (pc + 1) lv (.int 24 :: st) σ) : lc_V G Γ cc nL own pc lv (.ref (G.1 (10 + j)) :: st) σ := by
  intro C H locs ls hP hl
  have hw : (lc_ws G σ)[10 + j]? = some (G.1 (10 + j), .inl (G.2.2.2.2.1, 24, .inr (.inr (.inr (.inr (fun i => some (G.1 (lc_it j i)))))))) := by
    rw [lc_ws_get G σ (by omega)]
    rcases (show j = 0 ∨ j = 1 by omega) with rfl | rfl <;> rfl
  exact va_alen (D := (G.2.1, G.2.2.1)) C.1 C.2.1 C.2.2.2.2.2.1 hP.1 (10 + j) 1 hw (ty := .object "LateCopies$Item") rfl rfl hd (kk C H locs ls hP hl)
theorem lc_aald (j i : Nat) {x : Int32} (hj : j < 2) (hx : x = nI i) (hi : i < 24) (hd : decode cc pc = .ok (.aaload, 1)) (kk : lc_V G Γ cc nL own (pc + 1) lv (.ref (G.1 (lc_it j i)) :: st) σ) : lc_V G Γ cc nL own pc lv (.int x :: .ref (G.1 (10 + j)) :: st) σ := by
  intro C H locs ls hP hl
  subst hx
  have hw : (lc_ws G σ)[10 + j]? = some (G.1 (10 + j), .inl (G.2.2.2.2.1, 24, .inr (.inr (.inr (.inr (fun i => some (G.1 (lc_it j i)))))))) := by
    rw [lc_ws_get G σ (by omega)]
    rcases (show j = 0 ∨ j = 1 by omega) with rfl | rfl <;> rfl
  refine va_aldq (D := (G.2.1, G.2.2.1)) C.1 C.2.1 C.2.2.2.2.2.1 hP.1 (10 + j) 1 (C := "LateCopies$Item") hw rfl (vp_in_nI hi (by omega)) hd ?_
  rw [nI_clamp (by omega)]
  exact kk C H locs ls hP hl
/-- what a method's walk comes to -/
def lc_Ret (G : lc_G) (Γ : lc_Γ) (l : Launch) (rm : Room) (ret : Option FieldType) (o : Option Value) (σ' : lc_S) : Prop :=
  lc_γQ Γ = MQ (lc_γbelow Γ) (lc_Post G o σ') (lc_γargs Γ) (lc_γs Γ) (lc_γk Γ) (lc_γn Γ) (lc_A G) ∧ (lc_γmeth Γ).sig.returnType = ret ∧ lc_γA Γ = lc_A G ∧ Γ.2.1 = l ∧ lc_γR Γ = rm
theorem lc_entry {l : Launch} {y : MethodName} {ret : Option FieldType} {rm : Room} {av : List Value} {o : Option Value} {σ' : lc_S} (lv0 : List (Nat × Value)) (hy : plainName y.cls = true) (hlen : (lg_sl av).length ≤ nL) (hlv : lv_args 0 av = lv0) (hrc : rm.cells = 0) (hrs : rm.slots = 0)
    (body : ∀ Γ : lc_Γ, lc_Ret G Γ l rm ret o σ' → lc_V G Γ cc nL y.cls 0 lv0 [] σ) : lc_M l G y cc nL ret rm av σ o σ' := by
  refine Met.ofW (cc := cc) (maxL := nL) (ret := ret) (ws' := []) hy rfl ?_
  intro p e s m args below meth c s₁ B hml hv
  obtain ⟨rfl, hT, hK, hP, hap, hSt⟩ := hv
  have hl := lv_entry av (n := nL) hlen
  rw [lg_entry_eq]
  rw [hlv] at hl
  have hA : ∀ k, k < 74 → lc_A G (G.1 k) := fun k hk => ⟨k, hk, rfl⟩
  have hown : s.vm.findClass y.cls = some m.cls := findClass_of_methodNamed B.named
  exact body (p, l, e, (headSpec [.code y cc nL ret] rm).room, s, m, av.toArray, below, meth, c, MQ below (lc_Post G o σ') av.toArray s 0 0 (lc_A G), lc_A G, 0, 0) ⟨rfl, B.returns, rfl, rfl, rfl⟩ ⟨B.exec, B.bytes, hml, hown, hT, hK, hap, hA, hSt, B.notSynchronized, Nat.zero_le _, Nat.zero_le _⟩ s.heap [] _ ⟨hP, va_S.rf⟩ hl
theorem lc_post {Γ : lc_Γ} {l : Launch} {rm : Room} {ret : Option FieldType} {o : Option Value} {σ σ' : lc_S} {H : Heap} {locs : List Loc} (hR : lc_Ret G Γ l rm ret o σ') (hσ : σ = σ') (hP : lc_Hp G Γ σ H locs) (v : Option Value) (hv : v = o) : ∀ t : State, t.heap = H → (lc_γs Γ).WarmedH t.vm → lc_Post G o σ' (lc_γargs Γ) (lc_γs Γ) (.returned v) t := by
  intro t ht _
  subst hσ hv
  refine ⟨rfl, by rw [ht]; exact hP.1, ?_⟩
  have h := hP.2.F ht
  rw [hR.2.2.1] at h
  exact h
theorem lc_iret {l : Launch} {rm : Room} {v w : Int32} {σ' : lc_S} (hR : lc_Ret G Γ l rm (some .int) (some (.int w)) σ') (hd : decode cc pc = .ok (.ireturn, 1)) (hv : v = w) (hσ : σ = σ') : lc_V G Γ cc nL own pc lv [.int v] σ := by
  intro C H locs ls hP hl
  have h := lc_post hR hσ hP (some (.int v)) (by rw [hv])
  show W _ _ _ _ _ _ _ _ _ _ _ _ _ _ (lc_γQ Γ) _
  rw [hR.1]
  exact W.iret C.1 C.2.1 hR.2.1 h (fun q hq => by have := hP.2.2.2 q hq; rw [hR.2.2.1] at this; exact this) hd C.2.2.2.2.2.2.2.2.2.1
theorem lc_zret {l : Launch} {rm : Room} {v : Int32} {b : Bool} {σ' : lc_S} (hR : lc_Ret G Γ l rm (some .boolean) (some (.int (lc_bi b))) σ') (hd : decode cc pc = .ok (.ireturn, 1)) (hv : v = lc_bi b) (hσ : σ = σ') : lc_V G Γ cc nL own pc lv [.int v] σ := by
  intro C H locs ls hP hl
  have h := lc_post hR hσ hP (some (.int v)) (by rw [hv])
  show W _ _ _ _ _ _ _ _ _ _ _ _ _ _ (lc_γQ Γ) _
  rw [hR.1]
  exact W.zret C.1 C.2.1 hR.2.1 (by rw [hv]; cases b <;> rfl) h (fun q hq => by have := hP.2.2.2 q hq; rw [hR.2.2.1] at this; exact this) hd C.2.2.2.2.2.2.2.2.2.1
theorem lc_lret {l : Launch} {rm : Room} {v w : Int64} {σ' : lc_S} (hR : lc_Ret G Γ l rm (some .long) (some (.long w)) σ') (hd : decode cc pc = .ok (.lreturn, 1)) (hv : v = w) (hσ : σ = σ') : lc_V G Γ cc nL own pc lv [.long v] σ := by
  intro C H locs ls hP hl
  have h := lc_post hR hσ hP (some (.long v)) (by rw [hv])
  show W _ _ _ _ _ _ _ _ _ _ _ _ _ _ (lc_γQ Γ) _
  rw [hR.1]
  exact W.lret C.1 C.2.1 hR.2.1 h (fun q hq => by have := hP.2.2.2 q hq; rw [hR.2.2.1] at this; exact this) hd C.2.2.2.2.2.2.2.2.2.1
theorem lc_vret {l : Launch} {rm : Room} {σ' : lc_S} (hR : lc_Ret G Γ l rm none none σ') (hd : decode cc pc = .ok (.return_, 1)) (hσ : σ = σ') : lc_V G Γ cc nL own pc lv [] σ := by
  intro C H locs ls hP hl
  have h := lc_post hR hσ hP none rfl
  show W _ _ _ _ _ _ _ _ _ _ _ _ _ _ (lc_γQ Γ) _
  rw [hR.1]
  exact W.vret C.1 C.2.1 hR.2.1 h (fun q hq => by have := hP.2.2.2 q hq; rw [hR.2.2.1] at this; exact this) hd C.2.2.2.2.2.2.2.2.2.1
theorem lc_aret {l : Launch} {rm : Room} {v w : Nat} {n : String} {σ' : lc_S} (hR : lc_Ret G Γ l rm (some (.object n)) (some (.ref w)) σ') (hd : decode cc pc = .ok (.areturn, 1)) (hv : v = w) (hσ : σ = σ') : lc_V G Γ cc nL own pc lv [.ref v] σ := by
  intro C H locs ls hP hl
  have h := lc_post hR hσ hP (some (.ref v)) (by rw [hv])
  show W _ _ _ _ _ _ _ _ _ _ _ _ _ _ (lc_γQ Γ) _
  rw [hR.1]
  exact W.aret C.1 C.2.1 hR.2.1 (Or.inl ⟨_, rfl⟩) (Or.inr ⟨_, rfl⟩) h (fun q hq => by have := hP.2.2.2 q hq; rw [hR.2.2.1] at this; exact this) hd C.2.2.2.2.2.2.2.2.2.1

theorem lc_blind {G : lc_G} {σ : lc_S} {av : List Value} : FrameBlind (va_Pc av (lc_Pre G σ)) := by
  intro a U g mk q
  obtain ⟨q0, hT, hK, hP, hap, hSt⟩ := q
  have hW : U.WarmedH (U.calling g mk a).vm := State.WarmedH.refl U
  exact ⟨q0, hT.warm hW, va_K.moved (u := U) (U := U.calling g mk a) (Vm.Alike.refl U.vm) hK, hP, hap, hSt.moved (u := U) (U := U.calling g mk a) (Vm.Alike.refl U.vm)⟩
theorem lc_pre (C : lc_Cx G Γ cc nL own) {H : Heap} {locs : List Loc} (hP : lc_Hp G Γ σ H locs) (av : List Value) : ∀ U : State, U.heap = H → (lc_γs Γ).WarmedH U.vm → va_Pc av (lc_Pre G σ) av.toArray U := by
  intro U hU hW
  have hsub : ∀ q, lc_A G q → lc_γA Γ q := fun q ⟨k, hk, e⟩ => by rw [e]; exact C.2.2.2.2.2.2.2.1 k hk
  have hSt : lc_St G (lc_γA Γ) (lc_γs Γ) H := C.2.2.2.2.2.2.2.2.1.kept hP.2.2.1
  refine ⟨rfl, C.2.2.2.2.1.warm hW, va_K.moved hW.alike C.2.2.2.2.2.1, by rw [hU]; exact hP.1, C.2.2.2.2.2.2.1, ?_⟩
  rw [hU]
  exact (hSt.narrow hsub).moved hW.alike
theorem lc_run {o : Option Value} {σ' : lc_S} {rest st0 : List Value} {a : Array Value} {H : Heap} {locs : List Loc} {ls : Array Slot} (C : lc_Cx G Γ cc nL own) (hP : lc_Hp G Γ σ H locs) (hl : lv_has ls nL lv)
    (hr : va_Run Γ.1 Γ.2.1 Γ.2.2.1 (lc_γR Γ) (lc_γs Γ) (lc_γm Γ) (lc_γargs Γ) (lc_γbelow Γ) (lc_γmeth Γ) (lc_γc Γ) H locs (lc_γk Γ) (lc_γn Γ) 0 0 (F0 (lc_γm Γ) pc ls st0) rest (lc_Post G o σ' a) (lc_A G)) (kk : lc_V G Γ cc nL own (pc + 3) lv (o.toList ++ rest) σ') : lc_WW Γ H locs (F0 (lc_γm Γ) pc ls st0) := by
  intro T hT X
  obtain ⟨v, st₀, t, T', L, h0, X', hL, e1, e2, ⟨hv, hp, hz, hk⟩, st⟩ := hr T hT X
  cases hv
  rw [h0] at hz hk
  have hsub : ∀ q, lc_A G q → lc_γA Γ q := fun q ⟨k, hk, e⟩ => by rw [e]; exact C.2.2.2.2.2.2.2.1 k hk
  have hH : lc_Hp G Γ σ' T'.heap (locs ++ L) := by
    refine ⟨by rw [e1]; exact hp, Nat.le_trans hP.2.1 (by rw [e1]; exact hz), fun q h1 h2 => ?_, fun q hq => ?_⟩
    · rw [e1, hk q (Nat.lt_of_lt_of_le h1 hP.2.1) (fun z => h2 (hsub q z))]; exact hP.2.2.1 q h1 h2
    · rcases List.mem_append.mp hq with h | h
      · exact hP.2.2.2 q h
      · exact hsub _ (hL q h)
  obtain ⟨t2, a1, b1⟩ := kk C T'.heap (locs ++ L) ls hH hl T' rfl X'
  exact ⟨t2, st t2 a1, b1⟩
/-- the words of a call -/
theorem lc_cw {y : MethodName} {bytes : ByteArray} {maxL : Nat} {ret : Option FieldType} (C : lc_Cx G Γ cc nL own) (hc : Cond.code y bytes maxL ret ∈ lc_T) : ∀ w ∈ [Cond.code y bytes maxL ret], ∀ (a' : Array Value) (U : State), (lc_γs Γ).WarmedH U.vm → w.before a' U = true := by
  intro w hw a' U hW
  rw [List.mem_singleton.mp hw]
  exact (C.2.2.2.2.1.warm hW).use a' hc
/-- what a caller knows of a method by the tables: its code, that its class is ready, its kind -/
def lc_mv (y : MethodName) (bytes : ByteArray) (maxL : Nat) (ret : Option FieldType) (n : Nat) : Prop := (Cond.code y bytes maxL ret ∈ lc_T ∧ Cond.initialized y.cls ∈ lc_T ∧ Cond.instanceMethod y ∈ lc_T ∧ Cond.selects y.cls y y ∈ lc_T) ∧ (y.cls ≠ "java/lang/invoke/MethodHandle" ∧ y.cls ≠ "java/lang/invoke/VarHandle") ∧ (parseMethodDescriptor y.desc).map (fun d => d.parameters.length) = some n
def lc_ms (y : MethodName) (bytes : ByteArray) (maxL : Nat) (ret : Option FieldType) (n : Nat) : Prop := (Cond.code y bytes maxL ret ∈ lc_T ∧ Cond.initialized y.cls ∈ lc_T ∧ Cond.static y ∈ lc_T) ∧ (y.cls ≠ "java/lang/invoke/MethodHandle" ∧ y.cls ≠ "java/lang/invoke/VarHandle") ∧ (parseMethodDescriptor y.desc).map (fun d => d.parameters.length) = some n
theorem lc_plen {y : MethodName} {n : Nat} (h : (parseMethodDescriptor y.desc).map (fun d => d.parameters.length) = some n) : ∀ sig, parseMethodDescriptor y.desc = some sig → n = sig.parameters.length := by
  intro sig hs
  rw [hs] at h
  exact (Option.some.inj h).symm
theorem lc_callV {l : Launch} {y : MethodName} {bytes : ByteArray} {maxL n idx : Nat} {ret : Option FieldType} {rm rm0 : Room} (q0 : Nat) {ci : Nat} {T : u_T} {N : Nat} {fs : List Value} {As : List Value} {o : Option Value} {σ' : lc_S} {st0 : List Value} (hM : lc_M l G y bytes maxL ret rm (.ref (G.1 q0) :: As) σ o σ') (hΓ : Γ.2.1 = l) (hR : lc_γR Γ = rm0) (hy : lc_mv y bytes maxL ret n) (hq : q0 < 74) (he : lc_ent G σ q0 = .inr (ci, fs)) (hci : vwCl[ci]? = some (y.cls, T, N)) (hml : lc_ml own idx y) (hn : As.length = n) (hst : st0 = As.reverse ++ .ref (G.1 q0) :: st) (hW : (st.map fun v => v.category).sum ≤ 8) (hro : (rm.cells = 0 ∧ rm.slots = 0) ∧ rm.frames + 1 ≤ rm0.frames ∧ 8 + (maxL + 11) + rm.locals ≤ rm0.locals) (hd : decode cc pc = .ok (.invokevirtual idx, 3)) (kk : lc_V G Γ cc nL own (pc + 3) lv (o.toList ++ st) σ') : lc_V G Γ cc nL own pc lv st0 σ := by
  intro C H locs ls hP hl
  subst hΓ hR
  have hT := C.2.2.2.2.1
  have hw : (lc_ws G σ)[q0]? = some (G.1 q0, .inr (ci, fs)) := by rw [lc_ws_get G σ hq, he]
  have hf : lc_γk Γ + 0 ≤ (lc_γR Γ).cells ∧ lc_γn Γ + 0 ≤ (lc_γR Γ).slots := ⟨C.2.2.2.2.2.2.2.2.2.2.1, C.2.2.2.2.2.2.2.2.2.2.2⟩
  have hpv : PreV (lc_γs Γ) H y.cls (G.1 q0) (va_Pc (.ref (G.1 q0) :: As) (lc_Pre G σ)) As := ⟨lc_blind, va_recv C.2.2.2.2.2.1 hP.1 hci hw, lc_pre C hP _⟩
  rcases hml with h | ⟨host, h⟩
  · refine lc_run C hP hl (va_runV (Ts := lc_T) (C := y.cls) (bytes := bytes) (maxL := maxL) (ret := ret) (n := n) (index := idx) (As := As) (rest := st) ⟨C.1, C.2.1, C.2.2.1, C.2.2.2.1, fun w hw => hT.use _ hw⟩ hM ⟨⟨hro.1.1, hro.1.2, hro.2.1, hro.2.2, lc_cw C hy.1.1, List.mem_singleton.mpr rfl, hT.use _ hy.1.1, hT.use _ hy.1.2.1, hy.2.1, lc_plen hy.2.2, hT.use _ h⟩, hT.use _ hy.1.2.2.1, hT.use _ hy.1.2.2.2⟩ hpv rfl hn hl.1 hst (lv_room hW) hd hf) kk
  · refine lc_run C hP hl (va_runVN (Ts := lc_T) (C := y.cls) (host := host) (bytes := bytes) (maxL := maxL) (ret := ret) (n := n) (index := idx) (As := As) (rest := st) ⟨C.1, C.2.1, C.2.2.1, C.2.2.2.1, fun w hw => hT.use _ hw⟩ hM ⟨⟨⟨hro.1.1, hro.1.2, hro.2.1, hro.2.2, lc_cw C hy.1.1, List.mem_singleton.mpr rfl⟩, hT.use _ hy.1.1, hT.use _ hy.1.2.1, hy.2.1, lc_plen hy.2.2, hT.use _ h⟩, hT.use _ hy.1.2.2.1, hT.use _ hy.1.2.2.2⟩ hpv rfl hn hl.1 hst (lv_room hW) hd hf) kk
theorem lc_callS {l : Launch} {y : MethodName} {bytes : ByteArray} {maxL n idx : Nat} {ret : Option FieldType} {rm rm0 : Room} {As : List Value} {o : Option Value} {σ' : lc_S} {st0 : List Value} (hM : lc_M l G y bytes maxL ret rm As σ o σ') (hΓ : Γ.2.1 = l) (hR : lc_γR Γ = rm0) (hy : lc_ms y bytes maxL ret n) (hml : lc_ml own idx y) (hn : As.length = n) (hst : st0 = As.reverse ++ st) (hW : (st.map fun v => v.category).sum ≤ 8) (hro : (rm.cells = 0 ∧ rm.slots = 0) ∧ rm.frames + 1 ≤ rm0.frames ∧ 8 + (maxL + 11) + rm.locals ≤ rm0.locals) (hd : decode cc pc = .ok (.invokestatic idx, 3)) (kk : lc_V G Γ cc nL own (pc + 3) lv (o.toList ++ st) σ') : lc_V G Γ cc nL own pc lv st0 σ := by
  intro C H locs ls hP hl
  subst hΓ hR
  have hT := C.2.2.2.2.1
  have hf : lc_γk Γ + 0 ≤ (lc_γR Γ).cells ∧ lc_γn Γ + 0 ≤ (lc_γR Γ).slots := ⟨C.2.2.2.2.2.2.2.2.2.2.1, C.2.2.2.2.2.2.2.2.2.2.2⟩
  have hpv : PreS (lc_γs Γ) H (va_Pc As (lc_Pre G σ)) As := ⟨lc_blind, lc_pre C hP _⟩
  rcases hml with h | ⟨host, h⟩
  · refine lc_run C hP hl (va_runS (Ts := lc_T) (bytes := bytes) (maxL := maxL) (ret := ret) (n := n) (index := idx) (As := As) (rest := st) ⟨C.1, C.2.1, C.2.2.1, C.2.2.2.1, fun w hw => hT.use _ hw⟩ hM ⟨⟨hro.1.1, hro.1.2, hro.2.1, hro.2.2, lc_cw C hy.1.1, List.mem_singleton.mpr rfl, hT.use _ hy.1.1, hT.use _ hy.1.2.1, hy.2.1, lc_plen hy.2.2, hT.use _ h⟩, hT.use _ hy.1.2.2⟩ hpv rfl hn hl.1 hst (lv_room hW) hd hf) kk
  · refine lc_run C hP hl (va_runSN (Ts := lc_T) (host := host) (bytes := bytes) (maxL := maxL) (ret := ret) (n := n) (index := idx) (As := As) (rest := st) ⟨C.1, C.2.1, C.2.2.1, C.2.2.2.1, fun w hw => hT.use _ hw⟩ hM ⟨⟨⟨hro.1.1, hro.1.2, hro.2.1, hro.2.2, lc_cw C hy.1.1, List.mem_singleton.mpr rfl⟩, hT.use _ hy.1.1, hT.use _ hy.1.2.1, hy.2.1, lc_plen hy.2.2, hT.use _ h⟩, hT.use _ hy.1.2.2, trivial⟩ hpv rfl hn hl.1 hst (lv_room hW) hd hf) kk

theorem lc_inc1 (a : Nat) : nI a + Int32.ofInt 1 = nI (a + 1) := nI_1 a
theorem lc_m4r (a : Nat) : nI a * 4 = nI (4 * a) := by rw [Nat.mul_comm]; exact pk_mul a 4
theorem lc_m4l (a : Nat) : 4 * nI a = nI (4 * a) := pk_mul 4 a
theorem lc_m6l (a : Nat) : 6 * nI a = nI (6 * a) := pk_mul 6 a
theorem lc_m4ra (a k : Nat) : nI a * 4 + nI k = nI (4 * a + k) := by rw [lc_m4r]; exact nI_add _ _
theorem lc_m4la (a k : Nat) : 4 * nI a + nI k = nI (4 * a + k) := by rw [lc_m4l]; exact nI_add _ _
theorem lc_m6la (a k : Nat) : 6 * nI a + nI k = nI (6 * a + k) := by rw [lc_m6l]; exact nI_add _ _
end LCV
end
section
theorem ml_L_9 : lc_ml RL 9 yX4_init := Or.inl (lc_in 92 (by decide +kernel) rfl)
theorem ml_X4_9 : lc_ml RX4 9 yX1_init := Or.inr ⟨"LateCopies", (lc_in 100 (by decide +kernel) rfl)⟩
theorem fl_X1_9 : lc_fl RX1 9 (TX1 0) := Or.inl (lc_in 104 (by decide +kernel) rfl)
theorem fl_X3_52 : lc_fl RX3 52 (TX1 0) := Or.inr ⟨"LateCopies", (lc_in 105 (by decide +kernel) rfl)⟩
theorem fl_X4_181 : lc_fl RX4 181 (TX1 0) := Or.inr ⟨"LateCopies", (lc_in 106 (by decide +kernel) rfl)⟩
theorem fl_X1_15 : lc_fl RX1 15 (TX1 1) := Or.inl (lc_in 107 (by decide +kernel) rfl)
theorem fl_X3_28 : lc_fl RX3 28 (TX1 1) := Or.inr ⟨"LateCopies", (lc_in 108 (by decide +kernel) rfl)⟩
theorem fl_X4_30 : lc_fl RX4 30 (TX1 1) := Or.inr ⟨"LateCopies", (lc_in 109 (by decide +kernel) rfl)⟩
theorem ml_X4_18 : lc_ml RX4 18 yX3_init := Or.inr ⟨"LateCopies", (lc_in 118 (by decide +kernel) rfl)⟩
theorem ml_X3_27 : lc_ml RX3 27 yX0_init := Or.inr ⟨"LateCopies", (lc_in 125 (by decide +kernel) rfl)⟩
theorem ml_X0_9 : lc_ml RX0 9 yX0_becomeNothing := Or.inl (lc_in 129 (by decide +kernel) rfl)
theorem fl_X0_14 : lc_fl RX0 14 (TX0 0) := Or.inl (lc_in 133 (by decide +kernel) rfl)
theorem fl_X4_90 : lc_fl RX4 90 (TX0 0) := Or.inr ⟨"LateCopies", (lc_in 134 (by decide +kernel) rfl)⟩
theorem fl_X3_87 : lc_fl RX3 87 (TX0 0) := Or.inr ⟨"LateCopies", (lc_in 135 (by decide +kernel) rfl)⟩
theorem fl_X0_18 : lc_fl RX0 18 (TX0 1) := Or.inl (lc_in 136 (by decide +kernel) rfl)
theorem fl_X4_115 : lc_fl RX4 115 (TX0 1) := Or.inr ⟨"LateCopies", (lc_in 137 (by decide +kernel) rfl)⟩
theorem fl_X0_21 : lc_fl RX0 21 (TX0 2) := Or.inl (lc_in 138 (by decide +kernel) rfl)
theorem fl_X4_118 : lc_fl RX4 118 (TX0 2) := Or.inr ⟨"LateCopies", (lc_in 139 (by decide +kernel) rfl)⟩
theorem fl_X3_138 : lc_fl RX3 138 (TX0 2) := Or.inr ⟨"LateCopies", (lc_in 140 (by decide +kernel) rfl)⟩
theorem fl_X0_24 : lc_fl RX0 24 (TX0 3) := Or.inl (lc_in 141 (by decide +kernel) rfl)
theorem fl_X3_90 : lc_fl RX3 90 (TX0 3) := Or.inr ⟨"LateCopies", (lc_in 142 (by decide +kernel) rfl)⟩
theorem fl_X4_121 : lc_fl RX4 121 (TX0 3) := Or.inr ⟨"LateCopies", (lc_in 143 (by decide +kernel) rfl)⟩
theorem fl_X0_27 : lc_fl RX0 27 (TX0 4) := Or.inl (lc_in 144 (by decide +kernel) rfl)
theorem fl_X3_93 : lc_fl RX3 93 (TX0 4) := Or.inr ⟨"LateCopies", (lc_in 145 (by decide +kernel) rfl)⟩
theorem fl_X4_124 : lc_fl RX4 124 (TX0 4) := Or.inr ⟨"LateCopies", (lc_in 146 (by decide +kernel) rfl)⟩
theorem fl_X0_30 : lc_fl RX0 30 (TX0 5) := Or.inl (lc_in 147 (by decide +kernel) rfl)
theorem fl_X3_64 : lc_fl RX3 64 (TX0 5) := Or.inr ⟨"LateCopies", (lc_in 148 (by decide +kernel) rfl)⟩
theorem fl_X4_131 : lc_fl RX4 131 (TX0 5) := Or.inr ⟨"LateCopies", (lc_in 149 (by decide +kernel) rfl)⟩
theorem fl_X3_9 : lc_fl RX3 9 (TX3 0) := Or.inl (lc_in 163 (by decide +kernel) rfl)
theorem fl_X4_63 : lc_fl RX4 63 (TX3 0) := Or.inr ⟨"LateCopies", (lc_in 164 (by decide +kernel) rfl)⟩
theorem fl_X3_15 : lc_fl RX3 15 (TX3 1) := Or.inl (lc_in 165 (by decide +kernel) rfl)
theorem fl_X3_20 : lc_fl RX3 20 (TX3 2) := Or.inl (lc_in 166 (by decide +kernel) rfl)
theorem fl_X3_24 : lc_fl RX3 24 (TX3 3) := Or.inl (lc_in 167 (by decide +kernel) rfl)
theorem fl_X3_34 : lc_fl RX3 34 (TX3 4) := Or.inl (lc_in 168 (by decide +kernel) rfl)
theorem fl_X2_41 : lc_fl RX2 41 (TX3 4) := Or.inr ⟨"LateCopies", (lc_in 169 (by decide +kernel) rfl)⟩
theorem fl_X4_53 : lc_fl RX4 53 (TX3 4) := Or.inr ⟨"LateCopies", (lc_in 170 (by decide +kernel) rfl)⟩
theorem fl_X3_37 : lc_fl RX3 37 (TX3 5) := Or.inl (lc_in 171 (by decide +kernel) rfl)
theorem fl_X4_79 : lc_fl RX4 79 (TX3 5) := Or.inr ⟨"LateCopies", (lc_in 172 (by decide +kernel) rfl)⟩
theorem fl_X3_40 : lc_fl RX3 40 (TX3 6) := Or.inl (lc_in 173 (by decide +kernel) rfl)
theorem fl_X4_102 : lc_fl RX4 102 (TX3 6) := Or.inr ⟨"LateCopies", (lc_in 174 (by decide +kernel) rfl)⟩
theorem fl_X3_43 : lc_fl RX3 43 (TX3 7) := Or.inl (lc_in 175 (by decide +kernel) rfl)
theorem fl_X2_64 : lc_fl RX2 64 (TX3 7) := Or.inr ⟨"LateCopies", (lc_in 176 (by decide +kernel) rfl)⟩
theorem fl_X4_160 : lc_fl RX4 160 (TX3 7) := Or.inr ⟨"LateCopies", (lc_in 177 (by decide +kernel) rfl)⟩
theorem fl_X3_46 : lc_fl RX3 46 (TX3 8) := Or.inl (lc_in 178 (by decide +kernel) rfl)
theorem fl_X4_163 : lc_fl RX4 163 (TX3 8) := Or.inr ⟨"LateCopies", (lc_in 179 (by decide +kernel) rfl)⟩
theorem fl_X3_49 : lc_fl RX3 49 (TX3 9) := Or.inl (lc_in 180 (by decide +kernel) rfl)
theorem fl_X4_166 : lc_fl RX4 166 (TX3 9) := Or.inr ⟨"LateCopies", (lc_in 181 (by decide +kernel) rfl)⟩
theorem ml_X4_25 : lc_ml RX4 25 yX2_init := Or.inr ⟨"LateCopies", (lc_in 205 (by decide +kernel) rfl)⟩
theorem ml_X2_11 : lc_ml RX2 11 yX3_init := Or.inr ⟨"LateCopies", (lc_in 210 (by decide +kernel) rfl)⟩
theorem fl_X2_12 : lc_fl RX2 12 (TX2 0) := Or.inl (lc_in 211 (by decide +kernel) rfl)
theorem fl_X2_34 : lc_fl RX2 34 (TX2 1) := Or.inl (lc_in 212 (by decide +kernel) rfl)
theorem fl_X2_22 : lc_fl RX2 22 (TX2 2) := Or.inl (lc_in 213 (by decide +kernel) rfl)
theorem fl_X4_10 : lc_fl RX4 10 (TX4 0) := Or.inl (lc_in 221 (by decide +kernel) rfl)
theorem fl_X4_19 : lc_fl RX4 19 (TX4 1) := Or.inl (lc_in 222 (by decide +kernel) rfl)
theorem fl_X4_26 : lc_fl RX4 26 (TX4 2) := Or.inl (lc_in 223 (by decide +kernel) rfl)
theorem fl_X4_50 : lc_fl RX4 50 (TX4 3) := Or.inl (lc_in 224 (by decide +kernel) rfl)
theorem ml_L_13 : lc_ml RL 13 yX4_letter := Or.inl (lc_in 234 (by decide +kernel) rfl)
theorem ml_X4_34 : lc_ml RX4 34 yX1_append := Or.inr ⟨"LateCopies", (lc_in 238 (by decide +kernel) rfl)⟩
theorem ml_L_18 : lc_ml RL 18 yX4_blank := Or.inl (lc_in 242 (by decide +kernel) rfl)
theorem ml_L_23 : lc_ml RL 23 yX4_fault := Or.inl (lc_in 246 (by decide +kernel) rfl)
theorem ml_X4_38 : lc_ml RX4 38 yX1_firstWrongPlace := Or.inr ⟨"LateCopies", (lc_in 250 (by decide +kernel) rfl)⟩
theorem ml_L_27 : lc_ml RL 27 yX4_line := Or.inl (lc_in 254 (by decide +kernel) rfl)
theorem ml_X4_42 : lc_ml RX4 42 yX1_isLine := Or.inr ⟨"LateCopies", (lc_in 258 (by decide +kernel) rfl)⟩
theorem ml_X1_19 : lc_ml RX1 19 yX1_firstWrongPlace := Or.inl (lc_in 262 (by decide +kernel) rfl)
theorem ml_X4_46 : lc_ml RX4 46 yX3_startLine := Or.inr ⟨"LateCopies", (lc_in 263 (by decide +kernel) rfl)⟩
theorem ml_X3_55 : lc_ml RX3 55 yX0_becomeNothing := Or.inr ⟨"LateCopies", (lc_in 267 (by decide +kernel) rfl)⟩
theorem ml_L_31 : lc_ml RL 31 yX4_set := Or.inl (lc_in 268 (by decide +kernel) rfl)
theorem fl_X4_56 : lc_fl RX4 56 ("LateCopies", "LEAST_LIMITS", "[I", true) := Or.inl (lc_in 272 (by decide +kernel) rfl)
theorem fl_X4_60 : lc_fl RX4 60 ("LateCopies", "MOST_LIMITS", "[I", true) := Or.inl (lc_in 274 (by decide +kernel) rfl)
theorem ml_X4_66 : lc_ml RX4 66 yX3_dropGone := Or.inr ⟨"LateCopies", (lc_in 276 (by decide +kernel) rfl)⟩
theorem ml_X3_75 : lc_ml RX3 75 yX3_itemAt := Or.inl (lc_in 280 (by decide +kernel) rfl)
theorem ml_X3_79 : lc_ml RX3 79 yX3_isDormant := Or.inl (lc_in 284 (by decide +kernel) rfl)
theorem ml_X3_83 : lc_ml RX3 83 yX3_isKept := Or.inl (lc_in 288 (by decide +kernel) rfl)
theorem ml_L_36 : lc_ml RL 36 yX4_put := Or.inl (lc_in 292 (by decide +kernel) rfl)
theorem ml_X4_69 : lc_ml RX4 69 yX3_knowsSite := Or.inr ⟨"LateCopies", (lc_in 296 (by decide +kernel) rfl)⟩
theorem ml_X4_73 : lc_ml RX4 73 yX4_isKey := Or.inl (lc_in 300 (by decide +kernel) rfl)
theorem ml_X4_76 : lc_ml RX4 76 yX3_isOff := Or.inr ⟨"LateCopies", (lc_in 303 (by decide +kernel) rfl)⟩
theorem ml_X4_82 : lc_ml RX4 82 yX3_putValue := Or.inr ⟨"LateCopies", (lc_in 307 (by decide +kernel) rfl)⟩
theorem ml_X3_96 : lc_ml RX3 96 yX3_advance := Or.inl (lc_in 311 (by decide +kernel) rfl)
theorem ml_X3_71 : lc_ml RX3 71 yX3_dropGone := Or.inl (lc_in 315 (by decide +kernel) rfl)
theorem ml_X3_100 : lc_ml RX3 100 yX0_becomeValue := Or.inr ⟨"LateCopies", (lc_in 316 (by decide +kernel) rfl)⟩
theorem ml_L_41 : lc_ml RL 41 yX4_remove := Or.inl (lc_in 320 (by decide +kernel) rfl)
theorem ml_X4_86 : lc_ml RX4 86 yX3_itemAt := Or.inr ⟨"LateCopies", (lc_in 324 (by decide +kernel) rfl)⟩
theorem ml_X4_95 : lc_ml RX4 95 yX3_removeValue := Or.inr ⟨"LateCopies", (lc_in 325 (by decide +kernel) rfl)⟩
theorem ml_X3_104 : lc_ml RX3 104 yX3_keepersOf := Or.inl (lc_in 329 (by decide +kernel) rfl)
theorem ml_X3_111 : lc_ml RX3 111 yX3_othersOf := Or.inl (lc_in 333 (by decide +kernel) rfl)
theorem ml_X3_114 : lc_ml RX3 114 yX3_nearest := Or.inl (lc_in 337 (by decide +kernel) rfl)
theorem ml_X3_162 : lc_ml RX3 162 yJ9_abs_0f7a4 := Or.inl (lc_in 341 (by decide +kernel) rfl)
theorem ml_X3_108 : lc_ml RX3 108 yX0_becomeCertificate := Or.inr ⟨"LateCopies", (lc_in 344 (by decide +kernel) rfl)⟩
theorem ml_L_45 : lc_ml RL 45 yX4_pass := Or.inl (lc_in 348 (by decide +kernel) rfl)
theorem ml_X4_98 : lc_ml RX4 98 yX3_advance := Or.inr ⟨"LateCopies", (lc_in 352 (by decide +kernel) rfl)⟩
theorem ml_L_49 : lc_ml RL 49 yX4_off := Or.inl (lc_in 353 (by decide +kernel) rfl)
theorem ml_L_54 : lc_ml RL 54 yX4_exchange := Or.inl (lc_in 357 (by decide +kernel) rfl)
theorem ml_X4_105 : lc_ml RX4 105 yX4_refusalOfPair := Or.inl (lc_in 361 (by decide +kernel) rfl)
theorem ml_X4_109 : lc_ml RX4 109 yX3_compareAll := Or.inr ⟨"LateCopies", (lc_in 365 (by decide +kernel) rfl)⟩
theorem ml_X3_117 : lc_ml RX3 117 yX3_recentKeys := Or.inl (lc_in 369 (by decide +kernel) rfl)
theorem ml_X3_128 : lc_ml RX3 128 yX3_isRecent := Or.inl (lc_in 373 (by decide +kernel) rfl)
theorem ml_X3_131 : lc_ml RX3 131 yX3_isAwake := Or.inl (lc_in 377 (by decide +kernel) rfl)
theorem ml_X3_120 : lc_ml RX3 120 yX3_meetKeys := Or.inl (lc_in 381 (by decide +kernel) rfl)
theorem ml_X3_134 : lc_ml RX3 134 yX3_meet := Or.inl (lc_in 385 (by decide +kernel) rfl)
theorem ml_X3_141 : lc_ml RX3 141 yX0_isItemBelow := Or.inr ⟨"LateCopies", (lc_in 389 (by decide +kernel) rfl)⟩
theorem ml_X3_145 : lc_ml RX3 145 yX3_wake := Or.inl (lc_in 393 (by decide +kernel) rfl)
theorem ml_X3_149 : lc_ml RX3 149 yX0_isNewer := Or.inr ⟨"LateCopies", (lc_in 397 (by decide +kernel) rfl)⟩
theorem ml_X3_67 : lc_ml RX3 67 yX0_becomeCopy := Or.inr ⟨"LateCopies", (lc_in 401 (by decide +kernel) rfl)⟩
theorem ml_X3_124 : lc_ml RX3 124 yX3_areAlike := Or.inl (lc_in 405 (by decide +kernel) rfl)
theorem ml_X3_155 : lc_ml RX3 155 yX3_isSame := Or.inl (lc_in 409 (by decide +kernel) rfl)
theorem ml_L_58 : lc_ml RL 58 yX4_rumour := Or.inl (lc_in 413 (by decide +kernel) rfl)
theorem ml_X4_112 : lc_ml RX4 112 yX3_tellHot := Or.inr ⟨"LateCopies", (lc_in 417 (by decide +kernel) rfl)⟩
theorem ml_X3_152 : lc_ml RX3 152 yX3_tell := Or.inl (lc_in 421 (by decide +kernel) rfl)
theorem ml_L_62 : lc_ml RL 62 yX4_has := Or.inl (lc_in 425 (by decide +kernel) rfl)
theorem ml_X4_127 : lc_ml RX4 127 yX3_isDormant := Or.inr ⟨"LateCopies", (lc_in 429 (by decide +kernel) rfl)⟩
theorem ml_L_66 : lc_ml RL 66 yX4_newest := Or.inl (lc_in 430 (by decide +kernel) rfl)
theorem ml_X4_134 : lc_ml RX4 134 yX3_newestKey := Or.inr ⟨"LateCopies", (lc_in 434 (by decide +kernel) rfl)⟩
theorem ml_L_70 : lc_ml RL 70 yX4_alike := Or.inl (lc_in 438 (by decide +kernel) rfl)
theorem ml_X4_137 : lc_ml RX4 137 yX3_areAlike := Or.inr ⟨"LateCopies", (lc_in 442 (by decide +kernel) rfl)⟩
theorem ml_L_74 : lc_ml RL 74 yX4_risen := Or.inl (lc_in 443 (by decide +kernel) rfl)
theorem ml_X4_141 : lc_ml RX4 141 yX3_risenSites := Or.inr ⟨"LateCopies", (lc_in 447 (by decide +kernel) rfl)⟩
theorem ml_L_78 : lc_ml RL 78 yX4_partner := Or.inl (lc_in 451 (by decide +kernel) rfl)
theorem ml_X4_144 : lc_ml RX4 144 yX3_othersOn := Or.inr ⟨"LateCopies", (lc_in 455 (by decide +kernel) rfl)⟩
theorem ml_X4_147 : lc_ml RX4 147 yX4_nextSeed := Or.inl (lc_in 459 (by decide +kernel) rfl)
theorem kc_X4_198 : Cond.constantLong RX4 198 (1103515245) ∈ lc_T := (lc_in 462 (by decide +kernel) rfl)
theorem kc_X4_200 : Cond.constantLong RX4 200 (12345) ∈ lc_T := (lc_in 463 (by decide +kernel) rfl)
theorem kc_X4_202 : Cond.constantLong RX4 202 (2147483647) ∈ lc_T := (lc_in 464 (by decide +kernel) rfl)
theorem ml_X4_150 : lc_ml RX4 150 yX3_partnerBy := Or.inr ⟨"LateCopies", (lc_in 465 (by decide +kernel) rfl)⟩
theorem ml_X3_167 : lc_ml RX3 167 yX3_othersOn := Or.inl (lc_in 469 (by decide +kernel) rfl)
theorem ml_X3_170 : lc_ml RX3 170 yJ6_bitCount_0f7a4 := Or.inl (lc_in 470 (by decide +kernel) rfl)
theorem kc_J6_265 : Cond.constant RJ6 265 (1431655765) ∈ lc_T := (lc_in 473 (by decide +kernel) rfl)
theorem kc_J6_266 : Cond.constant RJ6 266 (858993459) ∈ lc_T := (lc_in 474 (by decide +kernel) rfl)
theorem kc_J6_267 : Cond.constant RJ6 267 (252645135) ∈ lc_T := (lc_in 475 (by decide +kernel) rfl)
theorem ml_X3_175 : lc_ml RX3 175 yX3_weightOf := Or.inl (lc_in 476 (by decide +kernel) rfl)
theorem fl_X3_179 : lc_fl RX3 179 ("LateCopies", "WEIGHTS", "[I", true) := Or.inr ⟨"LateCopies", (lc_in 479 (by decide +kernel) rfl)⟩
theorem kc_X3_178 : Cond.constant RX3 178 (65536) ∈ lc_T := (lc_in 481 (by decide +kernel) rfl)
theorem ml_L_82 : lc_ml RL 82 yX4_settle := Or.inl (lc_in 482 (by decide +kernel) rfl)
theorem ml_X4_153 : lc_ml RX4 153 yX2_run := Or.inr ⟨"LateCopies", (lc_in 486 (by decide +kernel) rfl)⟩
theorem ml_X2_18 : lc_ml RX2 18 yX3_startTrial := Or.inr ⟨"LateCopies", (lc_in 490 (by decide +kernel) rfl)⟩
theorem ml_X2_26 : lc_ml RX2 26 yX3_allOnAlike := Or.inr ⟨"LateCopies", (lc_in 497 (by decide +kernel) rfl)⟩
theorem ml_X3_159 : lc_ml RX3 159 yX3_isOff := Or.inl (lc_in 501 (by decide +kernel) rfl)
theorem ml_X2_30 : lc_ml RX2 30 yX2_playRound := Or.inl (lc_in 502 (by decide +kernel) rfl)
theorem ml_X2_37 : lc_ml RX2 37 yX3_advance := Or.inr ⟨"LateCopies", (lc_in 506 (by decide +kernel) rfl)⟩
theorem ml_X2_44 : lc_ml RX2 44 yX3_isOff := Or.inr ⟨"LateCopies", (lc_in 507 (by decide +kernel) rfl)⟩
theorem ml_X2_48 : lc_ml RX2 48 yX3_othersOn := Or.inr ⟨"LateCopies", (lc_in 508 (by decide +kernel) rfl)⟩
theorem ml_X2_51 : lc_ml RX2 51 yX4_nextSeed := Or.inr ⟨"LateCopies", (lc_in 509 (by decide +kernel) rfl)⟩
theorem ml_X2_54 : lc_ml RX2 54 yX3_partnerBy := Or.inr ⟨"LateCopies", (lc_in 510 (by decide +kernel) rfl)⟩
theorem ml_X2_58 : lc_ml RX2 58 yX3_tellHot := Or.inr ⟨"LateCopies", (lc_in 511 (by decide +kernel) rfl)⟩
theorem ml_X2_61 : lc_ml RX2 61 yX3_compareAll := Or.inr ⟨"LateCopies", (lc_in 512 (by decide +kernel) rfl)⟩
theorem ml_X4_157 : lc_ml RX4 157 yX2_outcome := Or.inr ⟨"LateCopies", (lc_in 513 (by decide +kernel) rfl)⟩
theorem ml_L_87 : lc_ml RL 87 yX4_count := Or.inl (lc_in 517 (by decide +kernel) rfl)
theorem ml_L_91 : lc_ml RL 91 yX4_digest := Or.inl (lc_in 521 (by decide +kernel) rfl)
theorem kc_X4_169 : Cond.constantLong RX4 169 (1741) ∈ lc_T := (lc_in 525 (by decide +kernel) rfl)
theorem ml_X4_171 : lc_ml RX4 171 yX4_mixSite := Or.inl (lc_in 526 (by decide +kernel) rfl)
theorem ml_X4_187 : lc_ml RX4 187 yX4_has := Or.inl (lc_in 530 (by decide +kernel) rfl)
theorem ml_X4_178 : lc_ml RX4 178 yX4_mix := Or.inl (lc_in 531 (by decide +kernel) rfl)
theorem kc_X4_196 : Cond.constantLong RX4 196 (31) ∈ lc_T := (lc_in 534 (by decide +kernel) rfl)
theorem ml_X4_190 : lc_ml RX4 190 yX4_newest := Or.inl (lc_in 535 (by decide +kernel) rfl)
theorem ml_X4_193 : lc_ml RX4 193 yX4_alike := Or.inl (lc_in 536 (by decide +kernel) rfl)
theorem ml_X4_175 : lc_ml RX4 175 yX4_risen := Or.inl (lc_in 537 (by decide +kernel) rfl)
theorem ml_X4_184 : lc_ml RX4 184 yX4_count := Or.inl (lc_in 538 (by decide +kernel) rfl)
theorem ml_L_12 : lc_ml RL 12 yX5_init := Or.inl (lc_in 541 (by decide +kernel) rfl)
theorem fl_X5_47 : lc_fl RX5 47 (TX5 0) := Or.inl (lc_in 545 (by decide +kernel) rfl)
theorem fl_X5_7 : lc_fl RX5 7 (TX5 1) := Or.inl (lc_in 546 (by decide +kernel) rfl)
theorem fl_X5_55 : lc_fl RX5 55 (TX5 2) := Or.inl (lc_in 547 (by decide +kernel) rfl)
theorem fl_X5_13 : lc_fl RX5 13 (TX5 3) := Or.inl (lc_in 548 (by decide +kernel) rfl)
theorem fl_X5_62 : lc_fl RX5 62 (TX5 4) := Or.inl (lc_in 549 (by decide +kernel) rfl)
theorem fl_X5_65 : lc_fl RX5 65 (TX5 5) := Or.inl (lc_in 550 (by decide +kernel) rfl)
theorem fl_X5_68 : lc_fl RX5 68 (TX5 6) := Or.inl (lc_in 551 (by decide +kernel) rfl)
theorem fl_X5_71 : lc_fl RX5 71 (TX5 7) := Or.inl (lc_in 552 (by decide +kernel) rfl)
theorem fl_X5_74 : lc_fl RX5 74 (TX5 8) := Or.inl (lc_in 553 (by decide +kernel) rfl)
theorem fl_X5_77 : lc_fl RX5 77 (TX5 9) := Or.inl (lc_in 554 (by decide +kernel) rfl)
theorem fl_X5_16 : lc_fl RX5 16 (TX5 10) := Or.inl (lc_in 555 (by decide +kernel) rfl)
theorem fl_X5_19 : lc_fl RX5 19 (TX5 11) := Or.inl (lc_in 556 (by decide +kernel) rfl)
theorem fl_X5_22 : lc_fl RX5 22 (TX5 12) := Or.inl (lc_in 557 (by decide +kernel) rfl)
theorem fl_X5_25 : lc_fl RX5 25 (TX5 13) := Or.inl (lc_in 558 (by decide +kernel) rfl)
theorem fl_X5_28 : lc_fl RX5 28 (TX5 14) := Or.inl (lc_in 559 (by decide +kernel) rfl)
theorem fl_X5_31 : lc_fl RX5 31 (TX5 15) := Or.inl (lc_in 560 (by decide +kernel) rfl)
theorem fl_X5_34 : lc_fl RX5 34 (TX5 16) := Or.inl (lc_in 561 (by decide +kernel) rfl)
theorem fl_X5_37 : lc_fl RX5 37 (TX5 17) := Or.inl (lc_in 562 (by decide +kernel) rfl)
theorem fl_X5_172 : lc_fl RX5 172 (TX5 18) := Or.inl (lc_in 563 (by decide +kernel) rfl)
theorem fl_X5_40 : lc_fl RX5 40 (TX5 19) := Or.inl (lc_in 564 (by decide +kernel) rfl)
theorem fl_X5_194 : lc_fl RX5 194 (TX5 20) := Or.inl (lc_in 565 (by decide +kernel) rfl)
theorem fl_X5_205 : lc_fl RX5 205 (TX5 21) := Or.inl (lc_in 566 (by decide +kernel) rfl)
theorem fl_X5_223 : lc_fl RX5 223 (TX5 22) := Or.inl (lc_in 567 (by decide +kernel) rfl)
theorem ml_L_17 : lc_ml RL 17 yX5_letter := Or.inl (lc_in 615 (by decide +kernel) rfl)
theorem ml_X5_43 : lc_ml RX5 43 yX5_within := Or.inl (lc_in 619 (by decide +kernel) rfl)
theorem ml_L_22 : lc_ml RL 22 yX5_blank := Or.inl (lc_in 622 (by decide +kernel) rfl)
theorem ml_L_26 : lc_ml RL 26 yX5_fault := Or.inl (lc_in 626 (by decide +kernel) rfl)
theorem ml_L_30 : lc_ml RL 30 yX5_line := Or.inl (lc_in 630 (by decide +kernel) rfl)
theorem ml_X5_51 : lc_ml RX5 51 yX5_fault := Or.inl (lc_in 634 (by decide +kernel) rfl)
theorem ml_X5_58 : lc_ml RX5 58 yX5_clear := Or.inl (lc_in 635 (by decide +kernel) rfl)
theorem ml_L_35 : lc_ml RL 35 yX5_set := Or.inl (lc_in 639 (by decide +kernel) rfl)
theorem ml_X5_88 : lc_ml RX5 88 yX5_least := Or.inl (lc_in 643 (by decide +kernel) rfl)
theorem ml_X5_92 : lc_ml RX5 92 yX5_most := Or.inl (lc_in 646 (by decide +kernel) rfl)
theorem ml_X5_95 : lc_ml RX5 95 yX5_purge := Or.inl (lc_in 649 (by decide +kernel) rfl)
theorem ml_X5_84 : lc_ml RX5 84 yX5_isIn := Or.inl (lc_in 653 (by decide +kernel) rfl)
theorem ml_X5_80 : lc_ml RX5 80 yX5_isDormant := Or.inl (lc_in 656 (by decide +kernel) rfl)
theorem ml_L_40 : lc_ml RL 40 yX5_put := Or.inl (lc_in 660 (by decide +kernel) rfl)
theorem ml_X5_98 : lc_ml RX5 98 yX5_isSite := Or.inl (lc_in 664 (by decide +kernel) rfl)
theorem ml_X5_101 : lc_ml RX5 101 yX5_isKey := Or.inl (lc_in 668 (by decide +kernel) rfl)
theorem ml_L_44 : lc_ml RL 44 yX5_remove := Or.inl (lc_in 671 (by decide +kernel) rfl)
theorem ml_X5_111 : lc_ml RX5 111 yX5_near := Or.inl (lc_in 675 (by decide +kernel) rfl)
theorem ml_X5_104 : lc_ml RX5 104 yX5_nearest := Or.inl (lc_in 679 (by decide +kernel) rfl)
theorem ml_X5_108 : lc_ml RX5 108 yX5_size := Or.inl (lc_in 683 (by decide +kernel) rfl)
theorem ml_L_48 : lc_ml RL 48 yX5_pass := Or.inl (lc_in 686 (by decide +kernel) rfl)
theorem ml_L_53 : lc_ml RL 53 yX5_off := Or.inl (lc_in 690 (by decide +kernel) rfl)
theorem ml_L_57 : lc_ml RL 57 yX5_exchange := Or.inl (lc_in 694 (by decide +kernel) rfl)
theorem ml_X5_149 : lc_ml RX5 149 yX5_areTwo := Or.inl (lc_in 698 (by decide +kernel) rfl)
theorem ml_X5_152 : lc_ml RX5 152 yX5_exchangeNow := Or.inl (lc_in 702 (by decide +kernel) rfl)
theorem ml_X5_140 : lc_ml RX5 140 yX5_isRecent := Or.inl (lc_in 706 (by decide +kernel) rfl)
theorem ml_X5_114 : lc_ml RX5 114 yX5_isAwake := Or.inl (lc_in 710 (by decide +kernel) rfl)
theorem ml_X5_143 : lc_ml RX5 143 yX5_meetAll := Or.inl (lc_in 714 (by decide +kernel) rfl)
theorem ml_X5_136 : lc_ml RX5 136 yX5_meet := Or.inl (lc_in 718 (by decide +kernel) rfl)
theorem ml_X5_124 : lc_ml RX5 124 yX5_wakes := Or.inl (lc_in 722 (by decide +kernel) rfl)
theorem ml_X5_127 : lc_ml RX5 127 yX5_wake := Or.inl (lc_in 726 (by decide +kernel) rfl)
theorem ml_X5_130 : lc_ml RX5 130 yX5_goes := Or.inl (lc_in 730 (by decide +kernel) rfl)
theorem ml_X5_117 : lc_ml RX5 117 yX5_isNewer := Or.inl (lc_in 734 (by decide +kernel) rfl)
theorem ml_X5_120 : lc_ml RX5 120 yX5_copy := Or.inl (lc_in 738 (by decide +kernel) rfl)
theorem ml_X5_146 : lc_ml RX5 146 yX5_areAlike := Or.inl (lc_in 742 (by decide +kernel) rfl)
theorem ml_X5_133 : lc_ml RX5 133 yX5_areSame := Or.inl (lc_in 746 (by decide +kernel) rfl)
theorem ml_L_61 : lc_ml RL 61 yX5_rumour := Or.inl (lc_in 750 (by decide +kernel) rfl)
theorem ml_X5_158 : lc_ml RX5 158 yX5_rumourNow := Or.inl (lc_in 754 (by decide +kernel) rfl)
theorem ml_X5_155 : lc_ml RX5 155 yX5_tell := Or.inl (lc_in 758 (by decide +kernel) rfl)
theorem ml_L_65 : lc_ml RL 65 yX5_has := Or.inl (lc_in 762 (by decide +kernel) rfl)
theorem ml_X5_161 : lc_ml RX5 161 yX5_itemNow := Or.inl (lc_in 766 (by decide +kernel) rfl)
theorem ml_L_69 : lc_ml RL 69 yX5_newest := Or.inl (lc_in 770 (by decide +kernel) rfl)
theorem ml_X5_164 : lc_ml RX5 164 yX5_newestNow := Or.inl (lc_in 774 (by decide +kernel) rfl)
theorem ml_L_73 : lc_ml RL 73 yX5_alike := Or.inl (lc_in 778 (by decide +kernel) rfl)
theorem ml_L_77 : lc_ml RL 77 yX5_risen := Or.inl (lc_in 782 (by decide +kernel) rfl)
theorem ml_X5_167 : lc_ml RX5 167 yX5_risenNow := Or.inl (lc_in 786 (by decide +kernel) rfl)
theorem ml_L_81 : lc_ml RL 81 yX5_partner := Or.inl (lc_in 790 (by decide +kernel) rfl)
theorem ml_X5_188 : lc_ml RX5 188 yX5_partnerNow := Or.inl (lc_in 794 (by decide +kernel) rfl)
theorem ml_X5_182 : lc_ml RX5 182 yX5_weight := Or.inl (lc_in 798 (by decide +kernel) rfl)
theorem ml_X5_185 : lc_ml RX5 185 yX5_draw := Or.inl (lc_in 801 (by decide +kernel) rfl)
theorem kc_X5_170 : Cond.constantLong RX5 170 (1103515245) ∈ lc_T := (lc_in 805 (by decide +kernel) rfl)
theorem kc_X5_176 : Cond.constantLong RX5 176 (12345) ∈ lc_T := (lc_in 806 (by decide +kernel) rfl)
theorem kc_X5_178 : Cond.constantLong RX5 178 (2147483647) ∈ lc_T := (lc_in 807 (by decide +kernel) rfl)
theorem kc_X5_180 : Cond.constantLong RX5 180 (65536) ∈ lc_T := (lc_in 808 (by decide +kernel) rfl)
theorem ml_L_86 : lc_ml RL 86 yX5_settle := Or.inl (lc_in 809 (by decide +kernel) rfl)
theorem ml_X5_211 : lc_ml RX5 211 yX5_laySettling := Or.inl (lc_in 813 (by decide +kernel) rfl)
theorem ml_X5_191 : lc_ml RX5 191 yX5_save := Or.inl (lc_in 817 (by decide +kernel) rfl)
theorem ml_X5_197 : lc_ml RX5 197 yX5_areAllAlike := Or.inl (lc_in 821 (by decide +kernel) rfl)
theorem ml_X5_201 : lc_ml RX5 201 yX5_goRound := Or.inl (lc_in 825 (by decide +kernel) rfl)
theorem ml_X5_208 : lc_ml RX5 208 yX5_back := Or.inl (lc_in 829 (by decide +kernel) rfl)
theorem ml_X5_215 : lc_ml RX5 215 yX5_settledNow := Or.inl (lc_in 833 (by decide +kernel) rfl)
theorem ml_L_90 : lc_ml RL 90 yX5_count := Or.inl (lc_in 837 (by decide +kernel) rfl)
theorem ml_X5_218 : lc_ml RX5 218 yX5_howMany := Or.inl (lc_in 841 (by decide +kernel) rfl)
theorem ml_L_95 : lc_ml RL 95 yX5_digest := Or.inl (lc_in 845 (by decide +kernel) rfl)
theorem kc_X5_230 : Cond.constantLong RX5 230 (1741) ∈ lc_T := (lc_in 849 (by decide +kernel) rfl)
theorem ml_X5_232 : lc_ml RX5 232 yX5_mixSite := Or.inl (lc_in 850 (by decide +kernel) rfl)
theorem ml_X5_226 : lc_ml RX5 226 yX5_mix := Or.inl (lc_in 854 (by decide +kernel) rfl)
theorem kc_X5_221 : Cond.constantLong RX5 221 (31) ∈ lc_T := (lc_in 858 (by decide +kernel) rfl)
theorem ml_X5_235 : lc_ml RX5 235 yX5_mixSettling := Or.inl (lc_in 859 (by decide +kernel) rfl)
theorem mt_X0_becomeNothing : lc_mv yX0_becomeNothing cX0_becomeNothing 1 none 0 := ⟨⟨(lc_in 132 (by decide +kernel) rfl), (lc_in 84 (by decide +kernel) rfl), (lc_in 131 (by decide +kernel) rfl), (lc_in 0 (by decide +kernel) rfl)⟩, ⟨by decide +kernel, by decide +kernel⟩, by decide +kernel⟩
theorem mt_X4_letter : lc_mv yX4_letter cX4_letter 2 (some .int) 1 := ⟨⟨(lc_in 237 (by decide +kernel) rfl), (lc_in 81 (by decide +kernel) rfl), (lc_in 235 (by decide +kernel) rfl), (lc_in 236 (by decide +kernel) rfl)⟩, ⟨by decide +kernel, by decide +kernel⟩, by decide +kernel⟩
theorem mt_X1_append : lc_mv yX1_append cX1_append 2 none 1 := ⟨⟨(lc_in 241 (by decide +kernel) rfl), (lc_in 82 (by decide +kernel) rfl), (lc_in 240 (by decide +kernel) rfl), (lc_in 1 (by decide +kernel) rfl)⟩, ⟨by decide +kernel, by decide +kernel⟩, by decide +kernel⟩
theorem mt_X4_blank : lc_mv yX4_blank cX4_blank 2 (some .int) 0 := ⟨⟨(lc_in 245 (by decide +kernel) rfl), (lc_in 81 (by decide +kernel) rfl), (lc_in 243 (by decide +kernel) rfl), (lc_in 244 (by decide +kernel) rfl)⟩, ⟨by decide +kernel, by decide +kernel⟩, by decide +kernel⟩
theorem mt_X4_fault : lc_mv yX4_fault cX4_fault 1 (some .int) 0 := ⟨⟨(lc_in 249 (by decide +kernel) rfl), (lc_in 81 (by decide +kernel) rfl), (lc_in 247 (by decide +kernel) rfl), (lc_in 248 (by decide +kernel) rfl)⟩, ⟨by decide +kernel, by decide +kernel⟩, by decide +kernel⟩
theorem mt_X1_firstWrongPlace : lc_mv yX1_firstWrongPlace cX1_firstWrongPlace 4 (some .int) 0 := ⟨⟨(lc_in 253 (by decide +kernel) rfl), (lc_in 82 (by decide +kernel) rfl), (lc_in 252 (by decide +kernel) rfl), (lc_in 2 (by decide +kernel) rfl)⟩, ⟨by decide +kernel, by decide +kernel⟩, by decide +kernel⟩
theorem mt_X4_line : lc_mv yX4_line cX4_line 1 (some .int) 0 := ⟨⟨(lc_in 257 (by decide +kernel) rfl), (lc_in 81 (by decide +kernel) rfl), (lc_in 255 (by decide +kernel) rfl), (lc_in 256 (by decide +kernel) rfl)⟩, ⟨by decide +kernel, by decide +kernel⟩, by decide +kernel⟩
theorem mt_X1_isLine : lc_mv yX1_isLine cX1_isLine 1 (some .boolean) 0 := ⟨⟨(lc_in 261 (by decide +kernel) rfl), (lc_in 82 (by decide +kernel) rfl), (lc_in 260 (by decide +kernel) rfl), (lc_in 3 (by decide +kernel) rfl)⟩, ⟨by decide +kernel, by decide +kernel⟩, by decide +kernel⟩
theorem mt_X3_startLine : lc_mv yX3_startLine cX3_startLine 3 none 1 := ⟨⟨(lc_in 266 (by decide +kernel) rfl), (lc_in 83 (by decide +kernel) rfl), (lc_in 265 (by decide +kernel) rfl), (lc_in 4 (by decide +kernel) rfl)⟩, ⟨by decide +kernel, by decide +kernel⟩, by decide +kernel⟩
theorem mt_X4_set : lc_mv yX4_set cX4_set 4 (some .int) 2 := ⟨⟨(lc_in 271 (by decide +kernel) rfl), (lc_in 81 (by decide +kernel) rfl), (lc_in 269 (by decide +kernel) rfl), (lc_in 270 (by decide +kernel) rfl)⟩, ⟨by decide +kernel, by decide +kernel⟩, by decide +kernel⟩
theorem mt_X3_dropGone : lc_mv yX3_dropGone cX3_dropGone 5 (some .int) 0 := ⟨⟨(lc_in 279 (by decide +kernel) rfl), (lc_in 83 (by decide +kernel) rfl), (lc_in 278 (by decide +kernel) rfl), (lc_in 5 (by decide +kernel) rfl)⟩, ⟨by decide +kernel, by decide +kernel⟩, by decide +kernel⟩
theorem mt_X3_itemAt : lc_mv yX3_itemAt cX3_itemAt 3 (some (.object "LateCopies$Item")) 2 := ⟨⟨(lc_in 283 (by decide +kernel) rfl), (lc_in 83 (by decide +kernel) rfl), (lc_in 282 (by decide +kernel) rfl), (lc_in 6 (by decide +kernel) rfl)⟩, ⟨by decide +kernel, by decide +kernel⟩, by decide +kernel⟩
theorem mt_X3_isDormant : lc_mv yX3_isDormant cX3_isDormant 2 (some .boolean) 1 := ⟨⟨(lc_in 287 (by decide +kernel) rfl), (lc_in 83 (by decide +kernel) rfl), (lc_in 286 (by decide +kernel) rfl), (lc_in 7 (by decide +kernel) rfl)⟩, ⟨by decide +kernel, by decide +kernel⟩, by decide +kernel⟩
theorem mt_X3_isKept : lc_mv yX3_isKept cX3_isKept 4 (some .boolean) 2 := ⟨⟨(lc_in 291 (by decide +kernel) rfl), (lc_in 83 (by decide +kernel) rfl), (lc_in 290 (by decide +kernel) rfl), (lc_in 8 (by decide +kernel) rfl)⟩, ⟨by decide +kernel, by decide +kernel⟩, by decide +kernel⟩
theorem mt_X4_put : lc_mv yX4_put cX4_put 4 (some .int) 3 := ⟨⟨(lc_in 295 (by decide +kernel) rfl), (lc_in 81 (by decide +kernel) rfl), (lc_in 293 (by decide +kernel) rfl), (lc_in 294 (by decide +kernel) rfl)⟩, ⟨by decide +kernel, by decide +kernel⟩, by decide +kernel⟩
theorem mt_X3_knowsSite : lc_mv yX3_knowsSite cX3_knowsSite 2 (some .boolean) 1 := ⟨⟨(lc_in 299 (by decide +kernel) rfl), (lc_in 83 (by decide +kernel) rfl), (lc_in 298 (by decide +kernel) rfl), (lc_in 9 (by decide +kernel) rfl)⟩, ⟨by decide +kernel, by decide +kernel⟩, by decide +kernel⟩
theorem mt_X4_isKey : lc_ms yX4_isKey cX4_isKey 1 (some .boolean) 1 := ⟨⟨(lc_in 302 (by decide +kernel) rfl), (lc_in 81 (by decide +kernel) rfl), (lc_in 301 (by decide +kernel) rfl)⟩, ⟨by decide +kernel, by decide +kernel⟩, by decide +kernel⟩
theorem mt_X3_isOff : lc_mv yX3_isOff cX3_isOff 2 (some .boolean) 1 := ⟨⟨(lc_in 306 (by decide +kernel) rfl), (lc_in 83 (by decide +kernel) rfl), (lc_in 305 (by decide +kernel) rfl), (lc_in 10 (by decide +kernel) rfl)⟩, ⟨by decide +kernel, by decide +kernel⟩, by decide +kernel⟩
theorem mt_X3_putValue : lc_mv yX3_putValue cX3_putValue 4 (some .int) 3 := ⟨⟨(lc_in 310 (by decide +kernel) rfl), (lc_in 83 (by decide +kernel) rfl), (lc_in 309 (by decide +kernel) rfl), (lc_in 11 (by decide +kernel) rfl)⟩, ⟨by decide +kernel, by decide +kernel⟩, by decide +kernel⟩
theorem mt_X3_advance : lc_mv yX3_advance cX3_advance 2 (some .int) 1 := ⟨⟨(lc_in 314 (by decide +kernel) rfl), (lc_in 83 (by decide +kernel) rfl), (lc_in 313 (by decide +kernel) rfl), (lc_in 12 (by decide +kernel) rfl)⟩, ⟨by decide +kernel, by decide +kernel⟩, by decide +kernel⟩
theorem mt_X0_becomeValue : lc_mv yX0_becomeValue cX0_becomeValue 4 none 3 := ⟨⟨(lc_in 319 (by decide +kernel) rfl), (lc_in 84 (by decide +kernel) rfl), (lc_in 318 (by decide +kernel) rfl), (lc_in 13 (by decide +kernel) rfl)⟩, ⟨by decide +kernel, by decide +kernel⟩, by decide +kernel⟩
theorem mt_X4_remove : lc_mv yX4_remove cX4_remove 4 (some .int) 3 := ⟨⟨(lc_in 323 (by decide +kernel) rfl), (lc_in 81 (by decide +kernel) rfl), (lc_in 321 (by decide +kernel) rfl), (lc_in 322 (by decide +kernel) rfl)⟩, ⟨by decide +kernel, by decide +kernel⟩, by decide +kernel⟩
theorem mt_X3_removeValue : lc_mv yX3_removeValue cX3_removeValue 4 (some .int) 3 := ⟨⟨(lc_in 328 (by decide +kernel) rfl), (lc_in 83 (by decide +kernel) rfl), (lc_in 327 (by decide +kernel) rfl), (lc_in 14 (by decide +kernel) rfl)⟩, ⟨by decide +kernel, by decide +kernel⟩, by decide +kernel⟩
theorem mt_X3_keepersOf : lc_mv yX3_keepersOf cX3_keepersOf 7 (some .int) 2 := ⟨⟨(lc_in 332 (by decide +kernel) rfl), (lc_in 83 (by decide +kernel) rfl), (lc_in 331 (by decide +kernel) rfl), (lc_in 15 (by decide +kernel) rfl)⟩, ⟨by decide +kernel, by decide +kernel⟩, by decide +kernel⟩
theorem mt_X3_othersOf : lc_mv yX3_othersOf cX3_othersOf 2 (some .int) 1 := ⟨⟨(lc_in 336 (by decide +kernel) rfl), (lc_in 83 (by decide +kernel) rfl), (lc_in 335 (by decide +kernel) rfl), (lc_in 16 (by decide +kernel) rfl)⟩, ⟨by decide +kernel, by decide +kernel⟩, by decide +kernel⟩
theorem mt_X3_nearest : lc_mv yX3_nearest cX3_nearest 8 (some .int) 2 := ⟨⟨(lc_in 340 (by decide +kernel) rfl), (lc_in 83 (by decide +kernel) rfl), (lc_in 339 (by decide +kernel) rfl), (lc_in 17 (by decide +kernel) rfl)⟩, ⟨by decide +kernel, by decide +kernel⟩, by decide +kernel⟩
theorem mt_J9_abs_0f7a4 : lc_ms yJ9_abs_0f7a4 cJ9_abs_0f7a4 1 (some .int) 1 := ⟨⟨(lc_in 343 (by decide +kernel) rfl), (lc_in 87 (by decide +kernel) rfl), (lc_in 342 (by decide +kernel) rfl)⟩, ⟨by decide +kernel, by decide +kernel⟩, by decide +kernel⟩
theorem mt_X0_becomeCertificate : lc_mv yX0_becomeCertificate cX0_becomeCertificate 4 none 3 := ⟨⟨(lc_in 347 (by decide +kernel) rfl), (lc_in 84 (by decide +kernel) rfl), (lc_in 346 (by decide +kernel) rfl), (lc_in 18 (by decide +kernel) rfl)⟩, ⟨by decide +kernel, by decide +kernel⟩, by decide +kernel⟩
theorem mt_X4_pass : lc_mv yX4_pass cX4_pass 2 (some .int) 1 := ⟨⟨(lc_in 351 (by decide +kernel) rfl), (lc_in 81 (by decide +kernel) rfl), (lc_in 349 (by decide +kernel) rfl), (lc_in 350 (by decide +kernel) rfl)⟩, ⟨by decide +kernel, by decide +kernel⟩, by decide +kernel⟩
theorem mt_X4_off : lc_mv yX4_off cX4_off 5 (some .int) 2 := ⟨⟨(lc_in 356 (by decide +kernel) rfl), (lc_in 81 (by decide +kernel) rfl), (lc_in 354 (by decide +kernel) rfl), (lc_in 355 (by decide +kernel) rfl)⟩, ⟨by decide +kernel, by decide +kernel⟩, by decide +kernel⟩
theorem mt_X4_exchange : lc_mv yX4_exchange cX4_exchange 4 (some .int) 2 := ⟨⟨(lc_in 360 (by decide +kernel) rfl), (lc_in 81 (by decide +kernel) rfl), (lc_in 358 (by decide +kernel) rfl), (lc_in 359 (by decide +kernel) rfl)⟩, ⟨by decide +kernel, by decide +kernel⟩, by decide +kernel⟩
theorem mt_X4_refusalOfPair : lc_mv yX4_refusalOfPair cX4_refusalOfPair 3 (some .int) 2 := ⟨⟨(lc_in 364 (by decide +kernel) rfl), (lc_in 81 (by decide +kernel) rfl), (lc_in 363 (by decide +kernel) rfl), (lc_in 19 (by decide +kernel) rfl)⟩, ⟨by decide +kernel, by decide +kernel⟩, by decide +kernel⟩
theorem mt_X3_compareAll : lc_mv yX3_compareAll cX3_compareAll 5 (some .int) 2 := ⟨⟨(lc_in 368 (by decide +kernel) rfl), (lc_in 83 (by decide +kernel) rfl), (lc_in 367 (by decide +kernel) rfl), (lc_in 20 (by decide +kernel) rfl)⟩, ⟨by decide +kernel, by decide +kernel⟩, by decide +kernel⟩
theorem mt_X3_recentKeys : lc_mv yX3_recentKeys cX3_recentKeys 5 (some .int) 2 := ⟨⟨(lc_in 372 (by decide +kernel) rfl), (lc_in 83 (by decide +kernel) rfl), (lc_in 371 (by decide +kernel) rfl), (lc_in 21 (by decide +kernel) rfl)⟩, ⟨by decide +kernel, by decide +kernel⟩, by decide +kernel⟩
theorem mt_X3_isRecent : lc_mv yX3_isRecent cX3_isRecent 2 (some .boolean) 1 := ⟨⟨(lc_in 376 (by decide +kernel) rfl), (lc_in 83 (by decide +kernel) rfl), (lc_in 375 (by decide +kernel) rfl), (lc_in 22 (by decide +kernel) rfl)⟩, ⟨by decide +kernel, by decide +kernel⟩, by decide +kernel⟩
theorem mt_X3_isAwake : lc_mv yX3_isAwake cX3_isAwake 2 (some .boolean) 1 := ⟨⟨(lc_in 380 (by decide +kernel) rfl), (lc_in 83 (by decide +kernel) rfl), (lc_in 379 (by decide +kernel) rfl), (lc_in 23 (by decide +kernel) rfl)⟩, ⟨by decide +kernel, by decide +kernel⟩, by decide +kernel⟩
theorem mt_X3_meetKeys : lc_mv yX3_meetKeys cX3_meetKeys 8 (some .int) 3 := ⟨⟨(lc_in 384 (by decide +kernel) rfl), (lc_in 83 (by decide +kernel) rfl), (lc_in 383 (by decide +kernel) rfl), (lc_in 24 (by decide +kernel) rfl)⟩, ⟨by decide +kernel, by decide +kernel⟩, by decide +kernel⟩
theorem mt_X3_meet : lc_mv yX3_meet cX3_meet 3 (some .int) 2 := ⟨⟨(lc_in 388 (by decide +kernel) rfl), (lc_in 83 (by decide +kernel) rfl), (lc_in 387 (by decide +kernel) rfl), (lc_in 25 (by decide +kernel) rfl)⟩, ⟨by decide +kernel, by decide +kernel⟩, by decide +kernel⟩
theorem mt_X0_isItemBelow : lc_mv yX0_isItemBelow cX0_isItemBelow 2 (some .boolean) 1 := ⟨⟨(lc_in 392 (by decide +kernel) rfl), (lc_in 84 (by decide +kernel) rfl), (lc_in 391 (by decide +kernel) rfl), (lc_in 26 (by decide +kernel) rfl)⟩, ⟨by decide +kernel, by decide +kernel⟩, by decide +kernel⟩
theorem mt_X3_wake : lc_mv yX3_wake cX3_wake 2 none 1 := ⟨⟨(lc_in 396 (by decide +kernel) rfl), (lc_in 83 (by decide +kernel) rfl), (lc_in 395 (by decide +kernel) rfl), (lc_in 27 (by decide +kernel) rfl)⟩, ⟨by decide +kernel, by decide +kernel⟩, by decide +kernel⟩
theorem mt_X0_isNewer : lc_mv yX0_isNewer cX0_isNewer 2 (some .boolean) 1 := ⟨⟨(lc_in 400 (by decide +kernel) rfl), (lc_in 84 (by decide +kernel) rfl), (lc_in 399 (by decide +kernel) rfl), (lc_in 28 (by decide +kernel) rfl)⟩, ⟨by decide +kernel, by decide +kernel⟩, by decide +kernel⟩
theorem mt_X0_becomeCopy : lc_mv yX0_becomeCopy cX0_becomeCopy 3 none 2 := ⟨⟨(lc_in 404 (by decide +kernel) rfl), (lc_in 84 (by decide +kernel) rfl), (lc_in 403 (by decide +kernel) rfl), (lc_in 29 (by decide +kernel) rfl)⟩, ⟨by decide +kernel, by decide +kernel⟩, by decide +kernel⟩
theorem mt_X3_areAlike : lc_mv yX3_areAlike cX3_areAlike 4 (some .boolean) 2 := ⟨⟨(lc_in 408 (by decide +kernel) rfl), (lc_in 83 (by decide +kernel) rfl), (lc_in 407 (by decide +kernel) rfl), (lc_in 30 (by decide +kernel) rfl)⟩, ⟨by decide +kernel, by decide +kernel⟩, by decide +kernel⟩
theorem mt_X3_isSame : lc_mv yX3_isSame cX3_isSame 3 (some .boolean) 2 := ⟨⟨(lc_in 412 (by decide +kernel) rfl), (lc_in 83 (by decide +kernel) rfl), (lc_in 411 (by decide +kernel) rfl), (lc_in 31 (by decide +kernel) rfl)⟩, ⟨by decide +kernel, by decide +kernel⟩, by decide +kernel⟩
theorem mt_X4_rumour : lc_mv yX4_rumour cX4_rumour 4 (some .int) 2 := ⟨⟨(lc_in 416 (by decide +kernel) rfl), (lc_in 81 (by decide +kernel) rfl), (lc_in 414 (by decide +kernel) rfl), (lc_in 415 (by decide +kernel) rfl)⟩, ⟨by decide +kernel, by decide +kernel⟩, by decide +kernel⟩
theorem mt_X3_tellHot : lc_mv yX3_tellHot cX3_tellHot 6 (some .int) 2 := ⟨⟨(lc_in 420 (by decide +kernel) rfl), (lc_in 83 (by decide +kernel) rfl), (lc_in 419 (by decide +kernel) rfl), (lc_in 32 (by decide +kernel) rfl)⟩, ⟨by decide +kernel, by decide +kernel⟩, by decide +kernel⟩
theorem mt_X3_tell : lc_mv yX3_tell cX3_tell 3 (some .int) 2 := ⟨⟨(lc_in 424 (by decide +kernel) rfl), (lc_in 83 (by decide +kernel) rfl), (lc_in 423 (by decide +kernel) rfl), (lc_in 33 (by decide +kernel) rfl)⟩, ⟨by decide +kernel, by decide +kernel⟩, by decide +kernel⟩
theorem mt_X4_has : lc_mv yX4_has cX4_has 5 (some .int) 3 := ⟨⟨(lc_in 428 (by decide +kernel) rfl), (lc_in 81 (by decide +kernel) rfl), (lc_in 426 (by decide +kernel) rfl), (lc_in 427 (by decide +kernel) rfl)⟩, ⟨by decide +kernel, by decide +kernel⟩, by decide +kernel⟩
theorem mt_X4_newest : lc_mv yX4_newest cX4_newest 3 (some .int) 2 := ⟨⟨(lc_in 433 (by decide +kernel) rfl), (lc_in 81 (by decide +kernel) rfl), (lc_in 431 (by decide +kernel) rfl), (lc_in 432 (by decide +kernel) rfl)⟩, ⟨by decide +kernel, by decide +kernel⟩, by decide +kernel⟩
theorem mt_X3_newestKey : lc_mv yX3_newestKey cX3_newestKey 7 (some .int) 2 := ⟨⟨(lc_in 437 (by decide +kernel) rfl), (lc_in 83 (by decide +kernel) rfl), (lc_in 436 (by decide +kernel) rfl), (lc_in 34 (by decide +kernel) rfl)⟩, ⟨by decide +kernel, by decide +kernel⟩, by decide +kernel⟩
theorem mt_X4_alike : lc_mv yX4_alike cX4_alike 3 (some .int) 2 := ⟨⟨(lc_in 441 (by decide +kernel) rfl), (lc_in 81 (by decide +kernel) rfl), (lc_in 439 (by decide +kernel) rfl), (lc_in 440 (by decide +kernel) rfl)⟩, ⟨by decide +kernel, by decide +kernel⟩, by decide +kernel⟩
theorem mt_X4_risen : lc_mv yX4_risen cX4_risen 2 (some .int) 1 := ⟨⟨(lc_in 446 (by decide +kernel) rfl), (lc_in 81 (by decide +kernel) rfl), (lc_in 444 (by decide +kernel) rfl), (lc_in 445 (by decide +kernel) rfl)⟩, ⟨by decide +kernel, by decide +kernel⟩, by decide +kernel⟩
theorem mt_X3_risenSites : lc_mv yX3_risenSites cX3_risenSites 5 (some .int) 1 := ⟨⟨(lc_in 450 (by decide +kernel) rfl), (lc_in 83 (by decide +kernel) rfl), (lc_in 449 (by decide +kernel) rfl), (lc_in 35 (by decide +kernel) rfl)⟩, ⟨by decide +kernel, by decide +kernel⟩, by decide +kernel⟩
theorem mt_X4_partner : lc_mv yX4_partner cX4_partner 5 (some .int) 3 := ⟨⟨(lc_in 454 (by decide +kernel) rfl), (lc_in 81 (by decide +kernel) rfl), (lc_in 452 (by decide +kernel) rfl), (lc_in 453 (by decide +kernel) rfl)⟩, ⟨by decide +kernel, by decide +kernel⟩, by decide +kernel⟩
theorem mt_X3_othersOn : lc_mv yX3_othersOn cX3_othersOn 2 (some .int) 1 := ⟨⟨(lc_in 458 (by decide +kernel) rfl), (lc_in 83 (by decide +kernel) rfl), (lc_in 457 (by decide +kernel) rfl), (lc_in 36 (by decide +kernel) rfl)⟩, ⟨by decide +kernel, by decide +kernel⟩, by decide +kernel⟩
theorem mt_X4_nextSeed : lc_ms yX4_nextSeed cX4_nextSeed 1 (some .int) 1 := ⟨⟨(lc_in 461 (by decide +kernel) rfl), (lc_in 81 (by decide +kernel) rfl), (lc_in 460 (by decide +kernel) rfl)⟩, ⟨by decide +kernel, by decide +kernel⟩, by decide +kernel⟩
theorem mt_X3_partnerBy : lc_mv yX3_partnerBy cX3_partnerBy 9 (some .int) 2 := ⟨⟨(lc_in 468 (by decide +kernel) rfl), (lc_in 83 (by decide +kernel) rfl), (lc_in 467 (by decide +kernel) rfl), (lc_in 37 (by decide +kernel) rfl)⟩, ⟨by decide +kernel, by decide +kernel⟩, by decide +kernel⟩
theorem mt_J6_bitCount_0f7a4 : lc_ms yJ6_bitCount_0f7a4 cJ6_bitCount_0f7a4 1 (some .int) 1 := ⟨⟨(lc_in 472 (by decide +kernel) rfl), (lc_in 88 (by decide +kernel) rfl), (lc_in 471 (by decide +kernel) rfl)⟩, ⟨by decide +kernel, by decide +kernel⟩, by decide +kernel⟩
theorem mt_X3_weightOf : lc_ms yX3_weightOf cX3_weightOf 3 (some .int) 1 := ⟨⟨(lc_in 478 (by decide +kernel) rfl), (lc_in 83 (by decide +kernel) rfl), (lc_in 477 (by decide +kernel) rfl)⟩, ⟨by decide +kernel, by decide +kernel⟩, by decide +kernel⟩
theorem mt_X4_settle : lc_mv yX4_settle cX4_settle 4 (some .int) 3 := ⟨⟨(lc_in 485 (by decide +kernel) rfl), (lc_in 81 (by decide +kernel) rfl), (lc_in 483 (by decide +kernel) rfl), (lc_in 484 (by decide +kernel) rfl)⟩, ⟨by decide +kernel, by decide +kernel⟩, by decide +kernel⟩
theorem mt_X2_run : lc_mv yX2_run cX2_run 6 none 3 := ⟨⟨(lc_in 489 (by decide +kernel) rfl), (lc_in 85 (by decide +kernel) rfl), (lc_in 488 (by decide +kernel) rfl), (lc_in 38 (by decide +kernel) rfl)⟩, ⟨by decide +kernel, by decide +kernel⟩, by decide +kernel⟩
theorem mt_X3_startTrial : lc_mv yX3_startTrial cX3_startTrial 3 none 1 := ⟨⟨(lc_in 493 (by decide +kernel) rfl), (lc_in 83 (by decide +kernel) rfl), (lc_in 492 (by decide +kernel) rfl), (lc_in 39 (by decide +kernel) rfl)⟩, ⟨by decide +kernel, by decide +kernel⟩, by decide +kernel⟩
theorem mt_X3_allOnAlike : lc_mv yX3_allOnAlike cX3_allOnAlike 3 (some .boolean) 0 := ⟨⟨(lc_in 500 (by decide +kernel) rfl), (lc_in 83 (by decide +kernel) rfl), (lc_in 499 (by decide +kernel) rfl), (lc_in 40 (by decide +kernel) rfl)⟩, ⟨by decide +kernel, by decide +kernel⟩, by decide +kernel⟩
theorem mt_X2_playRound : lc_mv yX2_playRound cX2_playRound 4 none 1 := ⟨⟨(lc_in 505 (by decide +kernel) rfl), (lc_in 85 (by decide +kernel) rfl), (lc_in 504 (by decide +kernel) rfl), (lc_in 41 (by decide +kernel) rfl)⟩, ⟨by decide +kernel, by decide +kernel⟩, by decide +kernel⟩
theorem mt_X2_outcome : lc_mv yX2_outcome cX2_outcome 2 (some .int) 1 := ⟨⟨(lc_in 516 (by decide +kernel) rfl), (lc_in 85 (by decide +kernel) rfl), (lc_in 515 (by decide +kernel) rfl), (lc_in 42 (by decide +kernel) rfl)⟩, ⟨by decide +kernel, by decide +kernel⟩, by decide +kernel⟩
theorem mt_X4_count : lc_mv yX4_count cX4_count 2 (some .int) 1 := ⟨⟨(lc_in 520 (by decide +kernel) rfl), (lc_in 81 (by decide +kernel) rfl), (lc_in 518 (by decide +kernel) rfl), (lc_in 519 (by decide +kernel) rfl)⟩, ⟨by decide +kernel, by decide +kernel⟩, by decide +kernel⟩
theorem mt_X4_digest : lc_mv yX4_digest cX4_digest 5 (some .long) 0 := ⟨⟨(lc_in 524 (by decide +kernel) rfl), (lc_in 81 (by decide +kernel) rfl), (lc_in 522 (by decide +kernel) rfl), (lc_in 523 (by decide +kernel) rfl)⟩, ⟨by decide +kernel, by decide +kernel⟩, by decide +kernel⟩
theorem mt_X4_mixSite : lc_mv yX4_mixSite cX4_mixSite 8 (some .long) 2 := ⟨⟨(lc_in 529 (by decide +kernel) rfl), (lc_in 81 (by decide +kernel) rfl), (lc_in 528 (by decide +kernel) rfl), (lc_in 43 (by decide +kernel) rfl)⟩, ⟨by decide +kernel, by decide +kernel⟩, by decide +kernel⟩
theorem mt_X4_mix : lc_ms yX4_mix cX4_mix 3 (some .long) 2 := ⟨⟨(lc_in 533 (by decide +kernel) rfl), (lc_in 81 (by decide +kernel) rfl), (lc_in 532 (by decide +kernel) rfl)⟩, ⟨by decide +kernel, by decide +kernel⟩, by decide +kernel⟩
theorem mt_X5_letter : lc_mv yX5_letter cX5_letter 2 (some .int) 1 := ⟨⟨(lc_in 618 (by decide +kernel) rfl), (lc_in 86 (by decide +kernel) rfl), (lc_in 616 (by decide +kernel) rfl), (lc_in 617 (by decide +kernel) rfl)⟩, ⟨by decide +kernel, by decide +kernel⟩, by decide +kernel⟩
theorem mt_X5_within : lc_ms yX5_within cX5_within 3 (some .boolean) 3 := ⟨⟨(lc_in 621 (by decide +kernel) rfl), (lc_in 86 (by decide +kernel) rfl), (lc_in 620 (by decide +kernel) rfl)⟩, ⟨by decide +kernel, by decide +kernel⟩, by decide +kernel⟩
theorem mt_X5_blank : lc_mv yX5_blank cX5_blank 2 (some .int) 0 := ⟨⟨(lc_in 625 (by decide +kernel) rfl), (lc_in 86 (by decide +kernel) rfl), (lc_in 623 (by decide +kernel) rfl), (lc_in 624 (by decide +kernel) rfl)⟩, ⟨by decide +kernel, by decide +kernel⟩, by decide +kernel⟩
theorem mt_X5_fault : lc_mv yX5_fault cX5_fault 3 (some .int) 0 := ⟨⟨(lc_in 629 (by decide +kernel) rfl), (lc_in 86 (by decide +kernel) rfl), (lc_in 627 (by decide +kernel) rfl), (lc_in 628 (by decide +kernel) rfl)⟩, ⟨by decide +kernel, by decide +kernel⟩, by decide +kernel⟩
theorem mt_X5_line : lc_mv yX5_line cX5_line 2 (some .int) 0 := ⟨⟨(lc_in 633 (by decide +kernel) rfl), (lc_in 86 (by decide +kernel) rfl), (lc_in 631 (by decide +kernel) rfl), (lc_in 632 (by decide +kernel) rfl)⟩, ⟨by decide +kernel, by decide +kernel⟩, by decide +kernel⟩
theorem mt_X5_clear : lc_mv yX5_clear cX5_clear 2 none 1 := ⟨⟨(lc_in 638 (by decide +kernel) rfl), (lc_in 86 (by decide +kernel) rfl), (lc_in 637 (by decide +kernel) rfl), (lc_in 44 (by decide +kernel) rfl)⟩, ⟨by decide +kernel, by decide +kernel⟩, by decide +kernel⟩
theorem mt_X5_set : lc_mv yX5_set cX5_set 4 (some .int) 2 := ⟨⟨(lc_in 642 (by decide +kernel) rfl), (lc_in 86 (by decide +kernel) rfl), (lc_in 640 (by decide +kernel) rfl), (lc_in 641 (by decide +kernel) rfl)⟩, ⟨by decide +kernel, by decide +kernel⟩, by decide +kernel⟩
theorem mt_X5_least : lc_ms yX5_least cX5_least 1 (some .int) 1 := ⟨⟨(lc_in 645 (by decide +kernel) rfl), (lc_in 86 (by decide +kernel) rfl), (lc_in 644 (by decide +kernel) rfl)⟩, ⟨by decide +kernel, by decide +kernel⟩, by decide +kernel⟩
theorem mt_X5_most : lc_ms yX5_most cX5_most 1 (some .int) 1 := ⟨⟨(lc_in 648 (by decide +kernel) rfl), (lc_in 86 (by decide +kernel) rfl), (lc_in 647 (by decide +kernel) rfl)⟩, ⟨by decide +kernel, by decide +kernel⟩, by decide +kernel⟩
theorem mt_X5_purge : lc_mv yX5_purge cX5_purge 4 (some .int) 0 := ⟨⟨(lc_in 652 (by decide +kernel) rfl), (lc_in 86 (by decide +kernel) rfl), (lc_in 651 (by decide +kernel) rfl), (lc_in 45 (by decide +kernel) rfl)⟩, ⟨by decide +kernel, by decide +kernel⟩, by decide +kernel⟩
theorem mt_X5_isIn : lc_ms yX5_isIn cX5_isIn 2 (some .boolean) 2 := ⟨⟨(lc_in 655 (by decide +kernel) rfl), (lc_in 86 (by decide +kernel) rfl), (lc_in 654 (by decide +kernel) rfl)⟩, ⟨by decide +kernel, by decide +kernel⟩, by decide +kernel⟩
theorem mt_X5_isDormant : lc_mv yX5_isDormant cX5_isDormant 2 (some .boolean) 1 := ⟨⟨(lc_in 659 (by decide +kernel) rfl), (lc_in 86 (by decide +kernel) rfl), (lc_in 658 (by decide +kernel) rfl), (lc_in 46 (by decide +kernel) rfl)⟩, ⟨by decide +kernel, by decide +kernel⟩, by decide +kernel⟩
theorem mt_X5_put : lc_mv yX5_put cX5_put 5 (some .int) 3 := ⟨⟨(lc_in 663 (by decide +kernel) rfl), (lc_in 86 (by decide +kernel) rfl), (lc_in 661 (by decide +kernel) rfl), (lc_in 662 (by decide +kernel) rfl)⟩, ⟨by decide +kernel, by decide +kernel⟩, by decide +kernel⟩
theorem mt_X5_isSite : lc_mv yX5_isSite cX5_isSite 2 (some .boolean) 1 := ⟨⟨(lc_in 667 (by decide +kernel) rfl), (lc_in 86 (by decide +kernel) rfl), (lc_in 666 (by decide +kernel) rfl), (lc_in 47 (by decide +kernel) rfl)⟩, ⟨by decide +kernel, by decide +kernel⟩, by decide +kernel⟩
theorem mt_X5_isKey : lc_ms yX5_isKey cX5_isKey 1 (some .boolean) 1 := ⟨⟨(lc_in 670 (by decide +kernel) rfl), (lc_in 86 (by decide +kernel) rfl), (lc_in 669 (by decide +kernel) rfl)⟩, ⟨by decide +kernel, by decide +kernel⟩, by decide +kernel⟩
theorem mt_X5_remove : lc_mv yX5_remove cX5_remove 5 (some .int) 3 := ⟨⟨(lc_in 674 (by decide +kernel) rfl), (lc_in 86 (by decide +kernel) rfl), (lc_in 672 (by decide +kernel) rfl), (lc_in 673 (by decide +kernel) rfl)⟩, ⟨by decide +kernel, by decide +kernel⟩, by decide +kernel⟩
theorem mt_X5_near : lc_mv yX5_near cX5_near 6 (some .int) 2 := ⟨⟨(lc_in 678 (by decide +kernel) rfl), (lc_in 86 (by decide +kernel) rfl), (lc_in 677 (by decide +kernel) rfl), (lc_in 48 (by decide +kernel) rfl)⟩, ⟨by decide +kernel, by decide +kernel⟩, by decide +kernel⟩
theorem mt_X5_nearest : lc_mv yX5_nearest cX5_nearest 7 (some .int) 2 := ⟨⟨(lc_in 682 (by decide +kernel) rfl), (lc_in 86 (by decide +kernel) rfl), (lc_in 681 (by decide +kernel) rfl), (lc_in 49 (by decide +kernel) rfl)⟩, ⟨by decide +kernel, by decide +kernel⟩, by decide +kernel⟩
theorem mt_X5_size : lc_ms yX5_size cX5_size 1 (some .int) 1 := ⟨⟨(lc_in 685 (by decide +kernel) rfl), (lc_in 86 (by decide +kernel) rfl), (lc_in 684 (by decide +kernel) rfl)⟩, ⟨by decide +kernel, by decide +kernel⟩, by decide +kernel⟩
theorem mt_X5_pass : lc_mv yX5_pass cX5_pass 2 (some .int) 1 := ⟨⟨(lc_in 689 (by decide +kernel) rfl), (lc_in 86 (by decide +kernel) rfl), (lc_in 687 (by decide +kernel) rfl), (lc_in 688 (by decide +kernel) rfl)⟩, ⟨by decide +kernel, by decide +kernel⟩, by decide +kernel⟩
theorem mt_X5_off : lc_mv yX5_off cX5_off 4 (some .int) 2 := ⟨⟨(lc_in 693 (by decide +kernel) rfl), (lc_in 86 (by decide +kernel) rfl), (lc_in 691 (by decide +kernel) rfl), (lc_in 692 (by decide +kernel) rfl)⟩, ⟨by decide +kernel, by decide +kernel⟩, by decide +kernel⟩
theorem mt_X5_exchange : lc_mv yX5_exchange cX5_exchange 3 (some .int) 2 := ⟨⟨(lc_in 697 (by decide +kernel) rfl), (lc_in 86 (by decide +kernel) rfl), (lc_in 695 (by decide +kernel) rfl), (lc_in 696 (by decide +kernel) rfl)⟩, ⟨by decide +kernel, by decide +kernel⟩, by decide +kernel⟩
theorem mt_X5_areTwo : lc_mv yX5_areTwo cX5_areTwo 3 (some .boolean) 2 := ⟨⟨(lc_in 701 (by decide +kernel) rfl), (lc_in 86 (by decide +kernel) rfl), (lc_in 700 (by decide +kernel) rfl), (lc_in 50 (by decide +kernel) rfl)⟩, ⟨by decide +kernel, by decide +kernel⟩, by decide +kernel⟩
theorem mt_X5_exchangeNow : lc_mv yX5_exchangeNow cX5_exchangeNow 5 (some .int) 2 := ⟨⟨(lc_in 705 (by decide +kernel) rfl), (lc_in 86 (by decide +kernel) rfl), (lc_in 704 (by decide +kernel) rfl), (lc_in 51 (by decide +kernel) rfl)⟩, ⟨by decide +kernel, by decide +kernel⟩, by decide +kernel⟩
theorem mt_X5_isRecent : lc_mv yX5_isRecent cX5_isRecent 2 (some .boolean) 1 := ⟨⟨(lc_in 709 (by decide +kernel) rfl), (lc_in 86 (by decide +kernel) rfl), (lc_in 708 (by decide +kernel) rfl), (lc_in 52 (by decide +kernel) rfl)⟩, ⟨by decide +kernel, by decide +kernel⟩, by decide +kernel⟩
theorem mt_X5_isAwake : lc_mv yX5_isAwake cX5_isAwake 2 (some .boolean) 1 := ⟨⟨(lc_in 713 (by decide +kernel) rfl), (lc_in 86 (by decide +kernel) rfl), (lc_in 712 (by decide +kernel) rfl), (lc_in 53 (by decide +kernel) rfl)⟩, ⟨by decide +kernel, by decide +kernel⟩, by decide +kernel⟩
theorem mt_X5_meetAll : lc_mv yX5_meetAll cX5_meetAll 6 (some .int) 3 := ⟨⟨(lc_in 717 (by decide +kernel) rfl), (lc_in 86 (by decide +kernel) rfl), (lc_in 716 (by decide +kernel) rfl), (lc_in 54 (by decide +kernel) rfl)⟩, ⟨by decide +kernel, by decide +kernel⟩, by decide +kernel⟩
theorem mt_X5_meet : lc_mv yX5_meet cX5_meet 6 (some .int) 3 := ⟨⟨(lc_in 721 (by decide +kernel) rfl), (lc_in 86 (by decide +kernel) rfl), (lc_in 720 (by decide +kernel) rfl), (lc_in 55 (by decide +kernel) rfl)⟩, ⟨by decide +kernel, by decide +kernel⟩, by decide +kernel⟩
theorem mt_X5_wakes : lc_mv yX5_wakes cX5_wakes 3 (some .boolean) 2 := ⟨⟨(lc_in 725 (by decide +kernel) rfl), (lc_in 86 (by decide +kernel) rfl), (lc_in 724 (by decide +kernel) rfl), (lc_in 56 (by decide +kernel) rfl)⟩, ⟨by decide +kernel, by decide +kernel⟩, by decide +kernel⟩
theorem mt_X5_wake : lc_mv yX5_wake cX5_wake 2 none 1 := ⟨⟨(lc_in 729 (by decide +kernel) rfl), (lc_in 86 (by decide +kernel) rfl), (lc_in 728 (by decide +kernel) rfl), (lc_in 57 (by decide +kernel) rfl)⟩, ⟨by decide +kernel, by decide +kernel⟩, by decide +kernel⟩
theorem mt_X5_goes : lc_mv yX5_goes cX5_goes 3 (some .int) 2 := ⟨⟨(lc_in 733 (by decide +kernel) rfl), (lc_in 86 (by decide +kernel) rfl), (lc_in 732 (by decide +kernel) rfl), (lc_in 58 (by decide +kernel) rfl)⟩, ⟨by decide +kernel, by decide +kernel⟩, by decide +kernel⟩
theorem mt_X5_isNewer : lc_mv yX5_isNewer cX5_isNewer 3 (some .boolean) 2 := ⟨⟨(lc_in 737 (by decide +kernel) rfl), (lc_in 86 (by decide +kernel) rfl), (lc_in 736 (by decide +kernel) rfl), (lc_in 59 (by decide +kernel) rfl)⟩, ⟨by decide +kernel, by decide +kernel⟩, by decide +kernel⟩
theorem mt_X5_copy : lc_mv yX5_copy cX5_copy 4 none 3 := ⟨⟨(lc_in 741 (by decide +kernel) rfl), (lc_in 86 (by decide +kernel) rfl), (lc_in 740 (by decide +kernel) rfl), (lc_in 60 (by decide +kernel) rfl)⟩, ⟨by decide +kernel, by decide +kernel⟩, by decide +kernel⟩
theorem mt_X5_areAlike : lc_mv yX5_areAlike cX5_areAlike 5 (some .boolean) 2 := ⟨⟨(lc_in 745 (by decide +kernel) rfl), (lc_in 86 (by decide +kernel) rfl), (lc_in 744 (by decide +kernel) rfl), (lc_in 61 (by decide +kernel) rfl)⟩, ⟨by decide +kernel, by decide +kernel⟩, by decide +kernel⟩
theorem mt_X5_areSame : lc_mv yX5_areSame cX5_areSame 4 (some .boolean) 2 := ⟨⟨(lc_in 749 (by decide +kernel) rfl), (lc_in 86 (by decide +kernel) rfl), (lc_in 748 (by decide +kernel) rfl), (lc_in 62 (by decide +kernel) rfl)⟩, ⟨by decide +kernel, by decide +kernel⟩, by decide +kernel⟩
theorem mt_X5_rumour : lc_mv yX5_rumour cX5_rumour 3 (some .int) 2 := ⟨⟨(lc_in 753 (by decide +kernel) rfl), (lc_in 86 (by decide +kernel) rfl), (lc_in 751 (by decide +kernel) rfl), (lc_in 752 (by decide +kernel) rfl)⟩, ⟨by decide +kernel, by decide +kernel⟩, by decide +kernel⟩
theorem mt_X5_rumourNow : lc_mv yX5_rumourNow cX5_rumourNow 6 (some .int) 2 := ⟨⟨(lc_in 757 (by decide +kernel) rfl), (lc_in 86 (by decide +kernel) rfl), (lc_in 756 (by decide +kernel) rfl), (lc_in 63 (by decide +kernel) rfl)⟩, ⟨by decide +kernel, by decide +kernel⟩, by decide +kernel⟩
theorem mt_X5_tell : lc_mv yX5_tell cX5_tell 3 (some .int) 2 := ⟨⟨(lc_in 761 (by decide +kernel) rfl), (lc_in 86 (by decide +kernel) rfl), (lc_in 760 (by decide +kernel) rfl), (lc_in 64 (by decide +kernel) rfl)⟩, ⟨by decide +kernel, by decide +kernel⟩, by decide +kernel⟩
theorem mt_X5_has : lc_mv yX5_has cX5_has 4 (some .int) 3 := ⟨⟨(lc_in 765 (by decide +kernel) rfl), (lc_in 86 (by decide +kernel) rfl), (lc_in 763 (by decide +kernel) rfl), (lc_in 764 (by decide +kernel) rfl)⟩, ⟨by decide +kernel, by decide +kernel⟩, by decide +kernel⟩
theorem mt_X5_itemNow : lc_mv yX5_itemNow cX5_itemNow 3 (some .int) 2 := ⟨⟨(lc_in 769 (by decide +kernel) rfl), (lc_in 86 (by decide +kernel) rfl), (lc_in 768 (by decide +kernel) rfl), (lc_in 65 (by decide +kernel) rfl)⟩, ⟨by decide +kernel, by decide +kernel⟩, by decide +kernel⟩
theorem mt_X5_newest : lc_mv yX5_newest cX5_newest 3 (some .int) 2 := ⟨⟨(lc_in 773 (by decide +kernel) rfl), (lc_in 86 (by decide +kernel) rfl), (lc_in 771 (by decide +kernel) rfl), (lc_in 772 (by decide +kernel) rfl)⟩, ⟨by decide +kernel, by decide +kernel⟩, by decide +kernel⟩
theorem mt_X5_newestNow : lc_mv yX5_newestNow cX5_newestNow 7 (some .int) 2 := ⟨⟨(lc_in 777 (by decide +kernel) rfl), (lc_in 86 (by decide +kernel) rfl), (lc_in 776 (by decide +kernel) rfl), (lc_in 66 (by decide +kernel) rfl)⟩, ⟨by decide +kernel, by decide +kernel⟩, by decide +kernel⟩
theorem mt_X5_alike : lc_mv yX5_alike cX5_alike 3 (some .int) 2 := ⟨⟨(lc_in 781 (by decide +kernel) rfl), (lc_in 86 (by decide +kernel) rfl), (lc_in 779 (by decide +kernel) rfl), (lc_in 780 (by decide +kernel) rfl)⟩, ⟨by decide +kernel, by decide +kernel⟩, by decide +kernel⟩
theorem mt_X5_risen : lc_mv yX5_risen cX5_risen 2 (some .int) 1 := ⟨⟨(lc_in 785 (by decide +kernel) rfl), (lc_in 86 (by decide +kernel) rfl), (lc_in 783 (by decide +kernel) rfl), (lc_in 784 (by decide +kernel) rfl)⟩, ⟨by decide +kernel, by decide +kernel⟩, by decide +kernel⟩
theorem mt_X5_risenNow : lc_mv yX5_risenNow cX5_risenNow 5 (some .int) 1 := ⟨⟨(lc_in 789 (by decide +kernel) rfl), (lc_in 86 (by decide +kernel) rfl), (lc_in 788 (by decide +kernel) rfl), (lc_in 67 (by decide +kernel) rfl)⟩, ⟨by decide +kernel, by decide +kernel⟩, by decide +kernel⟩
theorem mt_X5_partner : lc_mv yX5_partner cX5_partner 5 (some .int) 3 := ⟨⟨(lc_in 793 (by decide +kernel) rfl), (lc_in 86 (by decide +kernel) rfl), (lc_in 791 (by decide +kernel) rfl), (lc_in 792 (by decide +kernel) rfl)⟩, ⟨by decide +kernel, by decide +kernel⟩, by decide +kernel⟩
theorem mt_X5_partnerNow : lc_mv yX5_partnerNow cX5_partnerNow 8 (some .int) 1 := ⟨⟨(lc_in 797 (by decide +kernel) rfl), (lc_in 86 (by decide +kernel) rfl), (lc_in 796 (by decide +kernel) rfl), (lc_in 68 (by decide +kernel) rfl)⟩, ⟨by decide +kernel, by decide +kernel⟩, by decide +kernel⟩
theorem mt_X5_weight : lc_ms yX5_weight cX5_weight 1 (some .int) 1 := ⟨⟨(lc_in 800 (by decide +kernel) rfl), (lc_in 86 (by decide +kernel) rfl), (lc_in 799 (by decide +kernel) rfl)⟩, ⟨by decide +kernel, by decide +kernel⟩, by decide +kernel⟩
theorem mt_X5_draw : lc_mv yX5_draw cX5_draw 2 (some .int) 1 := ⟨⟨(lc_in 804 (by decide +kernel) rfl), (lc_in 86 (by decide +kernel) rfl), (lc_in 803 (by decide +kernel) rfl), (lc_in 69 (by decide +kernel) rfl)⟩, ⟨by decide +kernel, by decide +kernel⟩, by decide +kernel⟩
theorem mt_X5_settle : lc_mv yX5_settle cX5_settle 4 (some .int) 3 := ⟨⟨(lc_in 812 (by decide +kernel) rfl), (lc_in 86 (by decide +kernel) rfl), (lc_in 810 (by decide +kernel) rfl), (lc_in 811 (by decide +kernel) rfl)⟩, ⟨by decide +kernel, by decide +kernel⟩, by decide +kernel⟩
theorem mt_X5_laySettling : lc_mv yX5_laySettling cX5_laySettling 4 none 2 := ⟨⟨(lc_in 816 (by decide +kernel) rfl), (lc_in 86 (by decide +kernel) rfl), (lc_in 815 (by decide +kernel) rfl), (lc_in 70 (by decide +kernel) rfl)⟩, ⟨by decide +kernel, by decide +kernel⟩, by decide +kernel⟩
theorem mt_X5_save : lc_mv yX5_save cX5_save 3 none 0 := ⟨⟨(lc_in 820 (by decide +kernel) rfl), (lc_in 86 (by decide +kernel) rfl), (lc_in 819 (by decide +kernel) rfl), (lc_in 71 (by decide +kernel) rfl)⟩, ⟨by decide +kernel, by decide +kernel⟩, by decide +kernel⟩
theorem mt_X5_areAllAlike : lc_mv yX5_areAllAlike cX5_areAllAlike 4 (some .boolean) 0 := ⟨⟨(lc_in 824 (by decide +kernel) rfl), (lc_in 86 (by decide +kernel) rfl), (lc_in 823 (by decide +kernel) rfl), (lc_in 72 (by decide +kernel) rfl)⟩, ⟨by decide +kernel, by decide +kernel⟩, by decide +kernel⟩
theorem mt_X5_goRound : lc_mv yX5_goRound cX5_goRound 4 none 1 := ⟨⟨(lc_in 828 (by decide +kernel) rfl), (lc_in 86 (by decide +kernel) rfl), (lc_in 827 (by decide +kernel) rfl), (lc_in 73 (by decide +kernel) rfl)⟩, ⟨by decide +kernel, by decide +kernel⟩, by decide +kernel⟩
theorem mt_X5_back : lc_mv yX5_back cX5_back 2 none 0 := ⟨⟨(lc_in 832 (by decide +kernel) rfl), (lc_in 86 (by decide +kernel) rfl), (lc_in 831 (by decide +kernel) rfl), (lc_in 74 (by decide +kernel) rfl)⟩, ⟨by decide +kernel, by decide +kernel⟩, by decide +kernel⟩
theorem mt_X5_settledNow : lc_mv yX5_settledNow cX5_settledNow 2 (some .int) 1 := ⟨⟨(lc_in 836 (by decide +kernel) rfl), (lc_in 86 (by decide +kernel) rfl), (lc_in 835 (by decide +kernel) rfl), (lc_in 75 (by decide +kernel) rfl)⟩, ⟨by decide +kernel, by decide +kernel⟩, by decide +kernel⟩
theorem mt_X5_count : lc_mv yX5_count cX5_count 2 (some .int) 1 := ⟨⟨(lc_in 840 (by decide +kernel) rfl), (lc_in 86 (by decide +kernel) rfl), (lc_in 838 (by decide +kernel) rfl), (lc_in 839 (by decide +kernel) rfl)⟩, ⟨by decide +kernel, by decide +kernel⟩, by decide +kernel⟩
theorem mt_X5_howMany : lc_mv yX5_howMany cX5_howMany 2 (some .int) 1 := ⟨⟨(lc_in 844 (by decide +kernel) rfl), (lc_in 86 (by decide +kernel) rfl), (lc_in 843 (by decide +kernel) rfl), (lc_in 76 (by decide +kernel) rfl)⟩, ⟨by decide +kernel, by decide +kernel⟩, by decide +kernel⟩
theorem mt_X5_digest : lc_mv yX5_digest cX5_digest 2 (some .long) 0 := ⟨⟨(lc_in 848 (by decide +kernel) rfl), (lc_in 86 (by decide +kernel) rfl), (lc_in 846 (by decide +kernel) rfl), (lc_in 847 (by decide +kernel) rfl)⟩, ⟨by decide +kernel, by decide +kernel⟩, by decide +kernel⟩
theorem mt_X5_mixSite : lc_mv yX5_mixSite cX5_mixSite 4 none 1 := ⟨⟨(lc_in 853 (by decide +kernel) rfl), (lc_in 86 (by decide +kernel) rfl), (lc_in 852 (by decide +kernel) rfl), (lc_in 77 (by decide +kernel) rfl)⟩, ⟨by decide +kernel, by decide +kernel⟩, by decide +kernel⟩
theorem mt_X5_mix : lc_mv yX5_mix cX5_mix 3 none 1 := ⟨⟨(lc_in 857 (by decide +kernel) rfl), (lc_in 86 (by decide +kernel) rfl), (lc_in 856 (by decide +kernel) rfl), (lc_in 78 (by decide +kernel) rfl)⟩, ⟨by decide +kernel, by decide +kernel⟩, by decide +kernel⟩
theorem mt_X5_mixSettling : lc_mv yX5_mixSettling cX5_mixSettling 3 none 1 := ⟨⟨(lc_in 862 (by decide +kernel) rfl), (lc_in 86 (by decide +kernel) rfl), (lc_in 861 (by decide +kernel) rfl), (lc_in 79 (by decide +kernel) rfl)⟩, ⟨by decide +kernel, by decide +kernel⟩, by decide +kernel⟩
theorem lc_cX0 : lc_cl 0 RX0 TX0 6 := ⟨rfl, by decide +kernel⟩
theorem lc_cX1 : lc_cl 1 RX1 TX1 2 := ⟨rfl, by decide +kernel⟩
theorem lc_cX2 : lc_cl 2 RX2 TX2 3 := ⟨rfl, by decide +kernel⟩
theorem lc_cX3 : lc_cl 3 RX3 TX3 10 := ⟨rfl, by decide +kernel⟩
theorem lc_cX4 : lc_cl 4 RX4 TX4 4 := ⟨rfl, by decide +kernel⟩
theorem lc_cX5 : lc_cl 5 RX5 TX5 23 := ⟨rfl, by decide +kernel⟩
end
section
def lc_sc (σ : lc_S) (j : Nat) (B : lc_C) : lc_S := (fun a => if a = j then B else σ.1 a, σ.2)
theorem lc_w_c (σ : lc_S) (j : Nat) (x : lc_X) : (lc_w σ j x).1 j = x.1 := by simp [lc_w]
theorem lc_w_cn (σ : lc_S) {j k : Nat} (x : lc_X) (h : k ≠ j) : (lc_w σ j x).1 k = σ.1 k := by simp [lc_w, h]
theorem lc_w_on (σ : lc_S) {j r : Nat} (x : lc_X) (h : r ≠ j) : (lc_w σ j x).2.1 r = σ.2.1 r := by simp [lc_w, h]
theorem lc_w_o0 (σ : lc_S) (j : Nat) (x : lc_X) : (lc_w σ j x).2.1 j 0 = σ.2.1 j 0 + x.2.1 := by simp [lc_w, lc_ad]
theorem lc_w_o1 (σ : lc_S) (j : Nat) (x : lc_X) : (lc_w σ j x).2.1 j 1 = σ.2.1 j 1 + x.2.2.1 := by simp [lc_w, lc_ad]
theorem lc_w_o2 (σ : lc_S) (j : Nat) (x : lc_X) : (lc_w σ j x).2.1 j 2 = σ.2.1 j 2 + x.2.2.2 := by simp [lc_w, lc_ad]
theorem lc_sc_w (σ : lc_S) (j : Nat) (x : lc_X) (B : lc_C) : lc_sc (lc_w σ j x) j B = lc_w σ j (B, x.2) := by
  unfold lc_sc lc_w
  refine Prod.ext ?_ rfl
  funext a
  by_cases h : a = j <;> simp [h]
theorem lc_w_w (σ : lc_S) (j : Nat) : lc_w σ j (σ.1 j, 0, 0, 0) = σ := by
  unfold lc_w lc_ad
  refine Prod.ext ?_ (Prod.ext ?_ rfl)
  · funext a
    by_cases h : a = j <;> simp [h]
  · funext r
    by_cases h : r = j
    · subst h
      simp only [if_true]
      funext k
      by_cases h0 : k = 0
      · simp [h0]
      · by_cases h1 : k = 1
        · simp [h1]
        · by_cases h2 : k = 2 <;> simp [h0, h1, h2]
    · simp [h]
theorem lc_iE_eq {σ σ' : lc_S} {a b : Nat} (h : ∀ f, f < 6 → σ'.1 a f b = σ.1 a f b) : lc_iE σ' a b = lc_iE σ a b := by
  unfold lc_iE
  rw [h 0 (by decide), h 1 (by decide), h 2 (by decide), h 3 (by decide), h 4 (by decide), h 5 (by decide)]
theorem lc_h2 {G : lc_G} {σ σ' : lc_S} (q0 : Nat) (hfix : ∀ k, k < 26 → k ≠ q0 → lc_ent G σ' k = lc_ent G σ k) (hit : ∀ a b, b < 24 → lc_it a b ≠ q0 → ∀ f, f < 6 → σ'.1 a f b = σ.1 a f b) : ∀ i, i < 74 → i ≠ q0 → lc_ent G σ' i = lc_ent G σ i := by
  intro i hi hne
  by_cases h : i < 26
  · exact hfix i h hne
  · have e : i = lc_it ((i - 26) / 24) ((i - 26) % 24) := by unfold lc_it; omega
    have hb : (i - 26) % 24 < 24 := Nat.mod_lt _ (by decide)
    rw [e] at hne ⊢
    rw [lc_ent_it G σ' hb, lc_ent_it G σ hb]
    exact lc_iE_eq (hit _ _ hb hne)
theorem lc_f6 {P : Nat → Prop} (h0 : P 0) (h1 : P 1) (h2 : P 2) (h3 : P 3) (h4 : P 4) (h5 : P 5) : ∀ f, f < 6 → P f := by
  intro f hf
  match f, hf with
  | 0, _ => exact h0
  | 1, _ => exact h1
  | 2, _ => exact h2
  | 3, _ => exact h3
  | 4, _ => exact h4
  | 5, _ => exact h5

section LCR
variable {G : lc_G} {Γ : lc_Γ} {cc : ByteArray} {nL : Nat} {own : String} {pc : Nat} {lv : List (Nat × Value)} {st : List Value} {σ : lc_S} {x : lc_X} {idx : Nat}

theorem lc_gI (j i f : Nat) (hj : j < 2) (hi : i < 24) (hf : f < 6) (hl : lc_fl own idx (TX0 f)) (hd : decode cc pc = .ok (.getfield idx, 3)) (kk : lc_V G Γ cc nL own (pc + 3) lv (.int (σ.1 j f i) :: st) (σ)) : lc_V G Γ cc nL own (pc) lv (.ref (G.1 (lc_it j i)) :: st) (σ) := by
  have key : ∀ f, f < 6 → ([.int (σ.1 j 0 i), .int (σ.1 j 1 i), .int (σ.1 j 2 i), .int (σ.1 j 3 i), .int (σ.1 j 4 i), .int (σ.1 j 5 i)] : List Value)[f]? = some (.int (σ.1 j f i)) := lc_f6 rfl rfl rfl rfl rfl rfl
  exact lc_get (lc_it j i) 0 f (by unfold lc_it; omega) (lc_ent_it G σ hi) lc_cX0 hf (key f hf) hl hd kk
theorem lc_gIw (j i f : Nat) (hj : j < 2) (hi : i < 24) (hf : f < 6) (hl : lc_fl own idx (TX0 f)) (hd : decode cc pc = .ok (.getfield idx, 3)) (kk : lc_V G Γ cc nL own (pc + 3) lv (.int (x.1 f i) :: st) (lc_w σ j x)) : lc_V G Γ cc nL own (pc) lv (.ref (G.1 (lc_it j i)) :: st) (lc_w σ j x) := lc_gI j i f hj hi hf hl hd (by rw [lc_w_c]; exact kk)
theorem lc_pI (j i f : Nat) {v : Int32} (hj : j < 2) (hi : i < 24) (hf : f < 6) (hl : lc_fl own idx (TX0 f)) (hd : decode cc pc = .ok (.putfield idx, 3)) (kk : lc_V G Γ cc nL own (pc + 3) lv (st) (lc_sc σ j (lc_cu (σ.1 j) f i v))) : lc_V G Γ cc nL own (pc) lv (.int v :: .ref (G.1 (lc_it j i)) :: st) (σ) := by
  have hit : ∀ a b, b < 24 → lc_it a b ≠ lc_it j i → ∀ g, g < 6 → (lc_sc σ j (lc_cu (σ.1 j) f i v)).1 a g b = σ.1 a g b := by
    intro a b hb hne g hg
    unfold lc_sc lc_cu
    by_cases ha : a = j
    · subst ha
      have hbi : ¬ b = i := fun e => hne (by rw [e])
      simp [hbi]
    · simp [ha]
  have hq : lc_it j i < 74 := by unfold lc_it; omega
  have h0 : ∀ g, g < 6 → (lc_sc σ j (lc_cu (σ.1 j) f i v)).1 j g i = if g = f then v else σ.1 j g i := by
    intro g _
    by_cases e : g = f <;> simp [lc_sc, lc_cu, e]
  have hfix : ∀ k, k < 26 → k ≠ lc_it j i → lc_ent G (lc_sc σ j (lc_cu (σ.1 j) f i v)) k = lc_ent G σ k := by
    intro k hk _
    have c6 : ∀ B : lc_C, lc_cu B f i v 6 = B 6 := by intro B; funext b; have h : ¬ 6 = f := by omega
                                                      simp [lc_cu, h]
    have c7 : ∀ B : lc_C, lc_cu B f i v 7 = B 7 := by intro B; funext b; have h : ¬ 7 = f := by omega
                                                      simp [lc_cu, h]
    rcases (show j = 0 ∨ j = 1 by omega) with rfl | rfl <;>
      (match k, hk with
       | 0, _ => first | rfl | (simp [lc_ent, lc_sc, c6, c7]; done)
       | 1, _ => first | rfl | (simp [lc_ent, lc_sc, c6, c7]; done)
       | 2, _ => first | rfl | (simp [lc_ent, lc_sc, c6, c7]; done)
       | 3, _ => first | rfl | (simp [lc_ent, lc_sc, c6, c7]; done)
       | 4, _ => first | rfl | (simp [lc_ent, lc_sc, c6, c7]; done)
       | 5, _ => first | rfl | (simp [lc_ent, lc_sc, c6, c7]; done)
       | 6, _ => first | rfl | (simp [lc_ent, lc_sc, c6, c7]; done)
       | 7, _ => first | rfl | (simp [lc_ent, lc_sc, c6, c7]; done)
       | 8, _ => first | rfl | (simp [lc_ent, lc_sc, c6, c7]; done)
       | 9, _ => first | rfl | (simp [lc_ent, lc_sc, c6, c7]; done)
       | 10, _ => first | rfl | (simp [lc_ent, lc_sc, c6, c7]; done)
       | 11, _ => first | rfl | (simp [lc_ent, lc_sc, c6, c7]; done)
       | 12, _ => first | rfl | (simp [lc_ent, lc_sc, c6, c7]; done)
       | 13, _ => first | rfl | (simp [lc_ent, lc_sc, c6, c7]; done)
       | 14, _ => first | rfl | (simp [lc_ent, lc_sc, c6, c7]; done)
       | 15, _ => first | rfl | (simp [lc_ent, lc_sc, c6, c7]; done)
       | 16, _ => first | rfl | (simp [lc_ent, lc_sc, c6, c7]; done)
       | 17, _ => first | rfl | (simp [lc_ent, lc_sc, c6, c7]; done)
       | 18, _ => first | rfl | (simp [lc_ent, lc_sc, c6, c7]; done)
       | 19, _ => first | rfl | (simp [lc_ent, lc_sc, c6, c7]; done)
       | 20, _ => first | rfl | (simp [lc_ent, lc_sc, c6, c7]; done)
       | 21, _ => first | rfl | (simp [lc_ent, lc_sc, c6, c7]; done)
       | 22, _ => first | rfl | (simp [lc_ent, lc_sc, c6, c7]; done)
       | 23, _ => first | rfl | (simp [lc_ent, lc_sc, c6, c7]; done)
       | 24, _ => first | rfl | (simp [lc_ent, lc_sc, c6, c7]; done)
       | 25, _ => first | rfl | (simp [lc_ent, lc_sc, c6, c7]; done)
       | k + 26, hk => exact absurd hk (by omega))
  have hv : ∀ f, f < 6 → (TX0 f).2.2.2 = false ∧ parseFieldDescriptor (TX0 f).2.2.1 = some .int := lc_f6 (by decide +kernel) (by decide +kernel) (by decide +kernel) (by decide +kernel) (by decide +kernel) (by decide +kernel)
  refine lc_put (lc_sc σ j (lc_cu (σ.1 j) f i v)) (lc_it j i) 0 f tyX0 (ty := .int) tyX0_ok nmX0 hq (lc_ent_it G σ hi) lc_cX0 hf (hv f hf).1 (hv f hf).2 rfl rfl hf ?_ (lc_h2 _ hfix hit) hl hd kk
  rw [lc_ent_it G _ hi]
  unfold lc_iE
  rw [h0 0 (by decide), h0 1 (by decide), h0 2 (by decide), h0 3 (by decide), h0 4 (by decide), h0 5 (by decide)]
  exact lc_f6 (P := fun f => (.inr (0, [.int (if 0 = f then v else σ.1 j 0 i), .int (if 1 = f then v else σ.1 j 1 i), .int (if 2 = f then v else σ.1 j 2 i), .int (if 3 = f then v else σ.1 j 3 i), .int (if 4 = f then v else σ.1 j 4 i), .int (if 5 = f then v else σ.1 j 5 i)]) : va_E) = .inr (0, [.int (σ.1 j 0 i), .int (σ.1 j 1 i), .int (σ.1 j 2 i), .int (σ.1 j 3 i), .int (σ.1 j 4 i), .int (σ.1 j 5 i)].set f (.int v))) rfl rfl rfl rfl rfl rfl f hf
theorem lc_pIw (j i f : Nat) {v : Int32} (hj : j < 2) (hi : i < 24) (hf : f < 6) (hl : lc_fl own idx (TX0 f)) (hd : decode cc pc = .ok (.putfield idx, 3)) (kk : lc_V G Γ cc nL own (pc + 3) lv (st) (lc_w σ j (lc_cu x.1 f i v, x.2))) : lc_V G Γ cc nL own (pc) lv (.int v :: .ref (G.1 (lc_it j i)) :: st) (lc_w σ j x) := lc_pI j i f hj hi hf hl hd (by rw [lc_sc_w, lc_w_c]; exact kk)

theorem lc_gWLim (j : Nat) (hj : j < 2) (hl : lc_fl own idx (TX3 0)) (hd : decode cc pc = .ok (.getfield idx, 3)) (kk : lc_V G Γ cc nL own (pc + 3) lv (.ref (G.1 (6 + j)) :: st) (σ)) : lc_V G Γ cc nL own (pc) lv (.ref (G.1 (4 + j)) :: st) (σ) := by
  rcases (show j = 0 ∨ j = 1 by omega) with rfl | rfl
  · exact lc_get 4 3 0 (by decide) rfl lc_cX3 (by decide) rfl hl hd kk
  · exact lc_get 5 3 0 (by decide) rfl lc_cX3 (by decide) rfl hl hd kk
theorem lc_gWPos (j : Nat) (hj : j < 2) (hl : lc_fl own idx (TX3 1)) (hd : decode cc pc = .ok (.getfield idx, 3)) (kk : lc_V G Γ cc nL own (pc + 3) lv (.ref (G.1 (8 + j)) :: st) (σ)) : lc_V G Γ cc nL own (pc) lv (.ref (G.1 (4 + j)) :: st) (σ) := by
  rcases (show j = 0 ∨ j = 1 by omega) with rfl | rfl
  · exact lc_get 4 3 1 (by decide) rfl lc_cX3 (by decide) rfl hl hd kk
  · exact lc_get 5 3 1 (by decide) rfl lc_cX3 (by decide) rfl hl hd kk
theorem lc_gWIts (j : Nat) (hj : j < 2) (hl : lc_fl own idx (TX3 2)) (hd : decode cc pc = .ok (.getfield idx, 3)) (kk : lc_V G Γ cc nL own (pc + 3) lv (.ref (G.1 (10 + j)) :: st) (σ)) : lc_V G Γ cc nL own (pc) lv (.ref (G.1 (4 + j)) :: st) (σ) := by
  rcases (show j = 0 ∨ j = 1 by omega) with rfl | rfl
  · exact lc_get 4 3 2 (by decide) rfl lc_cX3 (by decide) rfl hl hd kk
  · exact lc_get 5 3 2 (by decide) rfl lc_cX3 (by decide) rfl hl hd kk
theorem lc_gWLat (j : Nat) (hj : j < 2) (hl : lc_fl own idx (TX3 3)) (hd : decode cc pc = .ok (.getfield idx, 3)) (kk : lc_V G Γ cc nL own (pc + 3) lv (.ref (G.1 (12 + j)) :: st) (σ)) : lc_V G Γ cc nL own (pc) lv (.ref (G.1 (4 + j)) :: st) (σ) := by
  rcases (show j = 0 ∨ j = 1 by omega) with rfl | rfl
  · exact lc_get 4 3 3 (by decide) rfl lc_cX3 (by decide) rfl hl hd kk
  · exact lc_get 5 3 3 (by decide) rfl lc_cX3 (by decide) rfl hl hd kk
theorem lc_gWSites (j : Nat) (hj : j < 2) (hl : lc_fl own idx (TX3 4)) (hd : decode cc pc = .ok (.getfield idx, 3)) (kk : lc_V G Γ cc nL own (pc + 3) lv (.int (x.1 7 0) :: st) (lc_w σ j x)) : lc_V G Γ cc nL own (pc) lv (.ref (G.1 (4 + j)) :: st) (lc_w σ j x) := by
  rcases (show j = 0 ∨ j = 1 by omega) with rfl | rfl
  · exact lc_get 4 3 4 (by decide) rfl lc_cX3 (by decide) rfl hl hd kk
  · exact lc_get 5 3 4 (by decide) rfl lc_cX3 (by decide) rfl hl hd kk
theorem lc_gWNow (j : Nat) (hj : j < 2) (hl : lc_fl own idx (TX3 5)) (hd : decode cc pc = .ok (.getfield idx, 3)) (kk : lc_V G Γ cc nL own (pc + 3) lv (.int (x.1 7 1) :: st) (lc_w σ j x)) : lc_V G Γ cc nL own (pc) lv (.ref (G.1 (4 + j)) :: st) (lc_w σ j x) := by
  rcases (show j = 0 ∨ j = 1 by omega) with rfl | rfl
  · exact lc_get 4 3 5 (by decide) rfl lc_cX3 (by decide) rfl hl hd kk
  · exact lc_get 5 3 5 (by decide) rfl lc_cX3 (by decide) rfl hl hd kk
theorem lc_gWOff (j : Nat) (hj : j < 2) (hl : lc_fl own idx (TX3 6)) (hd : decode cc pc = .ok (.getfield idx, 3)) (kk : lc_V G Γ cc nL own (pc + 3) lv (.int (x.1 7 2) :: st) (lc_w σ j x)) : lc_V G Γ cc nL own (pc) lv (.ref (G.1 (4 + j)) :: st) (lc_w σ j x) := by
  rcases (show j = 0 ∨ j = 1 by omega) with rfl | rfl
  · exact lc_get 4 3 6 (by decide) rfl lc_cX3 (by decide) rfl hl hd kk
  · exact lc_get 5 3 6 (by decide) rfl lc_cX3 (by decide) rfl hl hd kk
theorem lc_gWTra (j : Nat) (hj : j < 2) (hl : lc_fl own idx (TX3 7)) (hd : decode cc pc = .ok (.getfield idx, 3)) (kk : lc_V G Γ cc nL own (pc + 3) lv (.int (σ.2.1 j 0 + x.2.1) :: st) (lc_w σ j x)) : lc_V G Γ cc nL own (pc) lv (.ref (G.1 (4 + j)) :: st) (lc_w σ j x) := by
  rcases (show j = 0 ∨ j = 1 by omega) with rfl | rfl
  · exact lc_get 4 3 7 (by decide) rfl lc_cX3 (by decide) rfl hl hd kk
  · exact lc_get 5 3 7 (by decide) rfl lc_cX3 (by decide) rfl hl hd kk
theorem lc_gWWok (j : Nat) (hj : j < 2) (hl : lc_fl own idx (TX3 8)) (hd : decode cc pc = .ok (.getfield idx, 3)) (kk : lc_V G Γ cc nL own (pc + 3) lv (.int (σ.2.1 j 1 + x.2.2.1) :: st) (lc_w σ j x)) : lc_V G Γ cc nL own (pc) lv (.ref (G.1 (4 + j)) :: st) (lc_w σ j x) := by
  rcases (show j = 0 ∨ j = 1 by omega) with rfl | rfl
  · exact lc_get 4 3 8 (by decide) rfl lc_cX3 (by decide) rfl hl hd kk
  · exact lc_get 5 3 8 (by decide) rfl lc_cX3 (by decide) rfl hl hd kk
theorem lc_gWGon (j : Nat) (hj : j < 2) (hl : lc_fl own idx (TX3 9)) (hd : decode cc pc = .ok (.getfield idx, 3)) (kk : lc_V G Γ cc nL own (pc + 3) lv (.int (σ.2.1 j 2 + x.2.2.2) :: st) (lc_w σ j x)) : lc_V G Γ cc nL own (pc) lv (.ref (G.1 (4 + j)) :: st) (lc_w σ j x) := by
  rcases (show j = 0 ∨ j = 1 by omega) with rfl | rfl
  · exact lc_get 4 3 9 (by decide) rfl lc_cX3 (by decide) rfl hl hd kk
  · exact lc_get 5 3 9 (by decide) rfl lc_cX3 (by decide) rfl hl hd kk
theorem lc_pWSites (j : Nat) {v : Int32} (hj : j < 2) (hl : lc_fl own idx (TX3 4)) (hd : decode cc pc = .ok (.putfield idx, 3)) (kk : lc_V G Γ cc nL own (pc + 3) lv (st) (lc_w σ j (lc_cu x.1 7 0 v, x.2))) : lc_V G Γ cc nL own (pc) lv (.int v :: .ref (G.1 (4 + j)) :: st) (lc_w σ j x) := by
  rcases (show j = 0 ∨ j = 1 by omega) with rfl | rfl
  · refine lc_put (lc_w σ 0 (lc_cu x.1 7 0 v, x.2)) 4 3 4 tyX3 (ty := .int) tyX3_ok nmX3 (by decide) (fs := _) rfl lc_cX3 (by decide) rfl (by decide +kernel) rfl rfl (Nat.le_of_ble_eq_true rfl) rfl (lc_h2 _ (fun k hk hne => by
    match k, hk, hne with
    | 0, _, hne => first | rfl | exact absurd rfl hne
    | 1, _, hne => first | rfl | exact absurd rfl hne
    | 2, _, hne => first | rfl | exact absurd rfl hne
    | 3, _, hne => first | rfl | exact absurd rfl hne
    | 4, _, hne => first | rfl | exact absurd rfl hne
    | 5, _, hne => first | rfl | exact absurd rfl hne
    | 6, _, hne => first | rfl | exact absurd rfl hne
    | 7, _, hne => first | rfl | exact absurd rfl hne
    | 8, _, hne => first | rfl | exact absurd rfl hne
    | 9, _, hne => first | rfl | exact absurd rfl hne
    | 10, _, hne => first | rfl | exact absurd rfl hne
    | 11, _, hne => first | rfl | exact absurd rfl hne
    | 12, _, hne => first | rfl | exact absurd rfl hne
    | 13, _, hne => first | rfl | exact absurd rfl hne
    | 14, _, hne => first | rfl | exact absurd rfl hne
    | 15, _, hne => first | rfl | exact absurd rfl hne
    | 16, _, hne => first | rfl | exact absurd rfl hne
    | 17, _, hne => first | rfl | exact absurd rfl hne
    | 18, _, hne => first | rfl | exact absurd rfl hne
    | 19, _, hne => first | rfl | exact absurd rfl hne
    | 20, _, hne => first | rfl | exact absurd rfl hne
    | 21, _, hne => first | rfl | exact absurd rfl hne
    | 22, _, hne => first | rfl | exact absurd rfl hne
    | 23, _, hne => first | rfl | exact absurd rfl hne
    | 24, _, hne => first | rfl | exact absurd rfl hne
    | 25, _, hne => first | rfl | exact absurd rfl hne
    | k + 26, hk, _ => exact absurd hk (by omega)) (fun a b _ _ g hg => by
    by_cases ha : a = 0 <;> simp [lc_w, lc_cu, ha] <;> omega)) hl hd kk
  · refine lc_put (lc_w σ 1 (lc_cu x.1 7 0 v, x.2)) 5 3 4 tyX3 (ty := .int) tyX3_ok nmX3 (by decide) (fs := _) rfl lc_cX3 (by decide) rfl (by decide +kernel) rfl rfl (Nat.le_of_ble_eq_true rfl) rfl (lc_h2 _ (fun k hk hne => by
    match k, hk, hne with
    | 0, _, hne => first | rfl | exact absurd rfl hne
    | 1, _, hne => first | rfl | exact absurd rfl hne
    | 2, _, hne => first | rfl | exact absurd rfl hne
    | 3, _, hne => first | rfl | exact absurd rfl hne
    | 4, _, hne => first | rfl | exact absurd rfl hne
    | 5, _, hne => first | rfl | exact absurd rfl hne
    | 6, _, hne => first | rfl | exact absurd rfl hne
    | 7, _, hne => first | rfl | exact absurd rfl hne
    | 8, _, hne => first | rfl | exact absurd rfl hne
    | 9, _, hne => first | rfl | exact absurd rfl hne
    | 10, _, hne => first | rfl | exact absurd rfl hne
    | 11, _, hne => first | rfl | exact absurd rfl hne
    | 12, _, hne => first | rfl | exact absurd rfl hne
    | 13, _, hne => first | rfl | exact absurd rfl hne
    | 14, _, hne => first | rfl | exact absurd rfl hne
    | 15, _, hne => first | rfl | exact absurd rfl hne
    | 16, _, hne => first | rfl | exact absurd rfl hne
    | 17, _, hne => first | rfl | exact absurd rfl hne
    | 18, _, hne => first | rfl | exact absurd rfl hne
    | 19, _, hne => first | rfl | exact absurd rfl hne
    | 20, _, hne => first | rfl | exact absurd rfl hne
    | 21, _, hne => first | rfl | exact absurd rfl hne
    | 22, _, hne => first | rfl | exact absurd rfl hne
    | 23, _, hne => first | rfl | exact absurd rfl hne
    | 24, _, hne => first | rfl | exact absurd rfl hne
    | 25, _, hne => first | rfl | exact absurd rfl hne
    | k + 26, hk, _ => exact absurd hk (by omega)) (fun a b _ _ g hg => by
    by_cases ha : a = 1 <;> simp [lc_w, lc_cu, ha] <;> omega)) hl hd kk
theorem lc_pWNow (j : Nat) {v : Int32} (hj : j < 2) (hl : lc_fl own idx (TX3 5)) (hd : decode cc pc = .ok (.putfield idx, 3)) (kk : lc_V G Γ cc nL own (pc + 3) lv (st) (lc_w σ j (lc_cu x.1 7 1 v, x.2))) : lc_V G Γ cc nL own (pc) lv (.int v :: .ref (G.1 (4 + j)) :: st) (lc_w σ j x) := by
  rcases (show j = 0 ∨ j = 1 by omega) with rfl | rfl
  · refine lc_put (lc_w σ 0 (lc_cu x.1 7 1 v, x.2)) 4 3 5 tyX3 (ty := .int) tyX3_ok nmX3 (by decide) (fs := _) rfl lc_cX3 (by decide) rfl (by decide +kernel) rfl rfl (Nat.le_of_ble_eq_true rfl) rfl (lc_h2 _ (fun k hk hne => by
    match k, hk, hne with
    | 0, _, hne => first | rfl | exact absurd rfl hne
    | 1, _, hne => first | rfl | exact absurd rfl hne
    | 2, _, hne => first | rfl | exact absurd rfl hne
    | 3, _, hne => first | rfl | exact absurd rfl hne
    | 4, _, hne => first | rfl | exact absurd rfl hne
    | 5, _, hne => first | rfl | exact absurd rfl hne
    | 6, _, hne => first | rfl | exact absurd rfl hne
    | 7, _, hne => first | rfl | exact absurd rfl hne
    | 8, _, hne => first | rfl | exact absurd rfl hne
    | 9, _, hne => first | rfl | exact absurd rfl hne
    | 10, _, hne => first | rfl | exact absurd rfl hne
    | 11, _, hne => first | rfl | exact absurd rfl hne
    | 12, _, hne => first | rfl | exact absurd rfl hne
    | 13, _, hne => first | rfl | exact absurd rfl hne
    | 14, _, hne => first | rfl | exact absurd rfl hne
    | 15, _, hne => first | rfl | exact absurd rfl hne
    | 16, _, hne => first | rfl | exact absurd rfl hne
    | 17, _, hne => first | rfl | exact absurd rfl hne
    | 18, _, hne => first | rfl | exact absurd rfl hne
    | 19, _, hne => first | rfl | exact absurd rfl hne
    | 20, _, hne => first | rfl | exact absurd rfl hne
    | 21, _, hne => first | rfl | exact absurd rfl hne
    | 22, _, hne => first | rfl | exact absurd rfl hne
    | 23, _, hne => first | rfl | exact absurd rfl hne
    | 24, _, hne => first | rfl | exact absurd rfl hne
    | 25, _, hne => first | rfl | exact absurd rfl hne
    | k + 26, hk, _ => exact absurd hk (by omega)) (fun a b _ _ g hg => by
    by_cases ha : a = 0 <;> simp [lc_w, lc_cu, ha] <;> omega)) hl hd kk
  · refine lc_put (lc_w σ 1 (lc_cu x.1 7 1 v, x.2)) 5 3 5 tyX3 (ty := .int) tyX3_ok nmX3 (by decide) (fs := _) rfl lc_cX3 (by decide) rfl (by decide +kernel) rfl rfl (Nat.le_of_ble_eq_true rfl) rfl (lc_h2 _ (fun k hk hne => by
    match k, hk, hne with
    | 0, _, hne => first | rfl | exact absurd rfl hne
    | 1, _, hne => first | rfl | exact absurd rfl hne
    | 2, _, hne => first | rfl | exact absurd rfl hne
    | 3, _, hne => first | rfl | exact absurd rfl hne
    | 4, _, hne => first | rfl | exact absurd rfl hne
    | 5, _, hne => first | rfl | exact absurd rfl hne
    | 6, _, hne => first | rfl | exact absurd rfl hne
    | 7, _, hne => first | rfl | exact absurd rfl hne
    | 8, _, hne => first | rfl | exact absurd rfl hne
    | 9, _, hne => first | rfl | exact absurd rfl hne
    | 10, _, hne => first | rfl | exact absurd rfl hne
    | 11, _, hne => first | rfl | exact absurd rfl hne
    | 12, _, hne => first | rfl | exact absurd rfl hne
    | 13, _, hne => first | rfl | exact absurd rfl hne
    | 14, _, hne => first | rfl | exact absurd rfl hne
    | 15, _, hne => first | rfl | exact absurd rfl hne
    | 16, _, hne => first | rfl | exact absurd rfl hne
    | 17, _, hne => first | rfl | exact absurd rfl hne
    | 18, _, hne => first | rfl | exact absurd rfl hne
    | 19, _, hne => first | rfl | exact absurd rfl hne
    | 20, _, hne => first | rfl | exact absurd rfl hne
    | 21, _, hne => first | rfl | exact absurd rfl hne
    | 22, _, hne => first | rfl | exact absurd rfl hne
    | 23, _, hne => first | rfl | exact absurd rfl hne
    | 24, _, hne => first | rfl | exact absurd rfl hne
    | 25, _, hne => first | rfl | exact absurd rfl hne
    | k + 26, hk, _ => exact absurd hk (by omega)) (fun a b _ _ g hg => by
    by_cases ha : a = 1 <;> simp [lc_w, lc_cu, ha] <;> omega)) hl hd kk
theorem lc_pWOff (j : Nat) {v : Int32} (hj : j < 2) (hl : lc_fl own idx (TX3 6)) (hd : decode cc pc = .ok (.putfield idx, 3)) (kk : lc_V G Γ cc nL own (pc + 3) lv (st) (lc_w σ j (lc_cu x.1 7 2 v, x.2))) : lc_V G Γ cc nL own (pc) lv (.int v :: .ref (G.1 (4 + j)) :: st) (lc_w σ j x) := by
  rcases (show j = 0 ∨ j = 1 by omega) with rfl | rfl
  · refine lc_put (lc_w σ 0 (lc_cu x.1 7 2 v, x.2)) 4 3 6 tyX3 (ty := .int) tyX3_ok nmX3 (by decide) (fs := _) rfl lc_cX3 (by decide) rfl (by decide +kernel) rfl rfl (Nat.le_of_ble_eq_true rfl) rfl (lc_h2 _ (fun k hk hne => by
    match k, hk, hne with
    | 0, _, hne => first | rfl | exact absurd rfl hne
    | 1, _, hne => first | rfl | exact absurd rfl hne
    | 2, _, hne => first | rfl | exact absurd rfl hne
    | 3, _, hne => first | rfl | exact absurd rfl hne
    | 4, _, hne => first | rfl | exact absurd rfl hne
    | 5, _, hne => first | rfl | exact absurd rfl hne
    | 6, _, hne => first | rfl | exact absurd rfl hne
    | 7, _, hne => first | rfl | exact absurd rfl hne
    | 8, _, hne => first | rfl | exact absurd rfl hne
    | 9, _, hne => first | rfl | exact absurd rfl hne
    | 10, _, hne => first | rfl | exact absurd rfl hne
    | 11, _, hne => first | rfl | exact absurd rfl hne
    | 12, _, hne => first | rfl | exact absurd rfl hne
    | 13, _, hne => first | rfl | exact absurd rfl hne
    | 14, _, hne => first | rfl | exact absurd rfl hne
    | 15, _, hne => first | rfl | exact absurd rfl hne
    | 16, _, hne => first | rfl | exact absurd rfl hne
    | 17, _, hne => first | rfl | exact absurd rfl hne
    | 18, _, hne => first | rfl | exact absurd rfl hne
    | 19, _, hne => first | rfl | exact absurd rfl hne
    | 20, _, hne => first | rfl | exact absurd rfl hne
    | 21, _, hne => first | rfl | exact absurd rfl hne
    | 22, _, hne => first | rfl | exact absurd rfl hne
    | 23, _, hne => first | rfl | exact absurd rfl hne
    | 24, _, hne => first | rfl | exact absurd rfl hne
    | 25, _, hne => first | rfl | exact absurd rfl hne
    | k + 26, hk, _ => exact absurd hk (by omega)) (fun a b _ _ g hg => by
    by_cases ha : a = 0 <;> simp [lc_w, lc_cu, ha] <;> omega)) hl hd kk
  · refine lc_put (lc_w σ 1 (lc_cu x.1 7 2 v, x.2)) 5 3 6 tyX3 (ty := .int) tyX3_ok nmX3 (by decide) (fs := _) rfl lc_cX3 (by decide) rfl (by decide +kernel) rfl rfl (Nat.le_of_ble_eq_true rfl) rfl (lc_h2 _ (fun k hk hne => by
    match k, hk, hne with
    | 0, _, hne => first | rfl | exact absurd rfl hne
    | 1, _, hne => first | rfl | exact absurd rfl hne
    | 2, _, hne => first | rfl | exact absurd rfl hne
    | 3, _, hne => first | rfl | exact absurd rfl hne
    | 4, _, hne => first | rfl | exact absurd rfl hne
    | 5, _, hne => first | rfl | exact absurd rfl hne
    | 6, _, hne => first | rfl | exact absurd rfl hne
    | 7, _, hne => first | rfl | exact absurd rfl hne
    | 8, _, hne => first | rfl | exact absurd rfl hne
    | 9, _, hne => first | rfl | exact absurd rfl hne
    | 10, _, hne => first | rfl | exact absurd rfl hne
    | 11, _, hne => first | rfl | exact absurd rfl hne
    | 12, _, hne => first | rfl | exact absurd rfl hne
    | 13, _, hne => first | rfl | exact absurd rfl hne
    | 14, _, hne => first | rfl | exact absurd rfl hne
    | 15, _, hne => first | rfl | exact absurd rfl hne
    | 16, _, hne => first | rfl | exact absurd rfl hne
    | 17, _, hne => first | rfl | exact absurd rfl hne
    | 18, _, hne => first | rfl | exact absurd rfl hne
    | 19, _, hne => first | rfl | exact absurd rfl hne
    | 20, _, hne => first | rfl | exact absurd rfl hne
    | 21, _, hne => first | rfl | exact absurd rfl hne
    | 22, _, hne => first | rfl | exact absurd rfl hne
    | 23, _, hne => first | rfl | exact absurd rfl hne
    | 24, _, hne => first | rfl | exact absurd rfl hne
    | 25, _, hne => first | rfl | exact absurd rfl hne
    | k + 26, hk, _ => exact absurd hk (by omega)) (fun a b _ _ g hg => by
    by_cases ha : a = 1 <;> simp [lc_w, lc_cu, ha] <;> omega)) hl hd kk
theorem lc_pWTra (j : Nat) {v : Int32} (t : Int32) (hv : v = σ.2.1 j 0 + t) (hj : j < 2) (hl : lc_fl own idx (TX3 7)) (hd : decode cc pc = .ok (.putfield idx, 3)) (kk : lc_V G Γ cc nL own (pc + 3) lv (st) (lc_w σ j (x.1, t, x.2.2.1, x.2.2.2))) : lc_V G Γ cc nL own (pc) lv (.int v :: .ref (G.1 (4 + j)) :: st) (lc_w σ j x) := by
  subst hv
  rcases (show j = 0 ∨ j = 1 by omega) with rfl | rfl
  · refine lc_put (lc_w σ 0 (x.1, t, x.2.2.1, x.2.2.2)) 4 3 7 tyX3 (ty := .int) tyX3_ok nmX3 (by decide) (fs := _) rfl lc_cX3 (by decide) rfl (by decide +kernel) rfl rfl (Nat.le_of_ble_eq_true rfl) rfl (lc_h2 _ (fun k hk hne => by
    match k, hk, hne with
    | 0, _, hne => first | rfl | exact absurd rfl hne
    | 1, _, hne => first | rfl | exact absurd rfl hne
    | 2, _, hne => first | rfl | exact absurd rfl hne
    | 3, _, hne => first | rfl | exact absurd rfl hne
    | 4, _, hne => first | rfl | exact absurd rfl hne
    | 5, _, hne => first | rfl | exact absurd rfl hne
    | 6, _, hne => first | rfl | exact absurd rfl hne
    | 7, _, hne => first | rfl | exact absurd rfl hne
    | 8, _, hne => first | rfl | exact absurd rfl hne
    | 9, _, hne => first | rfl | exact absurd rfl hne
    | 10, _, hne => first | rfl | exact absurd rfl hne
    | 11, _, hne => first | rfl | exact absurd rfl hne
    | 12, _, hne => first | rfl | exact absurd rfl hne
    | 13, _, hne => first | rfl | exact absurd rfl hne
    | 14, _, hne => first | rfl | exact absurd rfl hne
    | 15, _, hne => first | rfl | exact absurd rfl hne
    | 16, _, hne => first | rfl | exact absurd rfl hne
    | 17, _, hne => first | rfl | exact absurd rfl hne
    | 18, _, hne => first | rfl | exact absurd rfl hne
    | 19, _, hne => first | rfl | exact absurd rfl hne
    | 20, _, hne => first | rfl | exact absurd rfl hne
    | 21, _, hne => first | rfl | exact absurd rfl hne
    | 22, _, hne => first | rfl | exact absurd rfl hne
    | 23, _, hne => first | rfl | exact absurd rfl hne
    | 24, _, hne => first | rfl | exact absurd rfl hne
    | 25, _, hne => first | rfl | exact absurd rfl hne
    | k + 26, hk, _ => exact absurd hk (by omega)) (fun a b _ _ g hg => rfl)) hl hd kk
  · refine lc_put (lc_w σ 1 (x.1, t, x.2.2.1, x.2.2.2)) 5 3 7 tyX3 (ty := .int) tyX3_ok nmX3 (by decide) (fs := _) rfl lc_cX3 (by decide) rfl (by decide +kernel) rfl rfl (Nat.le_of_ble_eq_true rfl) rfl (lc_h2 _ (fun k hk hne => by
    match k, hk, hne with
    | 0, _, hne => first | rfl | exact absurd rfl hne
    | 1, _, hne => first | rfl | exact absurd rfl hne
    | 2, _, hne => first | rfl | exact absurd rfl hne
    | 3, _, hne => first | rfl | exact absurd rfl hne
    | 4, _, hne => first | rfl | exact absurd rfl hne
    | 5, _, hne => first | rfl | exact absurd rfl hne
    | 6, _, hne => first | rfl | exact absurd rfl hne
    | 7, _, hne => first | rfl | exact absurd rfl hne
    | 8, _, hne => first | rfl | exact absurd rfl hne
    | 9, _, hne => first | rfl | exact absurd rfl hne
    | 10, _, hne => first | rfl | exact absurd rfl hne
    | 11, _, hne => first | rfl | exact absurd rfl hne
    | 12, _, hne => first | rfl | exact absurd rfl hne
    | 13, _, hne => first | rfl | exact absurd rfl hne
    | 14, _, hne => first | rfl | exact absurd rfl hne
    | 15, _, hne => first | rfl | exact absurd rfl hne
    | 16, _, hne => first | rfl | exact absurd rfl hne
    | 17, _, hne => first | rfl | exact absurd rfl hne
    | 18, _, hne => first | rfl | exact absurd rfl hne
    | 19, _, hne => first | rfl | exact absurd rfl hne
    | 20, _, hne => first | rfl | exact absurd rfl hne
    | 21, _, hne => first | rfl | exact absurd rfl hne
    | 22, _, hne => first | rfl | exact absurd rfl hne
    | 23, _, hne => first | rfl | exact absurd rfl hne
    | 24, _, hne => first | rfl | exact absurd rfl hne
    | 25, _, hne => first | rfl | exact absurd rfl hne
    | k + 26, hk, _ => exact absurd hk (by omega)) (fun a b _ _ g hg => rfl)) hl hd kk
theorem lc_pWWok (j : Nat) {v : Int32} (t : Int32) (hv : v = σ.2.1 j 1 + t) (hj : j < 2) (hl : lc_fl own idx (TX3 8)) (hd : decode cc pc = .ok (.putfield idx, 3)) (kk : lc_V G Γ cc nL own (pc + 3) lv (st) (lc_w σ j (x.1, x.2.1, t, x.2.2.2))) : lc_V G Γ cc nL own (pc) lv (.int v :: .ref (G.1 (4 + j)) :: st) (lc_w σ j x) := by
  subst hv
  rcases (show j = 0 ∨ j = 1 by omega) with rfl | rfl
  · refine lc_put (lc_w σ 0 (x.1, x.2.1, t, x.2.2.2)) 4 3 8 tyX3 (ty := .int) tyX3_ok nmX3 (by decide) (fs := _) rfl lc_cX3 (by decide) rfl (by decide +kernel) rfl rfl (Nat.le_of_ble_eq_true rfl) rfl (lc_h2 _ (fun k hk hne => by
    match k, hk, hne with
    | 0, _, hne => first | rfl | exact absurd rfl hne
    | 1, _, hne => first | rfl | exact absurd rfl hne
    | 2, _, hne => first | rfl | exact absurd rfl hne
    | 3, _, hne => first | rfl | exact absurd rfl hne
    | 4, _, hne => first | rfl | exact absurd rfl hne
    | 5, _, hne => first | rfl | exact absurd rfl hne
    | 6, _, hne => first | rfl | exact absurd rfl hne
    | 7, _, hne => first | rfl | exact absurd rfl hne
    | 8, _, hne => first | rfl | exact absurd rfl hne
    | 9, _, hne => first | rfl | exact absurd rfl hne
    | 10, _, hne => first | rfl | exact absurd rfl hne
    | 11, _, hne => first | rfl | exact absurd rfl hne
    | 12, _, hne => first | rfl | exact absurd rfl hne
    | 13, _, hne => first | rfl | exact absurd rfl hne
    | 14, _, hne => first | rfl | exact absurd rfl hne
    | 15, _, hne => first | rfl | exact absurd rfl hne
    | 16, _, hne => first | rfl | exact absurd rfl hne
    | 17, _, hne => first | rfl | exact absurd rfl hne
    | 18, _, hne => first | rfl | exact absurd rfl hne
    | 19, _, hne => first | rfl | exact absurd rfl hne
    | 20, _, hne => first | rfl | exact absurd rfl hne
    | 21, _, hne => first | rfl | exact absurd rfl hne
    | 22, _, hne => first | rfl | exact absurd rfl hne
    | 23, _, hne => first | rfl | exact absurd rfl hne
    | 24, _, hne => first | rfl | exact absurd rfl hne
    | 25, _, hne => first | rfl | exact absurd rfl hne
    | k + 26, hk, _ => exact absurd hk (by omega)) (fun a b _ _ g hg => rfl)) hl hd kk
  · refine lc_put (lc_w σ 1 (x.1, x.2.1, t, x.2.2.2)) 5 3 8 tyX3 (ty := .int) tyX3_ok nmX3 (by decide) (fs := _) rfl lc_cX3 (by decide) rfl (by decide +kernel) rfl rfl (Nat.le_of_ble_eq_true rfl) rfl (lc_h2 _ (fun k hk hne => by
    match k, hk, hne with
    | 0, _, hne => first | rfl | exact absurd rfl hne
    | 1, _, hne => first | rfl | exact absurd rfl hne
    | 2, _, hne => first | rfl | exact absurd rfl hne
    | 3, _, hne => first | rfl | exact absurd rfl hne
    | 4, _, hne => first | rfl | exact absurd rfl hne
    | 5, _, hne => first | rfl | exact absurd rfl hne
    | 6, _, hne => first | rfl | exact absurd rfl hne
    | 7, _, hne => first | rfl | exact absurd rfl hne
    | 8, _, hne => first | rfl | exact absurd rfl hne
    | 9, _, hne => first | rfl | exact absurd rfl hne
    | 10, _, hne => first | rfl | exact absurd rfl hne
    | 11, _, hne => first | rfl | exact absurd rfl hne
    | 12, _, hne => first | rfl | exact absurd rfl hne
    | 13, _, hne => first | rfl | exact absurd rfl hne
    | 14, _, hne => first | rfl | exact absurd rfl hne
    | 15, _, hne => first | rfl | exact absurd rfl hne
    | 16, _, hne => first | rfl | exact absurd rfl hne
    | 17, _, hne => first | rfl | exact absurd rfl hne
    | 18, _, hne => first | rfl | exact absurd rfl hne
    | 19, _, hne => first | rfl | exact absurd rfl hne
    | 20, _, hne => first | rfl | exact absurd rfl hne
    | 21, _, hne => first | rfl | exact absurd rfl hne
    | 22, _, hne => first | rfl | exact absurd rfl hne
    | 23, _, hne => first | rfl | exact absurd rfl hne
    | 24, _, hne => first | rfl | exact absurd rfl hne
    | 25, _, hne => first | rfl | exact absurd rfl hne
    | k + 26, hk, _ => exact absurd hk (by omega)) (fun a b _ _ g hg => rfl)) hl hd kk
theorem lc_pWGon (j : Nat) {v : Int32} (t : Int32) (hv : v = σ.2.1 j 2 + t) (hj : j < 2) (hl : lc_fl own idx (TX3 9)) (hd : decode cc pc = .ok (.putfield idx, 3)) (kk : lc_V G Γ cc nL own (pc + 3) lv (st) (lc_w σ j (x.1, x.2.1, x.2.2.1, t))) : lc_V G Γ cc nL own (pc) lv (.int v :: .ref (G.1 (4 + j)) :: st) (lc_w σ j x) := by
  subst hv
  rcases (show j = 0 ∨ j = 1 by omega) with rfl | rfl
  · refine lc_put (lc_w σ 0 (x.1, x.2.1, x.2.2.1, t)) 4 3 9 tyX3 (ty := .int) tyX3_ok nmX3 (by decide) (fs := _) rfl lc_cX3 (by decide) rfl (by decide +kernel) rfl rfl (Nat.le_of_ble_eq_true rfl) rfl (lc_h2 _ (fun k hk hne => by
    match k, hk, hne with
    | 0, _, hne => first | rfl | exact absurd rfl hne
    | 1, _, hne => first | rfl | exact absurd rfl hne
    | 2, _, hne => first | rfl | exact absurd rfl hne
    | 3, _, hne => first | rfl | exact absurd rfl hne
    | 4, _, hne => first | rfl | exact absurd rfl hne
    | 5, _, hne => first | rfl | exact absurd rfl hne
    | 6, _, hne => first | rfl | exact absurd rfl hne
    | 7, _, hne => first | rfl | exact absurd rfl hne
    | 8, _, hne => first | rfl | exact absurd rfl hne
    | 9, _, hne => first | rfl | exact absurd rfl hne
    | 10, _, hne => first | rfl | exact absurd rfl hne
    | 11, _, hne => first | rfl | exact absurd rfl hne
    | 12, _, hne => first | rfl | exact absurd rfl hne
    | 13, _, hne => first | rfl | exact absurd rfl hne
    | 14, _, hne => first | rfl | exact absurd rfl hne
    | 15, _, hne => first | rfl | exact absurd rfl hne
    | 16, _, hne => first | rfl | exact absurd rfl hne
    | 17, _, hne => first | rfl | exact absurd rfl hne
    | 18, _, hne => first | rfl | exact absurd rfl hne
    | 19, _, hne => first | rfl | exact absurd rfl hne
    | 20, _, hne => first | rfl | exact absurd rfl hne
    | 21, _, hne => first | rfl | exact absurd rfl hne
    | 22, _, hne => first | rfl | exact absurd rfl hne
    | 23, _, hne => first | rfl | exact absurd rfl hne
    | 24, _, hne => first | rfl | exact absurd rfl hne
    | 25, _, hne => first | rfl | exact absurd rfl hne
    | k + 26, hk, _ => exact absurd hk (by omega)) (fun a b _ _ g hg => rfl)) hl hd kk
  · refine lc_put (lc_w σ 1 (x.1, x.2.1, x.2.2.1, t)) 5 3 9 tyX3 (ty := .int) tyX3_ok nmX3 (by decide) (fs := _) rfl lc_cX3 (by decide) rfl (by decide +kernel) rfl rfl (Nat.le_of_ble_eq_true rfl) rfl (lc_h2 _ (fun k hk hne => by
    match k, hk, hne with
    | 0, _, hne => first | rfl | exact absurd rfl hne
    | 1, _, hne => first | rfl | exact absurd rfl hne
    | 2, _, hne => first | rfl | exact absurd rfl hne
    | 3, _, hne => first | rfl | exact absurd rfl hne
    | 4, _, hne => first | rfl | exact absurd rfl hne
    | 5, _, hne => first | rfl | exact absurd rfl hne
    | 6, _, hne => first | rfl | exact absurd rfl hne
    | 7, _, hne => first | rfl | exact absurd rfl hne
    | 8, _, hne => first | rfl | exact absurd rfl hne
    | 9, _, hne => first | rfl | exact absurd rfl hne
    | 10, _, hne => first | rfl | exact absurd rfl hne
    | 11, _, hne => first | rfl | exact absurd rfl hne
    | 12, _, hne => first | rfl | exact absurd rfl hne
    | 13, _, hne => first | rfl | exact absurd rfl hne
    | 14, _, hne => first | rfl | exact absurd rfl hne
    | 15, _, hne => first | rfl | exact absurd rfl hne
    | 16, _, hne => first | rfl | exact absurd rfl hne
    | 17, _, hne => first | rfl | exact absurd rfl hne
    | 18, _, hne => first | rfl | exact absurd rfl hne
    | 19, _, hne => first | rfl | exact absurd rfl hne
    | 20, _, hne => first | rfl | exact absurd rfl hne
    | 21, _, hne => first | rfl | exact absurd rfl hne
    | 22, _, hne => first | rfl | exact absurd rfl hne
    | 23, _, hne => first | rfl | exact absurd rfl hne
    | 24, _, hne => first | rfl | exact absurd rfl hne
    | 25, _, hne => first | rfl | exact absurd rfl hne
    | k + 26, hk, _ => exact absurd hk (by omega)) (fun a b _ _ g hg => rfl)) hl hd kk
theorem lc_eLim (j : Nat) (hj : j < 2) : lc_ent G (lc_w σ j x) (6 + j) = lc_aE G 4 (x.1 6) := by
  rcases (show j = 0 ∨ j = 1 by omega) with rfl | rfl <;> rfl
theorem lc_eW (j : Nat) (hj : j < 2) : lc_ent G σ (4 + j) = lc_wE G σ j := by
  rcases (show j = 0 ∨ j = 1 by omega) with rfl | rfl <;> rfl
theorem lc_ePos (j : Nat) (hj : j < 2) : lc_ent G σ (8 + j) = lc_aE G 6 (σ.2.1 (6 + j)) := by
  rcases (show j = 0 ∨ j = 1 by omega) with rfl | rfl <;> rfl
theorem lc_eLat (j : Nat) (hj : j < 2) : lc_ent G σ (12 + j) = lc_aE G 4 (σ.2.1 (3 + j)) := by
  rcases (show j = 0 ∨ j = 1 by omega) with rfl | rfl <;> rfl

end LCR
end
section
theorem lc_h3 {G : lc_G} {σ σ' : lc_S} (q0 : Nat) (hfix : ∀ k, k < 26 → k ≠ q0 → lc_ent G σ' k = lc_ent G σ k) (hit : ∀ a b, a < 2 → b < 24 → ∀ f, f < 6 → σ'.1 a f b = σ.1 a f b) : ∀ i, i < 74 → i ≠ q0 → lc_ent G σ' i = lc_ent G σ i := by
  intro i hi hne
  by_cases h : i < 26
  · exact hfix i h hne
  · have e : i = lc_it ((i - 26) / 24) ((i - 26) % 24) := by unfold lc_it; omega
    have hb : (i - 26) % 24 < 24 := Nat.mod_lt _ (by decide)
    rw [e]
    rw [lc_ent_it G σ' hb, lc_ent_it G σ hb]
    exact lc_iE_eq (hit _ _ (by omega) hb)
theorem lc_uo_w (σ : lc_S) {j r : Nat} (k : Nat) (v : Int32) (x : lc_X) (h : r ≠ j) : lc_uo (lc_w σ j x) r k v = lc_w (lc_uo σ r k v) j x := by
  unfold lc_uo lc_w
  refine Prod.ext rfl (Prod.ext ?_ rfl)
  funext a b
  by_cases ha : a = j
  · subst ha
    have e : ¬ a = r := fun z => h z.symm
    simp [e]
  · simp [ha]
theorem lc_ul_w (σ : lc_S) (j : Nat) (k : Nat) (v : Int64) (x : lc_X) : lc_ul (lc_w σ j x) k v = lc_w (lc_ul σ k v) j x := rfl
theorem lc_uo_same (σ : lc_S) (r i : Nat) (v : Int32) : (lc_uo σ r i v).2.1 r = upd (σ.2.1 r) i v := by
  funext b
  by_cases hb : b = i <;> simp [lc_uo, upd, hb]
theorem lc_cu_same (B : lc_C) (r i : Nat) (v : Int32) : lc_cu B r i v r = upd (B r) i v := by
  funext b
  by_cases hb : b = i <;> simp [lc_cu, upd, hb]

section LCR2
variable {G : lc_G} {Γ : lc_Γ} {cc : ByteArray} {nL : Nat} {own : String} {pc : Nat} {lv : List (Nat × Value)} {st : List Value} {σ : lc_S} {x : lc_X} {idx : Nat}

theorem lc_g_lines (hl : lc_fl own idx (TX4 3)) (hd : decode cc pc = .ok (.getfield idx, 3)) (kk : lc_V G Γ cc nL own (pc + 3) lv (.int (σ.2.1 10 1) :: st) (σ)) : lc_V G Γ cc nL own (pc) lv (.ref (G.1 0) :: st) (σ) := lc_get 0 4 3 (by decide) rfl lc_cX4 (by decide) rfl hl hd kk
theorem lc_gw_lines (j : Nat) (hj : j < 3) (hl : lc_fl own idx (TX4 3)) (hd : decode cc pc = .ok (.getfield idx, 3)) (kk : lc_V G Γ cc nL own (pc + 3) lv (.int (σ.2.1 10 1) :: st) (lc_w σ j x)) : lc_V G Γ cc nL own (pc) lv (.ref (G.1 0) :: st) (lc_w σ j x) := lc_g_lines hl hd (by rw [lc_w_on σ x (show 10 ≠ j by omega)]; exact kk)
theorem lc_p_lines {v : Int32} (hl : lc_fl own idx (TX4 3)) (hd : decode cc pc = .ok (.putfield idx, 3)) (kk : lc_V G Γ cc nL own (pc + 3) lv (st) (lc_uo σ 10 1 v)) : lc_V G Γ cc nL own (pc) lv (.int v :: .ref (G.1 0) :: st) (σ) := lc_put (lc_uo σ 10 1 v) 0 4 3 tyX4 (ty := .int) tyX4_ok nmX4 (by decide) (fs := _) rfl lc_cX4 (by decide) rfl (by decide +kernel) rfl rfl (Nat.le_of_ble_eq_true rfl) rfl (lc_h3 _ (fun k hk hne => by
    match k, hk, hne with
    | 0, _, hne => first | rfl | exact absurd rfl hne
    | 1, _, hne => first | rfl | exact absurd rfl hne
    | 2, _, hne => first | rfl | exact absurd rfl hne
    | 3, _, hne => first | rfl | exact absurd rfl hne
    | 4, _, hne => first | rfl | exact absurd rfl hne
    | 5, _, hne => first | rfl | exact absurd rfl hne
    | 6, _, hne => first | rfl | exact absurd rfl hne
    | 7, _, hne => first | rfl | exact absurd rfl hne
    | 8, _, hne => first | rfl | exact absurd rfl hne
    | 9, _, hne => first | rfl | exact absurd rfl hne
    | 10, _, hne => first | rfl | exact absurd rfl hne
    | 11, _, hne => first | rfl | exact absurd rfl hne
    | 12, _, hne => first | rfl | exact absurd rfl hne
    | 13, _, hne => first | rfl | exact absurd rfl hne
    | 14, _, hne => first | rfl | exact absurd rfl hne
    | 15, _, hne => first | rfl | exact absurd rfl hne
    | 16, _, hne => first | rfl | exact absurd rfl hne
    | 17, _, hne => first | rfl | exact absurd rfl hne
    | 18, _, hne => first | rfl | exact absurd rfl hne
    | 19, _, hne => first | rfl | exact absurd rfl hne
    | 20, _, hne => first | rfl | exact absurd rfl hne
    | 21, _, hne => first | rfl | exact absurd rfl hne
    | 22, _, hne => first | rfl | exact absurd rfl hne
    | 23, _, hne => first | rfl | exact absurd rfl hne
    | 24, _, hne => first | rfl | exact absurd rfl hne
    | 25, _, hne => first | rfl | exact absurd rfl hne
    | k + 26, hk, _ => exact absurd hk (by omega)) (fun a b _ _ g hg => rfl)) hl hd kk
theorem lc_pw_lines {v : Int32} (j : Nat) (hj : j < 3) (hl : lc_fl own idx (TX4 3)) (hd : decode cc pc = .ok (.putfield idx, 3)) (kk : lc_V G Γ cc nL own (pc + 3) lv (st) (lc_w (lc_uo σ 10 1 v) j x)) : lc_V G Γ cc nL own (pc) lv (.int v :: .ref (G.1 0) :: st) (lc_w σ j x) := lc_p_lines hl hd (by rw [lc_uo_w σ 1 v x (show 10 ≠ j by omega)]; exact kk)
theorem lc_g_len (hl : lc_fl own idx (TX1 1)) (hd : decode cc pc = .ok (.getfield idx, 3)) (kk : lc_V G Γ cc nL own (pc + 3) lv (.int (σ.2.1 10 0) :: st) (σ)) : lc_V G Γ cc nL own (pc) lv (.ref (G.1 1) :: st) (σ) := lc_get 1 1 1 (by decide) rfl lc_cX1 (by decide) rfl hl hd kk
theorem lc_gw_len (j : Nat) (hj : j < 3) (hl : lc_fl own idx (TX1 1)) (hd : decode cc pc = .ok (.getfield idx, 3)) (kk : lc_V G Γ cc nL own (pc + 3) lv (.int (σ.2.1 10 0) :: st) (lc_w σ j x)) : lc_V G Γ cc nL own (pc) lv (.ref (G.1 1) :: st) (lc_w σ j x) := lc_g_len hl hd (by rw [lc_w_on σ x (show 10 ≠ j by omega)]; exact kk)
theorem lc_p_len {v : Int32} (hl : lc_fl own idx (TX1 1)) (hd : decode cc pc = .ok (.putfield idx, 3)) (kk : lc_V G Γ cc nL own (pc + 3) lv (st) (lc_uo σ 10 0 v)) : lc_V G Γ cc nL own (pc) lv (.int v :: .ref (G.1 1) :: st) (σ) := lc_put (lc_uo σ 10 0 v) 1 1 1 tyX1 (ty := .int) tyX1_ok nmX1 (by decide) (fs := _) rfl lc_cX1 (by decide) rfl (by decide +kernel) rfl rfl (Nat.le_of_ble_eq_true rfl) rfl (lc_h3 _ (fun k hk hne => by
    match k, hk, hne with
    | 0, _, hne => first | rfl | exact absurd rfl hne
    | 1, _, hne => first | rfl | exact absurd rfl hne
    | 2, _, hne => first | rfl | exact absurd rfl hne
    | 3, _, hne => first | rfl | exact absurd rfl hne
    | 4, _, hne => first | rfl | exact absurd rfl hne
    | 5, _, hne => first | rfl | exact absurd rfl hne
    | 6, _, hne => first | rfl | exact absurd rfl hne
    | 7, _, hne => first | rfl | exact absurd rfl hne
    | 8, _, hne => first | rfl | exact absurd rfl hne
    | 9, _, hne => first | rfl | exact absurd rfl hne
    | 10, _, hne => first | rfl | exact absurd rfl hne
    | 11, _, hne => first | rfl | exact absurd rfl hne
    | 12, _, hne => first | rfl | exact absurd rfl hne
    | 13, _, hne => first | rfl | exact absurd rfl hne
    | 14, _, hne => first | rfl | exact absurd rfl hne
    | 15, _, hne => first | rfl | exact absurd rfl hne
    | 16, _, hne => first | rfl | exact absurd rfl hne
    | 17, _, hne => first | rfl | exact absurd rfl hne
    | 18, _, hne => first | rfl | exact absurd rfl hne
    | 19, _, hne => first | rfl | exact absurd rfl hne
    | 20, _, hne => first | rfl | exact absurd rfl hne
    | 21, _, hne => first | rfl | exact absurd rfl hne
    | 22, _, hne => first | rfl | exact absurd rfl hne
    | 23, _, hne => first | rfl | exact absurd rfl hne
    | 24, _, hne => first | rfl | exact absurd rfl hne
    | 25, _, hne => first | rfl | exact absurd rfl hne
    | k + 26, hk, _ => exact absurd hk (by omega)) (fun a b _ _ g hg => rfl)) hl hd kk
theorem lc_pw_len {v : Int32} (j : Nat) (hj : j < 3) (hl : lc_fl own idx (TX1 1)) (hd : decode cc pc = .ok (.putfield idx, 3)) (kk : lc_V G Γ cc nL own (pc + 3) lv (st) (lc_w (lc_uo σ 10 0 v) j x)) : lc_V G Γ cc nL own (pc) lv (.int v :: .ref (G.1 1) :: st) (lc_w σ j x) := lc_p_len hl hd (by rw [lc_uo_w σ 0 v x (show 10 ≠ j by omega)]; exact kk)
theorem lc_g_rnd (hl : lc_fl own idx (TX2 1)) (hd : decode cc pc = .ok (.getfield idx, 3)) (kk : lc_V G Γ cc nL own (pc + 3) lv (.int (σ.2.1 10 2) :: st) (σ)) : lc_V G Γ cc nL own (pc) lv (.ref (G.1 3) :: st) (σ) := lc_get 3 2 1 (by decide) rfl lc_cX2 (by decide) rfl hl hd kk
theorem lc_gw_rnd (j : Nat) (hj : j < 3) (hl : lc_fl own idx (TX2 1)) (hd : decode cc pc = .ok (.getfield idx, 3)) (kk : lc_V G Γ cc nL own (pc + 3) lv (.int (σ.2.1 10 2) :: st) (lc_w σ j x)) : lc_V G Γ cc nL own (pc) lv (.ref (G.1 3) :: st) (lc_w σ j x) := lc_g_rnd hl hd (by rw [lc_w_on σ x (show 10 ≠ j by omega)]; exact kk)
theorem lc_p_rnd {v : Int32} (hl : lc_fl own idx (TX2 1)) (hd : decode cc pc = .ok (.putfield idx, 3)) (kk : lc_V G Γ cc nL own (pc + 3) lv (st) (lc_uo σ 10 2 v)) : lc_V G Γ cc nL own (pc) lv (.int v :: .ref (G.1 3) :: st) (σ) := lc_put (lc_uo σ 10 2 v) 3 2 1 tyX2 (ty := .int) tyX2_ok nmX2 (by decide) (fs := _) rfl lc_cX2 (by decide) rfl (by decide +kernel) rfl rfl (Nat.le_of_ble_eq_true rfl) rfl (lc_h3 _ (fun k hk hne => by
    match k, hk, hne with
    | 0, _, hne => first | rfl | exact absurd rfl hne
    | 1, _, hne => first | rfl | exact absurd rfl hne
    | 2, _, hne => first | rfl | exact absurd rfl hne
    | 3, _, hne => first | rfl | exact absurd rfl hne
    | 4, _, hne => first | rfl | exact absurd rfl hne
    | 5, _, hne => first | rfl | exact absurd rfl hne
    | 6, _, hne => first | rfl | exact absurd rfl hne
    | 7, _, hne => first | rfl | exact absurd rfl hne
    | 8, _, hne => first | rfl | exact absurd rfl hne
    | 9, _, hne => first | rfl | exact absurd rfl hne
    | 10, _, hne => first | rfl | exact absurd rfl hne
    | 11, _, hne => first | rfl | exact absurd rfl hne
    | 12, _, hne => first | rfl | exact absurd rfl hne
    | 13, _, hne => first | rfl | exact absurd rfl hne
    | 14, _, hne => first | rfl | exact absurd rfl hne
    | 15, _, hne => first | rfl | exact absurd rfl hne
    | 16, _, hne => first | rfl | exact absurd rfl hne
    | 17, _, hne => first | rfl | exact absurd rfl hne
    | 18, _, hne => first | rfl | exact absurd rfl hne
    | 19, _, hne => first | rfl | exact absurd rfl hne
    | 20, _, hne => first | rfl | exact absurd rfl hne
    | 21, _, hne => first | rfl | exact absurd rfl hne
    | 22, _, hne => first | rfl | exact absurd rfl hne
    | 23, _, hne => first | rfl | exact absurd rfl hne
    | 24, _, hne => first | rfl | exact absurd rfl hne
    | 25, _, hne => first | rfl | exact absurd rfl hne
    | k + 26, hk, _ => exact absurd hk (by omega)) (fun a b _ _ g hg => rfl)) hl hd kk
theorem lc_pw_rnd {v : Int32} (j : Nat) (hj : j < 3) (hl : lc_fl own idx (TX2 1)) (hd : decode cc pc = .ok (.putfield idx, 3)) (kk : lc_V G Γ cc nL own (pc + 3) lv (st) (lc_w (lc_uo σ 10 2 v) j x)) : lc_V G Γ cc nL own (pc) lv (.int v :: .ref (G.1 3) :: st) (lc_w σ j x) := lc_p_rnd hl hd (by rw [lc_uo_w σ 2 v x (show 10 ≠ j by omega)]; exact kk)
theorem lc_g_seed (hl : lc_fl own idx (TX2 2)) (hd : decode cc pc = .ok (.getfield idx, 3)) (kk : lc_V G Γ cc nL own (pc + 3) lv (.int (σ.2.1 10 3) :: st) (σ)) : lc_V G Γ cc nL own (pc) lv (.ref (G.1 3) :: st) (σ) := lc_get 3 2 2 (by decide) rfl lc_cX2 (by decide) rfl hl hd kk
theorem lc_gw_seed (j : Nat) (hj : j < 3) (hl : lc_fl own idx (TX2 2)) (hd : decode cc pc = .ok (.getfield idx, 3)) (kk : lc_V G Γ cc nL own (pc + 3) lv (.int (σ.2.1 10 3) :: st) (lc_w σ j x)) : lc_V G Γ cc nL own (pc) lv (.ref (G.1 3) :: st) (lc_w σ j x) := lc_g_seed hl hd (by rw [lc_w_on σ x (show 10 ≠ j by omega)]; exact kk)
theorem lc_p_seed {v : Int32} (hl : lc_fl own idx (TX2 2)) (hd : decode cc pc = .ok (.putfield idx, 3)) (kk : lc_V G Γ cc nL own (pc + 3) lv (st) (lc_uo σ 10 3 v)) : lc_V G Γ cc nL own (pc) lv (.int v :: .ref (G.1 3) :: st) (σ) := lc_put (lc_uo σ 10 3 v) 3 2 2 tyX2 (ty := .int) tyX2_ok nmX2 (by decide) (fs := _) rfl lc_cX2 (by decide) rfl (by decide +kernel) rfl rfl (Nat.le_of_ble_eq_true rfl) rfl (lc_h3 _ (fun k hk hne => by
    match k, hk, hne with
    | 0, _, hne => first | rfl | exact absurd rfl hne
    | 1, _, hne => first | rfl | exact absurd rfl hne
    | 2, _, hne => first | rfl | exact absurd rfl hne
    | 3, _, hne => first | rfl | exact absurd rfl hne
    | 4, _, hne => first | rfl | exact absurd rfl hne
    | 5, _, hne => first | rfl | exact absurd rfl hne
    | 6, _, hne => first | rfl | exact absurd rfl hne
    | 7, _, hne => first | rfl | exact absurd rfl hne
    | 8, _, hne => first | rfl | exact absurd rfl hne
    | 9, _, hne => first | rfl | exact absurd rfl hne
    | 10, _, hne => first | rfl | exact absurd rfl hne
    | 11, _, hne => first | rfl | exact absurd rfl hne
    | 12, _, hne => first | rfl | exact absurd rfl hne
    | 13, _, hne => first | rfl | exact absurd rfl hne
    | 14, _, hne => first | rfl | exact absurd rfl hne
    | 15, _, hne => first | rfl | exact absurd rfl hne
    | 16, _, hne => first | rfl | exact absurd rfl hne
    | 17, _, hne => first | rfl | exact absurd rfl hne
    | 18, _, hne => first | rfl | exact absurd rfl hne
    | 19, _, hne => first | rfl | exact absurd rfl hne
    | 20, _, hne => first | rfl | exact absurd rfl hne
    | 21, _, hne => first | rfl | exact absurd rfl hne
    | 22, _, hne => first | rfl | exact absurd rfl hne
    | 23, _, hne => first | rfl | exact absurd rfl hne
    | 24, _, hne => first | rfl | exact absurd rfl hne
    | 25, _, hne => first | rfl | exact absurd rfl hne
    | k + 26, hk, _ => exact absurd hk (by omega)) (fun a b _ _ g hg => rfl)) hl hd kk
theorem lc_pw_seed {v : Int32} (j : Nat) (hj : j < 3) (hl : lc_fl own idx (TX2 2)) (hd : decode cc pc = .ok (.putfield idx, 3)) (kk : lc_V G Γ cc nL own (pc + 3) lv (st) (lc_w (lc_uo σ 10 3 v) j x)) : lc_V G Γ cc nL own (pc) lv (.int v :: .ref (G.1 3) :: st) (lc_w σ j x) := lc_p_seed hl hd (by rw [lc_uo_w σ 3 v x (show 10 ≠ j by omega)]; exact kk)
theorem lc_g_mlen (hl : lc_fl own idx (TX5 0)) (hd : decode cc pc = .ok (.getfield idx, 3)) (kk : lc_V G Γ cc nL own (pc + 3) lv (.int (σ.2.1 12 0) :: st) (σ)) : lc_V G Γ cc nL own (pc) lv (.ref (G.1 14) :: st) (σ) := lc_get 14 5 0 (by decide) rfl lc_cX5 (by decide) rfl hl hd kk
theorem lc_gw_mlen (j : Nat) (hj : j < 3) (hl : lc_fl own idx (TX5 0)) (hd : decode cc pc = .ok (.getfield idx, 3)) (kk : lc_V G Γ cc nL own (pc + 3) lv (.int (σ.2.1 12 0) :: st) (lc_w σ j x)) : lc_V G Γ cc nL own (pc) lv (.ref (G.1 14) :: st) (lc_w σ j x) := lc_g_mlen hl hd (by rw [lc_w_on σ x (show 12 ≠ j by omega)]; exact kk)
theorem lc_p_mlen {v : Int32} (hl : lc_fl own idx (TX5 0)) (hd : decode cc pc = .ok (.putfield idx, 3)) (kk : lc_V G Γ cc nL own (pc + 3) lv (st) (lc_uo σ 12 0 v)) : lc_V G Γ cc nL own (pc) lv (.int v :: .ref (G.1 14) :: st) (σ) := lc_put (lc_uo σ 12 0 v) 14 5 0 tyX5 (ty := .int) tyX5_ok nmX5 (by decide) (fs := _) rfl lc_cX5 (by decide) rfl (by decide +kernel) rfl rfl (Nat.le_of_ble_eq_true rfl) rfl (lc_h3 _ (fun k hk hne => by
    match k, hk, hne with
    | 0, _, hne => first | rfl | exact absurd rfl hne
    | 1, _, hne => first | rfl | exact absurd rfl hne
    | 2, _, hne => first | rfl | exact absurd rfl hne
    | 3, _, hne => first | rfl | exact absurd rfl hne
    | 4, _, hne => first | rfl | exact absurd rfl hne
    | 5, _, hne => first | rfl | exact absurd rfl hne
    | 6, _, hne => first | rfl | exact absurd rfl hne
    | 7, _, hne => first | rfl | exact absurd rfl hne
    | 8, _, hne => first | rfl | exact absurd rfl hne
    | 9, _, hne => first | rfl | exact absurd rfl hne
    | 10, _, hne => first | rfl | exact absurd rfl hne
    | 11, _, hne => first | rfl | exact absurd rfl hne
    | 12, _, hne => first | rfl | exact absurd rfl hne
    | 13, _, hne => first | rfl | exact absurd rfl hne
    | 14, _, hne => first | rfl | exact absurd rfl hne
    | 15, _, hne => first | rfl | exact absurd rfl hne
    | 16, _, hne => first | rfl | exact absurd rfl hne
    | 17, _, hne => first | rfl | exact absurd rfl hne
    | 18, _, hne => first | rfl | exact absurd rfl hne
    | 19, _, hne => first | rfl | exact absurd rfl hne
    | 20, _, hne => first | rfl | exact absurd rfl hne
    | 21, _, hne => first | rfl | exact absurd rfl hne
    | 22, _, hne => first | rfl | exact absurd rfl hne
    | 23, _, hne => first | rfl | exact absurd rfl hne
    | 24, _, hne => first | rfl | exact absurd rfl hne
    | 25, _, hne => first | rfl | exact absurd rfl hne
    | k + 26, hk, _ => exact absurd hk (by omega)) (fun a b _ _ g hg => rfl)) hl hd kk
theorem lc_pw_mlen {v : Int32} (j : Nat) (hj : j < 3) (hl : lc_fl own idx (TX5 0)) (hd : decode cc pc = .ok (.putfield idx, 3)) (kk : lc_V G Γ cc nL own (pc + 3) lv (st) (lc_w (lc_uo σ 12 0 v) j x)) : lc_V G Γ cc nL own (pc) lv (.int v :: .ref (G.1 14) :: st) (lc_w σ j x) := lc_p_mlen hl hd (by rw [lc_uo_w σ 0 v x (show 12 ≠ j by omega)]; exact kk)
theorem lc_g_mlines (hl : lc_fl own idx (TX5 9)) (hd : decode cc pc = .ok (.getfield idx, 3)) (kk : lc_V G Γ cc nL own (pc + 3) lv (.int (σ.2.1 12 1) :: st) (σ)) : lc_V G Γ cc nL own (pc) lv (.ref (G.1 14) :: st) (σ) := lc_get 14 5 9 (by decide) rfl lc_cX5 (by decide) rfl hl hd kk
theorem lc_gw_mlines (j : Nat) (hj : j < 3) (hl : lc_fl own idx (TX5 9)) (hd : decode cc pc = .ok (.getfield idx, 3)) (kk : lc_V G Γ cc nL own (pc + 3) lv (.int (σ.2.1 12 1) :: st) (lc_w σ j x)) : lc_V G Γ cc nL own (pc) lv (.ref (G.1 14) :: st) (lc_w σ j x) := lc_g_mlines hl hd (by rw [lc_w_on σ x (show 12 ≠ j by omega)]; exact kk)
theorem lc_p_mlines {v : Int32} (hl : lc_fl own idx (TX5 9)) (hd : decode cc pc = .ok (.putfield idx, 3)) (kk : lc_V G Γ cc nL own (pc + 3) lv (st) (lc_uo σ 12 1 v)) : lc_V G Γ cc nL own (pc) lv (.int v :: .ref (G.1 14) :: st) (σ) := lc_put (lc_uo σ 12 1 v) 14 5 9 tyX5 (ty := .int) tyX5_ok nmX5 (by decide) (fs := _) rfl lc_cX5 (by decide) rfl (by decide +kernel) rfl rfl (Nat.le_of_ble_eq_true rfl) rfl (lc_h3 _ (fun k hk hne => by
    match k, hk, hne with
    | 0, _, hne => first | rfl | exact absurd rfl hne
    | 1, _, hne => first | rfl | exact absurd rfl hne
    | 2, _, hne => first | rfl | exact absurd rfl hne
    | 3, _, hne => first | rfl | exact absurd rfl hne
    | 4, _, hne => first | rfl | exact absurd rfl hne
    | 5, _, hne => first | rfl | exact absurd rfl hne
    | 6, _, hne => first | rfl | exact absurd rfl hne
    | 7, _, hne => first | rfl | exact absurd rfl hne
    | 8, _, hne => first | rfl | exact absurd rfl hne
    | 9, _, hne => first | rfl | exact absurd rfl hne
    | 10, _, hne => first | rfl | exact absurd rfl hne
    | 11, _, hne => first | rfl | exact absurd rfl hne
    | 12, _, hne => first | rfl | exact absurd rfl hne
    | 13, _, hne => first | rfl | exact absurd rfl hne
    | 14, _, hne => first | rfl | exact absurd rfl hne
    | 15, _, hne => first | rfl | exact absurd rfl hne
    | 16, _, hne => first | rfl | exact absurd rfl hne
    | 17, _, hne => first | rfl | exact absurd rfl hne
    | 18, _, hne => first | rfl | exact absurd rfl hne
    | 19, _, hne => first | rfl | exact absurd rfl hne
    | 20, _, hne => first | rfl | exact absurd rfl hne
    | 21, _, hne => first | rfl | exact absurd rfl hne
    | 22, _, hne => first | rfl | exact absurd rfl hne
    | 23, _, hne => first | rfl | exact absurd rfl hne
    | 24, _, hne => first | rfl | exact absurd rfl hne
    | 25, _, hne => first | rfl | exact absurd rfl hne
    | k + 26, hk, _ => exact absurd hk (by omega)) (fun a b _ _ g hg => rfl)) hl hd kk
theorem lc_pw_mlines {v : Int32} (j : Nat) (hj : j < 3) (hl : lc_fl own idx (TX5 9)) (hd : decode cc pc = .ok (.putfield idx, 3)) (kk : lc_V G Γ cc nL own (pc + 3) lv (st) (lc_w (lc_uo σ 12 1 v) j x)) : lc_V G Γ cc nL own (pc) lv (.int v :: .ref (G.1 14) :: st) (lc_w σ j x) := lc_p_mlines hl hd (by rw [lc_uo_w σ 1 v x (show 12 ≠ j by omega)]; exact kk)
theorem lc_g_mrnd (hl : lc_fl own idx (TX5 20)) (hd : decode cc pc = .ok (.getfield idx, 3)) (kk : lc_V G Γ cc nL own (pc + 3) lv (.int (σ.2.1 12 2) :: st) (σ)) : lc_V G Γ cc nL own (pc) lv (.ref (G.1 14) :: st) (σ) := lc_get 14 5 20 (by decide) rfl lc_cX5 (by decide) rfl hl hd kk
theorem lc_gw_mrnd (j : Nat) (hj : j < 3) (hl : lc_fl own idx (TX5 20)) (hd : decode cc pc = .ok (.getfield idx, 3)) (kk : lc_V G Γ cc nL own (pc + 3) lv (.int (σ.2.1 12 2) :: st) (lc_w σ j x)) : lc_V G Γ cc nL own (pc) lv (.ref (G.1 14) :: st) (lc_w σ j x) := lc_g_mrnd hl hd (by rw [lc_w_on σ x (show 12 ≠ j by omega)]; exact kk)
theorem lc_p_mrnd {v : Int32} (hl : lc_fl own idx (TX5 20)) (hd : decode cc pc = .ok (.putfield idx, 3)) (kk : lc_V G Γ cc nL own (pc + 3) lv (st) (lc_uo σ 12 2 v)) : lc_V G Γ cc nL own (pc) lv (.int v :: .ref (G.1 14) :: st) (σ) := lc_put (lc_uo σ 12 2 v) 14 5 20 tyX5 (ty := .int) tyX5_ok nmX5 (by decide) (fs := _) rfl lc_cX5 (by decide) rfl (by decide +kernel) rfl rfl (Nat.le_of_ble_eq_true rfl) rfl (lc_h3 _ (fun k hk hne => by
    match k, hk, hne with
    | 0, _, hne => first | rfl | exact absurd rfl hne
    | 1, _, hne => first | rfl | exact absurd rfl hne
    | 2, _, hne => first | rfl | exact absurd rfl hne
    | 3, _, hne => first | rfl | exact absurd rfl hne
    | 4, _, hne => first | rfl | exact absurd rfl hne
    | 5, _, hne => first | rfl | exact absurd rfl hne
    | 6, _, hne => first | rfl | exact absurd rfl hne
    | 7, _, hne => first | rfl | exact absurd rfl hne
    | 8, _, hne => first | rfl | exact absurd rfl hne
    | 9, _, hne => first | rfl | exact absurd rfl hne
    | 10, _, hne => first | rfl | exact absurd rfl hne
    | 11, _, hne => first | rfl | exact absurd rfl hne
    | 12, _, hne => first | rfl | exact absurd rfl hne
    | 13, _, hne => first | rfl | exact absurd rfl hne
    | 14, _, hne => first | rfl | exact absurd rfl hne
    | 15, _, hne => first | rfl | exact absurd rfl hne
    | 16, _, hne => first | rfl | exact absurd rfl hne
    | 17, _, hne => first | rfl | exact absurd rfl hne
    | 18, _, hne => first | rfl | exact absurd rfl hne
    | 19, _, hne => first | rfl | exact absurd rfl hne
    | 20, _, hne => first | rfl | exact absurd rfl hne
    | 21, _, hne => first | rfl | exact absurd rfl hne
    | 22, _, hne => first | rfl | exact absurd rfl hne
    | 23, _, hne => first | rfl | exact absurd rfl hne
    | 24, _, hne => first | rfl | exact absurd rfl hne
    | 25, _, hne => first | rfl | exact absurd rfl hne
    | k + 26, hk, _ => exact absurd hk (by omega)) (fun a b _ _ g hg => rfl)) hl hd kk
theorem lc_pw_mrnd {v : Int32} (j : Nat) (hj : j < 3) (hl : lc_fl own idx (TX5 20)) (hd : decode cc pc = .ok (.putfield idx, 3)) (kk : lc_V G Γ cc nL own (pc + 3) lv (st) (lc_w (lc_uo σ 12 2 v) j x)) : lc_V G Γ cc nL own (pc) lv (.int v :: .ref (G.1 14) :: st) (lc_w σ j x) := lc_p_mrnd hl hd (by rw [lc_uo_w σ 2 v x (show 12 ≠ j by omega)]; exact kk)
theorem lc_g_mspent (hl : lc_fl own idx (TX5 21)) (hd : decode cc pc = .ok (.getfield idx, 3)) (kk : lc_V G Γ cc nL own (pc + 3) lv (.int (σ.2.1 12 3) :: st) (σ)) : lc_V G Γ cc nL own (pc) lv (.ref (G.1 14) :: st) (σ) := lc_get 14 5 21 (by decide) rfl lc_cX5 (by decide) rfl hl hd kk
theorem lc_gw_mspent (j : Nat) (hj : j < 3) (hl : lc_fl own idx (TX5 21)) (hd : decode cc pc = .ok (.getfield idx, 3)) (kk : lc_V G Γ cc nL own (pc + 3) lv (.int (σ.2.1 12 3) :: st) (lc_w σ j x)) : lc_V G Γ cc nL own (pc) lv (.ref (G.1 14) :: st) (lc_w σ j x) := lc_g_mspent hl hd (by rw [lc_w_on σ x (show 12 ≠ j by omega)]; exact kk)
theorem lc_p_mspent {v : Int32} (hl : lc_fl own idx (TX5 21)) (hd : decode cc pc = .ok (.putfield idx, 3)) (kk : lc_V G Γ cc nL own (pc + 3) lv (st) (lc_uo σ 12 3 v)) : lc_V G Γ cc nL own (pc) lv (.int v :: .ref (G.1 14) :: st) (σ) := lc_put (lc_uo σ 12 3 v) 14 5 21 tyX5 (ty := .int) tyX5_ok nmX5 (by decide) (fs := _) rfl lc_cX5 (by decide) rfl (by decide +kernel) rfl rfl (Nat.le_of_ble_eq_true rfl) rfl (lc_h3 _ (fun k hk hne => by
    match k, hk, hne with
    | 0, _, hne => first | rfl | exact absurd rfl hne
    | 1, _, hne => first | rfl | exact absurd rfl hne
    | 2, _, hne => first | rfl | exact absurd rfl hne
    | 3, _, hne => first | rfl | exact absurd rfl hne
    | 4, _, hne => first | rfl | exact absurd rfl hne
    | 5, _, hne => first | rfl | exact absurd rfl hne
    | 6, _, hne => first | rfl | exact absurd rfl hne
    | 7, _, hne => first | rfl | exact absurd rfl hne
    | 8, _, hne => first | rfl | exact absurd rfl hne
    | 9, _, hne => first | rfl | exact absurd rfl hne
    | 10, _, hne => first | rfl | exact absurd rfl hne
    | 11, _, hne => first | rfl | exact absurd rfl hne
    | 12, _, hne => first | rfl | exact absurd rfl hne
    | 13, _, hne => first | rfl | exact absurd rfl hne
    | 14, _, hne => first | rfl | exact absurd rfl hne
    | 15, _, hne => first | rfl | exact absurd rfl hne
    | 16, _, hne => first | rfl | exact absurd rfl hne
    | 17, _, hne => first | rfl | exact absurd rfl hne
    | 18, _, hne => first | rfl | exact absurd rfl hne
    | 19, _, hne => first | rfl | exact absurd rfl hne
    | 20, _, hne => first | rfl | exact absurd rfl hne
    | 21, _, hne => first | rfl | exact absurd rfl hne
    | 22, _, hne => first | rfl | exact absurd rfl hne
    | 23, _, hne => first | rfl | exact absurd rfl hne
    | 24, _, hne => first | rfl | exact absurd rfl hne
    | 25, _, hne => first | rfl | exact absurd rfl hne
    | k + 26, hk, _ => exact absurd hk (by omega)) (fun a b _ _ g hg => rfl)) hl hd kk
theorem lc_pw_mspent {v : Int32} (j : Nat) (hj : j < 3) (hl : lc_fl own idx (TX5 21)) (hd : decode cc pc = .ok (.putfield idx, 3)) (kk : lc_V G Γ cc nL own (pc + 3) lv (st) (lc_w (lc_uo σ 12 3 v) j x)) : lc_V G Γ cc nL own (pc) lv (.int v :: .ref (G.1 14) :: st) (lc_w σ j x) := lc_p_mspent hl hd (by rw [lc_uo_w σ 3 v x (show 12 ≠ j by omega)]; exact kk)
theorem lc_g_page (hl : lc_fl own idx (TX4 0)) (hd : decode cc pc = .ok (.getfield idx, 3)) (kk : lc_V G Γ cc nL own (pc + 3) lv (.ref (G.1 1) :: st) (σ)) : lc_V G Γ cc nL own (pc) lv (.ref (G.1 0) :: st) (σ) := lc_get 0 4 0 (by decide) rfl lc_cX4 (by decide) rfl hl hd kk
theorem lc_g_world (hl : lc_fl own idx (TX4 1)) (hd : decode cc pc = .ok (.getfield idx, 3)) (kk : lc_V G Γ cc nL own (pc + 3) lv (.ref (G.1 4) :: st) (σ)) : lc_V G Γ cc nL own (pc) lv (.ref (G.1 0) :: st) (σ) := lc_get 0 4 1 (by decide) rfl lc_cX4 (by decide) rfl hl hd kk
theorem lc_g_settling (hl : lc_fl own idx (TX4 2)) (hd : decode cc pc = .ok (.getfield idx, 3)) (kk : lc_V G Γ cc nL own (pc + 3) lv (.ref (G.1 3) :: st) (σ)) : lc_V G Γ cc nL own (pc) lv (.ref (G.1 0) :: st) (σ) := lc_get 0 4 2 (by decide) rfl lc_cX4 (by decide) rfl hl hd kk
theorem lc_g_codes (hl : lc_fl own idx (TX1 0)) (hd : decode cc pc = .ok (.getfield idx, 3)) (kk : lc_V G Γ cc nL own (pc + 3) lv (.ref (G.1 2) :: st) (σ)) : lc_V G Γ cc nL own (pc) lv (.ref (G.1 1) :: st) (σ) := lc_get 1 1 0 (by decide) rfl lc_cX1 (by decide) rfl hl hd kk
theorem lc_g_trial (hl : lc_fl own idx (TX2 0)) (hd : decode cc pc = .ok (.getfield idx, 3)) (kk : lc_V G Γ cc nL own (pc + 3) lv (.ref (G.1 5) :: st) (σ)) : lc_V G Γ cc nL own (pc) lv (.ref (G.1 3) :: st) (σ) := lc_get 3 2 0 (by decide) rfl lc_cX2 (by decide) rfl hl hd kk
theorem lc_g_mpage (hl : lc_fl own idx (TX5 1)) (hd : decode cc pc = .ok (.getfield idx, 3)) (kk : lc_V G Γ cc nL own (pc + 3) lv (.ref (G.1 15) :: st) (σ)) : lc_V G Γ cc nL own (pc) lv (.ref (G.1 14) :: st) (σ) := lc_get 14 5 1 (by decide) rfl lc_cX5 (by decide) rfl hl hd kk
theorem lc_g_mpos (hl : lc_fl own idx (TX5 3)) (hd : decode cc pc = .ok (.getfield idx, 3)) (kk : lc_V G Γ cc nL own (pc + 3) lv (.ref (G.1 16) :: st) (σ)) : lc_V G Γ cc nL own (pc) lv (.ref (G.1 14) :: st) (σ) := lc_get 14 5 3 (by decide) rfl lc_cX5 (by decide) rfl hl hd kk
theorem lc_g_mtold (hl : lc_fl own idx (TX5 10)) (hd : decode cc pc = .ok (.getfield idx, 3)) (kk : lc_V G Γ cc nL own (pc + 3) lv (.ref (G.1 17) :: st) (σ)) : lc_V G Γ cc nL own (pc) lv (.ref (G.1 14) :: st) (σ) := lc_get 14 5 10 (by decide) rfl lc_cX5 (by decide) rfl hl hd kk
theorem lc_g_msort (hl : lc_fl own idx (TX5 11)) (hd : decode cc pc = .ok (.getfield idx, 3)) (kk : lc_V G Γ cc nL own (pc + 3) lv (.ref (G.1 18) :: st) (σ)) : lc_V G Γ cc nL own (pc) lv (.ref (G.1 14) :: st) (σ) := lc_get 14 5 11 (by decide) rfl lc_cX5 (by decide) rfl hl hd kk
theorem lc_g_mvalue (hl : lc_fl own idx (TX5 12)) (hd : decode cc pc = .ok (.getfield idx, 3)) (kk : lc_V G Γ cc nL own (pc + 3) lv (.ref (G.1 19) :: st) (σ)) : lc_V G Γ cc nL own (pc) lv (.ref (G.1 14) :: st) (σ) := lc_get 14 5 12 (by decide) rfl lc_cX5 (by decide) rfl hl hd kk
theorem lc_g_mstamp (hl : lc_fl own idx (TX5 13)) (hd : decode cc pc = .ok (.getfield idx, 3)) (kk : lc_V G Γ cc nL own (pc + 3) lv (.ref (G.1 20) :: st) (σ)) : lc_V G Γ cc nL own (pc) lv (.ref (G.1 14) :: st) (σ) := lc_get 14 5 13 (by decide) rfl lc_cX5 (by decide) rfl hl hd kk
theorem lc_g_mactive (hl : lc_fl own idx (TX5 14)) (hd : decode cc pc = .ok (.getfield idx, 3)) (kk : lc_V G Γ cc nL own (pc + 3) lv (.ref (G.1 21) :: st) (σ)) : lc_V G Γ cc nL own (pc) lv (.ref (G.1 14) :: st) (σ) := lc_get 14 5 14 (by decide) rfl lc_cX5 (by decide) rfl hl hd kk
theorem lc_g_mkeepers (hl : lc_fl own idx (TX5 15)) (hd : decode cc pc = .ok (.getfield idx, 3)) (kk : lc_V G Γ cc nL own (pc + 3) lv (.ref (G.1 22) :: st) (σ)) : lc_V G Γ cc nL own (pc) lv (.ref (G.1 14) :: st) (σ) := lc_get 14 5 15 (by decide) rfl lc_cX5 (by decide) rfl hl hd kk
theorem lc_g_mheat (hl : lc_fl own idx (TX5 16)) (hd : decode cc pc = .ok (.getfield idx, 3)) (kk : lc_V G Γ cc nL own (pc + 3) lv (.ref (G.1 23) :: st) (σ)) : lc_V G Γ cc nL own (pc) lv (.ref (G.1 14) :: st) (σ) := lc_get 14 5 16 (by decide) rfl lc_cX5 (by decide) rfl hl hd kk
theorem lc_g_mlatest (hl : lc_fl own idx (TX5 17)) (hd : decode cc pc = .ok (.getfield idx, 3)) (kk : lc_V G Γ cc nL own (pc + 3) lv (.ref (G.1 24) :: st) (σ)) : lc_V G Γ cc nL own (pc) lv (.ref (G.1 14) :: st) (σ) := lc_get 14 5 17 (by decide) rfl lc_cX5 (by decide) rfl hl hd kk
theorem lc_g_msaved (hl : lc_fl own idx (TX5 19)) (hd : decode cc pc = .ok (.getfield idx, 3)) (kk : lc_V G Γ cc nL own (pc + 3) lv (.ref (G.1 25) :: st) (σ)) : lc_V G Γ cc nL own (pc) lv (.ref (G.1 14) :: st) (σ) := lc_get 14 5 19 (by decide) rfl lc_cX5 (by decide) rfl hl hd kk
theorem lc_g_mseed (hl : lc_fl own idx (TX5 18)) (hd : decode cc pc = .ok (.getfield idx, 3)) (kk : lc_V G Γ cc nL own (pc + 3) lv (.long (σ.2.2 0) :: st) (lc_w σ 2 x)) : lc_V G Γ cc nL own (pc) lv (.ref (G.1 14) :: st) (lc_w σ 2 x) := lc_get 14 5 18 (by decide) rfl lc_cX5 (by decide) rfl hl hd kk
theorem lc_p_mseed {v : Int64} (hl : lc_fl own idx (TX5 18)) (hd : decode cc pc = .ok (.putfield idx, 3)) (kk : lc_V G Γ cc nL own (pc + 3) lv (st) (lc_w (lc_ul σ 0 v) 2 x)) : lc_V G Γ cc nL own (pc) lv (.long v :: .ref (G.1 14) :: st) (lc_w σ 2 x) := lc_put (lc_w (lc_ul σ 0 v) 2 x) 14 5 18 tyX5 (ty := .long) tyX5_ok nmX5 (by decide) (fs := _) rfl lc_cX5 (by decide) rfl (by decide +kernel) rfl rfl (Nat.le_of_ble_eq_true rfl) rfl (lc_h3 _ (fun k hk hne => by
    match k, hk, hne with
    | 0, _, hne => first | rfl | exact absurd rfl hne
    | 1, _, hne => first | rfl | exact absurd rfl hne
    | 2, _, hne => first | rfl | exact absurd rfl hne
    | 3, _, hne => first | rfl | exact absurd rfl hne
    | 4, _, hne => first | rfl | exact absurd rfl hne
    | 5, _, hne => first | rfl | exact absurd rfl hne
    | 6, _, hne => first | rfl | exact absurd rfl hne
    | 7, _, hne => first | rfl | exact absurd rfl hne
    | 8, _, hne => first | rfl | exact absurd rfl hne
    | 9, _, hne => first | rfl | exact absurd rfl hne
    | 10, _, hne => first | rfl | exact absurd rfl hne
    | 11, _, hne => first | rfl | exact absurd rfl hne
    | 12, _, hne => first | rfl | exact absurd rfl hne
    | 13, _, hne => first | rfl | exact absurd rfl hne
    | 14, _, hne => first | rfl | exact absurd rfl hne
    | 15, _, hne => first | rfl | exact absurd rfl hne
    | 16, _, hne => first | rfl | exact absurd rfl hne
    | 17, _, hne => first | rfl | exact absurd rfl hne
    | 18, _, hne => first | rfl | exact absurd rfl hne
    | 19, _, hne => first | rfl | exact absurd rfl hne
    | 20, _, hne => first | rfl | exact absurd rfl hne
    | 21, _, hne => first | rfl | exact absurd rfl hne
    | 22, _, hne => first | rfl | exact absurd rfl hne
    | 23, _, hne => first | rfl | exact absurd rfl hne
    | 24, _, hne => first | rfl | exact absurd rfl hne
    | 25, _, hne => first | rfl | exact absurd rfl hne
    | k + 26, hk, _ => exact absurd hk (by omega)) (fun a b _ _ g hg => rfl)) hl hd kk
theorem lc_g_mh (hl : lc_fl own idx (TX5 22)) (hd : decode cc pc = .ok (.getfield idx, 3)) (kk : lc_V G Γ cc nL own (pc + 3) lv (.long (σ.2.2 1) :: st) (lc_w σ 2 x)) : lc_V G Γ cc nL own (pc) lv (.ref (G.1 14) :: st) (lc_w σ 2 x) := lc_get 14 5 22 (by decide) rfl lc_cX5 (by decide) rfl hl hd kk
theorem lc_p_mh {v : Int64} (hl : lc_fl own idx (TX5 22)) (hd : decode cc pc = .ok (.putfield idx, 3)) (kk : lc_V G Γ cc nL own (pc + 3) lv (st) (lc_w (lc_ul σ 1 v) 2 x)) : lc_V G Γ cc nL own (pc) lv (.long v :: .ref (G.1 14) :: st) (lc_w σ 2 x) := lc_put (lc_w (lc_ul σ 1 v) 2 x) 14 5 22 tyX5 (ty := .long) tyX5_ok nmX5 (by decide) (fs := _) rfl lc_cX5 (by decide) rfl (by decide +kernel) rfl rfl (Nat.le_of_ble_eq_true rfl) rfl (lc_h3 _ (fun k hk hne => by
    match k, hk, hne with
    | 0, _, hne => first | rfl | exact absurd rfl hne
    | 1, _, hne => first | rfl | exact absurd rfl hne
    | 2, _, hne => first | rfl | exact absurd rfl hne
    | 3, _, hne => first | rfl | exact absurd rfl hne
    | 4, _, hne => first | rfl | exact absurd rfl hne
    | 5, _, hne => first | rfl | exact absurd rfl hne
    | 6, _, hne => first | rfl | exact absurd rfl hne
    | 7, _, hne => first | rfl | exact absurd rfl hne
    | 8, _, hne => first | rfl | exact absurd rfl hne
    | 9, _, hne => first | rfl | exact absurd rfl hne
    | 10, _, hne => first | rfl | exact absurd rfl hne
    | 11, _, hne => first | rfl | exact absurd rfl hne
    | 12, _, hne => first | rfl | exact absurd rfl hne
    | 13, _, hne => first | rfl | exact absurd rfl hne
    | 14, _, hne => first | rfl | exact absurd rfl hne
    | 15, _, hne => first | rfl | exact absurd rfl hne
    | 16, _, hne => first | rfl | exact absurd rfl hne
    | 17, _, hne => first | rfl | exact absurd rfl hne
    | 18, _, hne => first | rfl | exact absurd rfl hne
    | 19, _, hne => first | rfl | exact absurd rfl hne
    | 20, _, hne => first | rfl | exact absurd rfl hne
    | 21, _, hne => first | rfl | exact absurd rfl hne
    | 22, _, hne => first | rfl | exact absurd rfl hne
    | 23, _, hne => first | rfl | exact absurd rfl hne
    | 24, _, hne => first | rfl | exact absurd rfl hne
    | 25, _, hne => first | rfl | exact absurd rfl hne
    | k + 26, hk, _ => exact absurd hk (by omega)) (fun a b _ _ g hg => rfl)) hl hd kk
theorem lc_gMSites (hl : lc_fl own idx (TX5 2)) (hd : decode cc pc = .ok (.getfield idx, 3)) (kk : lc_V G Γ cc nL own (pc + 3) lv (.int (x.1 7 0) :: st) (lc_w σ 2 x)) : lc_V G Γ cc nL own (pc) lv (.ref (G.1 14) :: st) (lc_w σ 2 x) := lc_get 14 5 2 (by decide) rfl lc_cX5 (by decide) rfl hl hd kk
theorem lc_pMSites {v : Int32} (hl : lc_fl own idx (TX5 2)) (hd : decode cc pc = .ok (.putfield idx, 3)) (kk : lc_V G Γ cc nL own (pc + 3) lv (st) (lc_w σ 2 (lc_cu x.1 7 0 v, x.2))) : lc_V G Γ cc nL own (pc) lv (.int v :: .ref (G.1 14) :: st) (lc_w σ 2 x) := lc_put (lc_w σ 2 (lc_cu x.1 7 0 v, x.2)) 14 5 2 tyX5 (ty := .int) tyX5_ok nmX5 (by decide) (fs := _) rfl lc_cX5 (by decide) rfl (by decide +kernel) rfl rfl (Nat.le_of_ble_eq_true rfl) rfl (lc_h3 _ (fun k hk hne => by
    match k, hk, hne with
    | 0, _, hne => first | rfl | exact absurd rfl hne
    | 1, _, hne => first | rfl | exact absurd rfl hne
    | 2, _, hne => first | rfl | exact absurd rfl hne
    | 3, _, hne => first | rfl | exact absurd rfl hne
    | 4, _, hne => first | rfl | exact absurd rfl hne
    | 5, _, hne => first | rfl | exact absurd rfl hne
    | 6, _, hne => first | rfl | exact absurd rfl hne
    | 7, _, hne => first | rfl | exact absurd rfl hne
    | 8, _, hne => first | rfl | exact absurd rfl hne
    | 9, _, hne => first | rfl | exact absurd rfl hne
    | 10, _, hne => first | rfl | exact absurd rfl hne
    | 11, _, hne => first | rfl | exact absurd rfl hne
    | 12, _, hne => first | rfl | exact absurd rfl hne
    | 13, _, hne => first | rfl | exact absurd rfl hne
    | 14, _, hne => first | rfl | exact absurd rfl hne
    | 15, _, hne => first | rfl | exact absurd rfl hne
    | 16, _, hne => first | rfl | exact absurd rfl hne
    | 17, _, hne => first | rfl | exact absurd rfl hne
    | 18, _, hne => first | rfl | exact absurd rfl hne
    | 19, _, hne => first | rfl | exact absurd rfl hne
    | 20, _, hne => first | rfl | exact absurd rfl hne
    | 21, _, hne => first | rfl | exact absurd rfl hne
    | 22, _, hne => first | rfl | exact absurd rfl hne
    | 23, _, hne => first | rfl | exact absurd rfl hne
    | 24, _, hne => first | rfl | exact absurd rfl hne
    | 25, _, hne => first | rfl | exact absurd rfl hne
    | k + 26, hk, _ => exact absurd hk (by omega)) (fun a b ha _ g hg => by
    have h2 : ¬ a = 2 := by omega
    simp [lc_w, h2])) hl hd kk
theorem lc_gMNow (hl : lc_fl own idx (TX5 4)) (hd : decode cc pc = .ok (.getfield idx, 3)) (kk : lc_V G Γ cc nL own (pc + 3) lv (.int (x.1 7 1) :: st) (lc_w σ 2 x)) : lc_V G Γ cc nL own (pc) lv (.ref (G.1 14) :: st) (lc_w σ 2 x) := lc_get 14 5 4 (by decide) rfl lc_cX5 (by decide) rfl hl hd kk
theorem lc_pMNow {v : Int32} (hl : lc_fl own idx (TX5 4)) (hd : decode cc pc = .ok (.putfield idx, 3)) (kk : lc_V G Γ cc nL own (pc + 3) lv (st) (lc_w σ 2 (lc_cu x.1 7 1 v, x.2))) : lc_V G Γ cc nL own (pc) lv (.int v :: .ref (G.1 14) :: st) (lc_w σ 2 x) := lc_put (lc_w σ 2 (lc_cu x.1 7 1 v, x.2)) 14 5 4 tyX5 (ty := .int) tyX5_ok nmX5 (by decide) (fs := _) rfl lc_cX5 (by decide) rfl (by decide +kernel) rfl rfl (Nat.le_of_ble_eq_true rfl) rfl (lc_h3 _ (fun k hk hne => by
    match k, hk, hne with
    | 0, _, hne => first | rfl | exact absurd rfl hne
    | 1, _, hne => first | rfl | exact absurd rfl hne
    | 2, _, hne => first | rfl | exact absurd rfl hne
    | 3, _, hne => first | rfl | exact absurd rfl hne
    | 4, _, hne => first | rfl | exact absurd rfl hne
    | 5, _, hne => first | rfl | exact absurd rfl hne
    | 6, _, hne => first | rfl | exact absurd rfl hne
    | 7, _, hne => first | rfl | exact absurd rfl hne
    | 8, _, hne => first | rfl | exact absurd rfl hne
    | 9, _, hne => first | rfl | exact absurd rfl hne
    | 10, _, hne => first | rfl | exact absurd rfl hne
    | 11, _, hne => first | rfl | exact absurd rfl hne
    | 12, _, hne => first | rfl | exact absurd rfl hne
    | 13, _, hne => first | rfl | exact absurd rfl hne
    | 14, _, hne => first | rfl | exact absurd rfl hne
    | 15, _, hne => first | rfl | exact absurd rfl hne
    | 16, _, hne => first | rfl | exact absurd rfl hne
    | 17, _, hne => first | rfl | exact absurd rfl hne
    | 18, _, hne => first | rfl | exact absurd rfl hne
    | 19, _, hne => first | rfl | exact absurd rfl hne
    | 20, _, hne => first | rfl | exact absurd rfl hne
    | 21, _, hne => first | rfl | exact absurd rfl hne
    | 22, _, hne => first | rfl | exact absurd rfl hne
    | 23, _, hne => first | rfl | exact absurd rfl hne
    | 24, _, hne => first | rfl | exact absurd rfl hne
    | 25, _, hne => first | rfl | exact absurd rfl hne
    | k + 26, hk, _ => exact absurd hk (by omega)) (fun a b ha _ g hg => by
    have h2 : ¬ a = 2 := by omega
    simp [lc_w, h2])) hl hd kk
theorem lc_gMOff (hl : lc_fl own idx (TX5 5)) (hd : decode cc pc = .ok (.getfield idx, 3)) (kk : lc_V G Γ cc nL own (pc + 3) lv (.int (x.1 7 2) :: st) (lc_w σ 2 x)) : lc_V G Γ cc nL own (pc) lv (.ref (G.1 14) :: st) (lc_w σ 2 x) := lc_get 14 5 5 (by decide) rfl lc_cX5 (by decide) rfl hl hd kk
theorem lc_pMOff {v : Int32} (hl : lc_fl own idx (TX5 5)) (hd : decode cc pc = .ok (.putfield idx, 3)) (kk : lc_V G Γ cc nL own (pc + 3) lv (st) (lc_w σ 2 (lc_cu x.1 7 2 v, x.2))) : lc_V G Γ cc nL own (pc) lv (.int v :: .ref (G.1 14) :: st) (lc_w σ 2 x) := lc_put (lc_w σ 2 (lc_cu x.1 7 2 v, x.2)) 14 5 5 tyX5 (ty := .int) tyX5_ok nmX5 (by decide) (fs := _) rfl lc_cX5 (by decide) rfl (by decide +kernel) rfl rfl (Nat.le_of_ble_eq_true rfl) rfl (lc_h3 _ (fun k hk hne => by
    match k, hk, hne with
    | 0, _, hne => first | rfl | exact absurd rfl hne
    | 1, _, hne => first | rfl | exact absurd rfl hne
    | 2, _, hne => first | rfl | exact absurd rfl hne
    | 3, _, hne => first | rfl | exact absurd rfl hne
    | 4, _, hne => first | rfl | exact absurd rfl hne
    | 5, _, hne => first | rfl | exact absurd rfl hne
    | 6, _, hne => first | rfl | exact absurd rfl hne
    | 7, _, hne => first | rfl | exact absurd rfl hne
    | 8, _, hne => first | rfl | exact absurd rfl hne
    | 9, _, hne => first | rfl | exact absurd rfl hne
    | 10, _, hne => first | rfl | exact absurd rfl hne
    | 11, _, hne => first | rfl | exact absurd rfl hne
    | 12, _, hne => first | rfl | exact absurd rfl hne
    | 13, _, hne => first | rfl | exact absurd rfl hne
    | 14, _, hne => first | rfl | exact absurd rfl hne
    | 15, _, hne => first | rfl | exact absurd rfl hne
    | 16, _, hne => first | rfl | exact absurd rfl hne
    | 17, _, hne => first | rfl | exact absurd rfl hne
    | 18, _, hne => first | rfl | exact absurd rfl hne
    | 19, _, hne => first | rfl | exact absurd rfl hne
    | 20, _, hne => first | rfl | exact absurd rfl hne
    | 21, _, hne => first | rfl | exact absurd rfl hne
    | 22, _, hne => first | rfl | exact absurd rfl hne
    | 23, _, hne => first | rfl | exact absurd rfl hne
    | 24, _, hne => first | rfl | exact absurd rfl hne
    | 25, _, hne => first | rfl | exact absurd rfl hne
    | k + 26, hk, _ => exact absurd hk (by omega)) (fun a b ha _ g hg => by
    have h2 : ¬ a = 2 := by omega
    simp [lc_w, h2])) hl hd kk
theorem lc_gMTra (hl : lc_fl own idx (TX5 6)) (hd : decode cc pc = .ok (.getfield idx, 3)) (kk : lc_V G Γ cc nL own (pc + 3) lv (.int (σ.2.1 2 0 + x.2.1) :: st) (lc_w σ 2 x)) : lc_V G Γ cc nL own (pc) lv (.ref (G.1 14) :: st) (lc_w σ 2 x) := lc_get 14 5 6 (by decide) rfl lc_cX5 (by decide) rfl hl hd kk
theorem lc_pMTra {v : Int32} (t : Int32) (hv : v = σ.2.1 2 0 + t) (hl : lc_fl own idx (TX5 6)) (hd : decode cc pc = .ok (.putfield idx, 3)) (kk : lc_V G Γ cc nL own (pc + 3) lv (st) (lc_w σ 2 (x.1, t, x.2.2.1, x.2.2.2))) : lc_V G Γ cc nL own (pc) lv (.int v :: .ref (G.1 14) :: st) (lc_w σ 2 x) := by
  subst hv
  exact lc_put (lc_w σ 2 (x.1, t, x.2.2.1, x.2.2.2)) 14 5 6 tyX5 (ty := .int) tyX5_ok nmX5 (by decide) (fs := _) rfl lc_cX5 (by decide) rfl (by decide +kernel) rfl rfl (Nat.le_of_ble_eq_true rfl) rfl (lc_h3 _ (fun k hk hne => by
    match k, hk, hne with
    | 0, _, hne => first | rfl | exact absurd rfl hne
    | 1, _, hne => first | rfl | exact absurd rfl hne
    | 2, _, hne => first | rfl | exact absurd rfl hne
    | 3, _, hne => first | rfl | exact absurd rfl hne
    | 4, _, hne => first | rfl | exact absurd rfl hne
    | 5, _, hne => first | rfl | exact absurd rfl hne
    | 6, _, hne => first | rfl | exact absurd rfl hne
    | 7, _, hne => first | rfl | exact absurd rfl hne
    | 8, _, hne => first | rfl | exact absurd rfl hne
    | 9, _, hne => first | rfl | exact absurd rfl hne
    | 10, _, hne => first | rfl | exact absurd rfl hne
    | 11, _, hne => first | rfl | exact absurd rfl hne
    | 12, _, hne => first | rfl | exact absurd rfl hne
    | 13, _, hne => first | rfl | exact absurd rfl hne
    | 14, _, hne => first | rfl | exact absurd rfl hne
    | 15, _, hne => first | rfl | exact absurd rfl hne
    | 16, _, hne => first | rfl | exact absurd rfl hne
    | 17, _, hne => first | rfl | exact absurd rfl hne
    | 18, _, hne => first | rfl | exact absurd rfl hne
    | 19, _, hne => first | rfl | exact absurd rfl hne
    | 20, _, hne => first | rfl | exact absurd rfl hne
    | 21, _, hne => first | rfl | exact absurd rfl hne
    | 22, _, hne => first | rfl | exact absurd rfl hne
    | 23, _, hne => first | rfl | exact absurd rfl hne
    | 24, _, hne => first | rfl | exact absurd rfl hne
    | 25, _, hne => first | rfl | exact absurd rfl hne
    | k + 26, hk, _ => exact absurd hk (by omega)) (fun a b ha _ g hg => by
    have h2 : ¬ a = 2 := by omega
    simp [lc_w, h2])) hl hd kk
theorem lc_gMWok (hl : lc_fl own idx (TX5 7)) (hd : decode cc pc = .ok (.getfield idx, 3)) (kk : lc_V G Γ cc nL own (pc + 3) lv (.int (σ.2.1 2 1 + x.2.2.1) :: st) (lc_w σ 2 x)) : lc_V G Γ cc nL own (pc) lv (.ref (G.1 14) :: st) (lc_w σ 2 x) := lc_get 14 5 7 (by decide) rfl lc_cX5 (by decide) rfl hl hd kk
theorem lc_pMWok {v : Int32} (t : Int32) (hv : v = σ.2.1 2 1 + t) (hl : lc_fl own idx (TX5 7)) (hd : decode cc pc = .ok (.putfield idx, 3)) (kk : lc_V G Γ cc nL own (pc + 3) lv (st) (lc_w σ 2 (x.1, x.2.1, t, x.2.2.2))) : lc_V G Γ cc nL own (pc) lv (.int v :: .ref (G.1 14) :: st) (lc_w σ 2 x) := by
  subst hv
  exact lc_put (lc_w σ 2 (x.1, x.2.1, t, x.2.2.2)) 14 5 7 tyX5 (ty := .int) tyX5_ok nmX5 (by decide) (fs := _) rfl lc_cX5 (by decide) rfl (by decide +kernel) rfl rfl (Nat.le_of_ble_eq_true rfl) rfl (lc_h3 _ (fun k hk hne => by
    match k, hk, hne with
    | 0, _, hne => first | rfl | exact absurd rfl hne
    | 1, _, hne => first | rfl | exact absurd rfl hne
    | 2, _, hne => first | rfl | exact absurd rfl hne
    | 3, _, hne => first | rfl | exact absurd rfl hne
    | 4, _, hne => first | rfl | exact absurd rfl hne
    | 5, _, hne => first | rfl | exact absurd rfl hne
    | 6, _, hne => first | rfl | exact absurd rfl hne
    | 7, _, hne => first | rfl | exact absurd rfl hne
    | 8, _, hne => first | rfl | exact absurd rfl hne
    | 9, _, hne => first | rfl | exact absurd rfl hne
    | 10, _, hne => first | rfl | exact absurd rfl hne
    | 11, _, hne => first | rfl | exact absurd rfl hne
    | 12, _, hne => first | rfl | exact absurd rfl hne
    | 13, _, hne => first | rfl | exact absurd rfl hne
    | 14, _, hne => first | rfl | exact absurd rfl hne
    | 15, _, hne => first | rfl | exact absurd rfl hne
    | 16, _, hne => first | rfl | exact absurd rfl hne
    | 17, _, hne => first | rfl | exact absurd rfl hne
    | 18, _, hne => first | rfl | exact absurd rfl hne
    | 19, _, hne => first | rfl | exact absurd rfl hne
    | 20, _, hne => first | rfl | exact absurd rfl hne
    | 21, _, hne => first | rfl | exact absurd rfl hne
    | 22, _, hne => first | rfl | exact absurd rfl hne
    | 23, _, hne => first | rfl | exact absurd rfl hne
    | 24, _, hne => first | rfl | exact absurd rfl hne
    | 25, _, hne => first | rfl | exact absurd rfl hne
    | k + 26, hk, _ => exact absurd hk (by omega)) (fun a b ha _ g hg => by
    have h2 : ¬ a = 2 := by omega
    simp [lc_w, h2])) hl hd kk
theorem lc_gMGon (hl : lc_fl own idx (TX5 8)) (hd : decode cc pc = .ok (.getfield idx, 3)) (kk : lc_V G Γ cc nL own (pc + 3) lv (.int (σ.2.1 2 2 + x.2.2.2) :: st) (lc_w σ 2 x)) : lc_V G Γ cc nL own (pc) lv (.ref (G.1 14) :: st) (lc_w σ 2 x) := lc_get 14 5 8 (by decide) rfl lc_cX5 (by decide) rfl hl hd kk
theorem lc_pMGon {v : Int32} (t : Int32) (hv : v = σ.2.1 2 2 + t) (hl : lc_fl own idx (TX5 8)) (hd : decode cc pc = .ok (.putfield idx, 3)) (kk : lc_V G Γ cc nL own (pc + 3) lv (st) (lc_w σ 2 (x.1, x.2.1, x.2.2.1, t))) : lc_V G Γ cc nL own (pc) lv (.int v :: .ref (G.1 14) :: st) (lc_w σ 2 x) := by
  subst hv
  exact lc_put (lc_w σ 2 (x.1, x.2.1, x.2.2.1, t)) 14 5 8 tyX5 (ty := .int) tyX5_ok nmX5 (by decide) (fs := _) rfl lc_cX5 (by decide) rfl (by decide +kernel) rfl rfl (Nat.le_of_ble_eq_true rfl) rfl (lc_h3 _ (fun k hk hne => by
    match k, hk, hne with
    | 0, _, hne => first | rfl | exact absurd rfl hne
    | 1, _, hne => first | rfl | exact absurd rfl hne
    | 2, _, hne => first | rfl | exact absurd rfl hne
    | 3, _, hne => first | rfl | exact absurd rfl hne
    | 4, _, hne => first | rfl | exact absurd rfl hne
    | 5, _, hne => first | rfl | exact absurd rfl hne
    | 6, _, hne => first | rfl | exact absurd rfl hne
    | 7, _, hne => first | rfl | exact absurd rfl hne
    | 8, _, hne => first | rfl | exact absurd rfl hne
    | 9, _, hne => first | rfl | exact absurd rfl hne
    | 10, _, hne => first | rfl | exact absurd rfl hne
    | 11, _, hne => first | rfl | exact absurd rfl hne
    | 12, _, hne => first | rfl | exact absurd rfl hne
    | 13, _, hne => first | rfl | exact absurd rfl hne
    | 14, _, hne => first | rfl | exact absurd rfl hne
    | 15, _, hne => first | rfl | exact absurd rfl hne
    | 16, _, hne => first | rfl | exact absurd rfl hne
    | 17, _, hne => first | rfl | exact absurd rfl hne
    | 18, _, hne => first | rfl | exact absurd rfl hne
    | 19, _, hne => first | rfl | exact absurd rfl hne
    | 20, _, hne => first | rfl | exact absurd rfl hne
    | 21, _, hne => first | rfl | exact absurd rfl hne
    | 22, _, hne => first | rfl | exact absurd rfl hne
    | 23, _, hne => first | rfl | exact absurd rfl hne
    | 24, _, hne => first | rfl | exact absurd rfl hne
    | 25, _, hne => first | rfl | exact absurd rfl hne
    | k + 26, hk, _ => exact absurd hk (by omega)) (fun a b ha _ g hg => by
    have h2 : ¬ a = 2 := by omega
    simp [lc_w, h2])) hl hd kk
theorem lc_s_codes (i : Nat) {z v : Int32} (hx : z = nI i) (hi : i < 6) (hd : decode cc pc = .ok (.iastore, 1)) (kk : lc_V G Γ cc nL own (pc + 1) lv (st) (lc_uo σ 9 i v)) : lc_V G Γ cc nL own (pc) lv (.int v :: .int z :: .ref (G.1 2) :: st) (σ) := lc_iast (lc_uo σ 9 i v) 2 i (by decide) (n := 6) (f := σ.2.1 9) rfl hx hi (by decide) (by show lc_aE G 6 _ = _; rw [lc_uo_same]) (lc_h3 _ (fun k hk hne => by
    match k, hk, hne with
    | 0, _, hne => first | rfl | exact absurd rfl hne
    | 1, _, hne => first | rfl | exact absurd rfl hne
    | 2, _, hne => first | rfl | exact absurd rfl hne
    | 3, _, hne => first | rfl | exact absurd rfl hne
    | 4, _, hne => first | rfl | exact absurd rfl hne
    | 5, _, hne => first | rfl | exact absurd rfl hne
    | 6, _, hne => first | rfl | exact absurd rfl hne
    | 7, _, hne => first | rfl | exact absurd rfl hne
    | 8, _, hne => first | rfl | exact absurd rfl hne
    | 9, _, hne => first | rfl | exact absurd rfl hne
    | 10, _, hne => first | rfl | exact absurd rfl hne
    | 11, _, hne => first | rfl | exact absurd rfl hne
    | 12, _, hne => first | rfl | exact absurd rfl hne
    | 13, _, hne => first | rfl | exact absurd rfl hne
    | 14, _, hne => first | rfl | exact absurd rfl hne
    | 15, _, hne => first | rfl | exact absurd rfl hne
    | 16, _, hne => first | rfl | exact absurd rfl hne
    | 17, _, hne => first | rfl | exact absurd rfl hne
    | 18, _, hne => first | rfl | exact absurd rfl hne
    | 19, _, hne => first | rfl | exact absurd rfl hne
    | 20, _, hne => first | rfl | exact absurd rfl hne
    | 21, _, hne => first | rfl | exact absurd rfl hne
    | 22, _, hne => first | rfl | exact absurd rfl hne
    | 23, _, hne => first | rfl | exact absurd rfl hne
    | 24, _, hne => first | rfl | exact absurd rfl hne
    | 25, _, hne => first | rfl | exact absurd rfl hne
    | k + 26, hk, _ => exact absurd hk (by omega)) (fun a b _ _ g hg => rfl)) hd kk
theorem lc_sw_codes (j i : Nat) {z v : Int32} (hj : j < 3) (hx : z = nI i) (hi : i < 6) (hd : decode cc pc = .ok (.iastore, 1)) (kk : lc_V G Γ cc nL own (pc + 1) lv (st) (lc_w (lc_uo σ 9 i v) j x)) : lc_V G Γ cc nL own (pc) lv (.int v :: .int z :: .ref (G.1 2) :: st) (lc_w σ j x) := lc_s_codes i hx hi hd (by rw [lc_uo_w σ i v x (show 9 ≠ j by omega)]; exact kk)
theorem lc_s_pos0 (i : Nat) {z v : Int32} (hx : z = nI i) (hi : i < 6) (hd : decode cc pc = .ok (.iastore, 1)) (kk : lc_V G Γ cc nL own (pc + 1) lv (st) (lc_uo σ 6 i v)) : lc_V G Γ cc nL own (pc) lv (.int v :: .int z :: .ref (G.1 8) :: st) (σ) := lc_iast (lc_uo σ 6 i v) 8 i (by decide) (n := 6) (f := σ.2.1 6) rfl hx hi (by decide) (by show lc_aE G 6 _ = _; rw [lc_uo_same]) (lc_h3 _ (fun k hk hne => by
    match k, hk, hne with
    | 0, _, hne => first | rfl | exact absurd rfl hne
    | 1, _, hne => first | rfl | exact absurd rfl hne
    | 2, _, hne => first | rfl | exact absurd rfl hne
    | 3, _, hne => first | rfl | exact absurd rfl hne
    | 4, _, hne => first | rfl | exact absurd rfl hne
    | 5, _, hne => first | rfl | exact absurd rfl hne
    | 6, _, hne => first | rfl | exact absurd rfl hne
    | 7, _, hne => first | rfl | exact absurd rfl hne
    | 8, _, hne => first | rfl | exact absurd rfl hne
    | 9, _, hne => first | rfl | exact absurd rfl hne
    | 10, _, hne => first | rfl | exact absurd rfl hne
    | 11, _, hne => first | rfl | exact absurd rfl hne
    | 12, _, hne => first | rfl | exact absurd rfl hne
    | 13, _, hne => first | rfl | exact absurd rfl hne
    | 14, _, hne => first | rfl | exact absurd rfl hne
    | 15, _, hne => first | rfl | exact absurd rfl hne
    | 16, _, hne => first | rfl | exact absurd rfl hne
    | 17, _, hne => first | rfl | exact absurd rfl hne
    | 18, _, hne => first | rfl | exact absurd rfl hne
    | 19, _, hne => first | rfl | exact absurd rfl hne
    | 20, _, hne => first | rfl | exact absurd rfl hne
    | 21, _, hne => first | rfl | exact absurd rfl hne
    | 22, _, hne => first | rfl | exact absurd rfl hne
    | 23, _, hne => first | rfl | exact absurd rfl hne
    | 24, _, hne => first | rfl | exact absurd rfl hne
    | 25, _, hne => first | rfl | exact absurd rfl hne
    | k + 26, hk, _ => exact absurd hk (by omega)) (fun a b _ _ g hg => rfl)) hd kk
theorem lc_sw_pos0 (j i : Nat) {z v : Int32} (hj : j < 3) (hx : z = nI i) (hi : i < 6) (hd : decode cc pc = .ok (.iastore, 1)) (kk : lc_V G Γ cc nL own (pc + 1) lv (st) (lc_w (lc_uo σ 6 i v) j x)) : lc_V G Γ cc nL own (pc) lv (.int v :: .int z :: .ref (G.1 8) :: st) (lc_w σ j x) := lc_s_pos0 i hx hi hd (by rw [lc_uo_w σ i v x (show 6 ≠ j by omega)]; exact kk)
theorem lc_s_pos1 (i : Nat) {z v : Int32} (hx : z = nI i) (hi : i < 6) (hd : decode cc pc = .ok (.iastore, 1)) (kk : lc_V G Γ cc nL own (pc + 1) lv (st) (lc_uo σ 7 i v)) : lc_V G Γ cc nL own (pc) lv (.int v :: .int z :: .ref (G.1 9) :: st) (σ) := lc_iast (lc_uo σ 7 i v) 9 i (by decide) (n := 6) (f := σ.2.1 7) rfl hx hi (by decide) (by show lc_aE G 6 _ = _; rw [lc_uo_same]) (lc_h3 _ (fun k hk hne => by
    match k, hk, hne with
    | 0, _, hne => first | rfl | exact absurd rfl hne
    | 1, _, hne => first | rfl | exact absurd rfl hne
    | 2, _, hne => first | rfl | exact absurd rfl hne
    | 3, _, hne => first | rfl | exact absurd rfl hne
    | 4, _, hne => first | rfl | exact absurd rfl hne
    | 5, _, hne => first | rfl | exact absurd rfl hne
    | 6, _, hne => first | rfl | exact absurd rfl hne
    | 7, _, hne => first | rfl | exact absurd rfl hne
    | 8, _, hne => first | rfl | exact absurd rfl hne
    | 9, _, hne => first | rfl | exact absurd rfl hne
    | 10, _, hne => first | rfl | exact absurd rfl hne
    | 11, _, hne => first | rfl | exact absurd rfl hne
    | 12, _, hne => first | rfl | exact absurd rfl hne
    | 13, _, hne => first | rfl | exact absurd rfl hne
    | 14, _, hne => first | rfl | exact absurd rfl hne
    | 15, _, hne => first | rfl | exact absurd rfl hne
    | 16, _, hne => first | rfl | exact absurd rfl hne
    | 17, _, hne => first | rfl | exact absurd rfl hne
    | 18, _, hne => first | rfl | exact absurd rfl hne
    | 19, _, hne => first | rfl | exact absurd rfl hne
    | 20, _, hne => first | rfl | exact absurd rfl hne
    | 21, _, hne => first | rfl | exact absurd rfl hne
    | 22, _, hne => first | rfl | exact absurd rfl hne
    | 23, _, hne => first | rfl | exact absurd rfl hne
    | 24, _, hne => first | rfl | exact absurd rfl hne
    | 25, _, hne => first | rfl | exact absurd rfl hne
    | k + 26, hk, _ => exact absurd hk (by omega)) (fun a b _ _ g hg => rfl)) hd kk
theorem lc_sw_pos1 (j i : Nat) {z v : Int32} (hj : j < 3) (hx : z = nI i) (hi : i < 6) (hd : decode cc pc = .ok (.iastore, 1)) (kk : lc_V G Γ cc nL own (pc + 1) lv (st) (lc_w (lc_uo σ 7 i v) j x)) : lc_V G Γ cc nL own (pc) lv (.int v :: .int z :: .ref (G.1 9) :: st) (lc_w σ j x) := lc_s_pos1 i hx hi hd (by rw [lc_uo_w σ i v x (show 7 ≠ j by omega)]; exact kk)
theorem lc_s_lat0 (i : Nat) {z v : Int32} (hx : z = nI i) (hi : i < 4) (hd : decode cc pc = .ok (.iastore, 1)) (kk : lc_V G Γ cc nL own (pc + 1) lv (st) (lc_uo σ 3 i v)) : lc_V G Γ cc nL own (pc) lv (.int v :: .int z :: .ref (G.1 12) :: st) (σ) := lc_iast (lc_uo σ 3 i v) 12 i (by decide) (n := 4) (f := σ.2.1 3) rfl hx hi (by decide) (by show lc_aE G 4 _ = _; rw [lc_uo_same]) (lc_h3 _ (fun k hk hne => by
    match k, hk, hne with
    | 0, _, hne => first | rfl | exact absurd rfl hne
    | 1, _, hne => first | rfl | exact absurd rfl hne
    | 2, _, hne => first | rfl | exact absurd rfl hne
    | 3, _, hne => first | rfl | exact absurd rfl hne
    | 4, _, hne => first | rfl | exact absurd rfl hne
    | 5, _, hne => first | rfl | exact absurd rfl hne
    | 6, _, hne => first | rfl | exact absurd rfl hne
    | 7, _, hne => first | rfl | exact absurd rfl hne
    | 8, _, hne => first | rfl | exact absurd rfl hne
    | 9, _, hne => first | rfl | exact absurd rfl hne
    | 10, _, hne => first | rfl | exact absurd rfl hne
    | 11, _, hne => first | rfl | exact absurd rfl hne
    | 12, _, hne => first | rfl | exact absurd rfl hne
    | 13, _, hne => first | rfl | exact absurd rfl hne
    | 14, _, hne => first | rfl | exact absurd rfl hne
    | 15, _, hne => first | rfl | exact absurd rfl hne
    | 16, _, hne => first | rfl | exact absurd rfl hne
    | 17, _, hne => first | rfl | exact absurd rfl hne
    | 18, _, hne => first | rfl | exact absurd rfl hne
    | 19, _, hne => first | rfl | exact absurd rfl hne
    | 20, _, hne => first | rfl | exact absurd rfl hne
    | 21, _, hne => first | rfl | exact absurd rfl hne
    | 22, _, hne => first | rfl | exact absurd rfl hne
    | 23, _, hne => first | rfl | exact absurd rfl hne
    | 24, _, hne => first | rfl | exact absurd rfl hne
    | 25, _, hne => first | rfl | exact absurd rfl hne
    | k + 26, hk, _ => exact absurd hk (by omega)) (fun a b _ _ g hg => rfl)) hd kk
theorem lc_sw_lat0 (j i : Nat) {z v : Int32} (hj : j < 3) (hx : z = nI i) (hi : i < 4) (hd : decode cc pc = .ok (.iastore, 1)) (kk : lc_V G Γ cc nL own (pc + 1) lv (st) (lc_w (lc_uo σ 3 i v) j x)) : lc_V G Γ cc nL own (pc) lv (.int v :: .int z :: .ref (G.1 12) :: st) (lc_w σ j x) := lc_s_lat0 i hx hi hd (by rw [lc_uo_w σ i v x (show 3 ≠ j by omega)]; exact kk)
theorem lc_s_lat1 (i : Nat) {z v : Int32} (hx : z = nI i) (hi : i < 4) (hd : decode cc pc = .ok (.iastore, 1)) (kk : lc_V G Γ cc nL own (pc + 1) lv (st) (lc_uo σ 4 i v)) : lc_V G Γ cc nL own (pc) lv (.int v :: .int z :: .ref (G.1 13) :: st) (σ) := lc_iast (lc_uo σ 4 i v) 13 i (by decide) (n := 4) (f := σ.2.1 4) rfl hx hi (by decide) (by show lc_aE G 4 _ = _; rw [lc_uo_same]) (lc_h3 _ (fun k hk hne => by
    match k, hk, hne with
    | 0, _, hne => first | rfl | exact absurd rfl hne
    | 1, _, hne => first | rfl | exact absurd rfl hne
    | 2, _, hne => first | rfl | exact absurd rfl hne
    | 3, _, hne => first | rfl | exact absurd rfl hne
    | 4, _, hne => first | rfl | exact absurd rfl hne
    | 5, _, hne => first | rfl | exact absurd rfl hne
    | 6, _, hne => first | rfl | exact absurd rfl hne
    | 7, _, hne => first | rfl | exact absurd rfl hne
    | 8, _, hne => first | rfl | exact absurd rfl hne
    | 9, _, hne => first | rfl | exact absurd rfl hne
    | 10, _, hne => first | rfl | exact absurd rfl hne
    | 11, _, hne => first | rfl | exact absurd rfl hne
    | 12, _, hne => first | rfl | exact absurd rfl hne
    | 13, _, hne => first | rfl | exact absurd rfl hne
    | 14, _, hne => first | rfl | exact absurd rfl hne
    | 15, _, hne => first | rfl | exact absurd rfl hne
    | 16, _, hne => first | rfl | exact absurd rfl hne
    | 17, _, hne => first | rfl | exact absurd rfl hne
    | 18, _, hne => first | rfl | exact absurd rfl hne
    | 19, _, hne => first | rfl | exact absurd rfl hne
    | 20, _, hne => first | rfl | exact absurd rfl hne
    | 21, _, hne => first | rfl | exact absurd rfl hne
    | 22, _, hne => first | rfl | exact absurd rfl hne
    | 23, _, hne => first | rfl | exact absurd rfl hne
    | 24, _, hne => first | rfl | exact absurd rfl hne
    | 25, _, hne => first | rfl | exact absurd rfl hne
    | k + 26, hk, _ => exact absurd hk (by omega)) (fun a b _ _ g hg => rfl)) hd kk
theorem lc_sw_lat1 (j i : Nat) {z v : Int32} (hj : j < 3) (hx : z = nI i) (hi : i < 4) (hd : decode cc pc = .ok (.iastore, 1)) (kk : lc_V G Γ cc nL own (pc + 1) lv (st) (lc_w (lc_uo σ 4 i v) j x)) : lc_V G Γ cc nL own (pc) lv (.int v :: .int z :: .ref (G.1 13) :: st) (lc_w σ j x) := lc_s_lat1 i hx hi hd (by rw [lc_uo_w σ i v x (show 4 ≠ j by omega)]; exact kk)
theorem lc_s_mpage (i : Nat) {z v : Int32} (hx : z = nI i) (hi : i < 6) (hd : decode cc pc = .ok (.iastore, 1)) (kk : lc_V G Γ cc nL own (pc + 1) lv (st) (lc_uo σ 11 i v)) : lc_V G Γ cc nL own (pc) lv (.int v :: .int z :: .ref (G.1 15) :: st) (σ) := lc_iast (lc_uo σ 11 i v) 15 i (by decide) (n := 6) (f := σ.2.1 11) rfl hx hi (by decide) (by show lc_aE G 6 _ = _; rw [lc_uo_same]) (lc_h3 _ (fun k hk hne => by
    match k, hk, hne with
    | 0, _, hne => first | rfl | exact absurd rfl hne
    | 1, _, hne => first | rfl | exact absurd rfl hne
    | 2, _, hne => first | rfl | exact absurd rfl hne
    | 3, _, hne => first | rfl | exact absurd rfl hne
    | 4, _, hne => first | rfl | exact absurd rfl hne
    | 5, _, hne => first | rfl | exact absurd rfl hne
    | 6, _, hne => first | rfl | exact absurd rfl hne
    | 7, _, hne => first | rfl | exact absurd rfl hne
    | 8, _, hne => first | rfl | exact absurd rfl hne
    | 9, _, hne => first | rfl | exact absurd rfl hne
    | 10, _, hne => first | rfl | exact absurd rfl hne
    | 11, _, hne => first | rfl | exact absurd rfl hne
    | 12, _, hne => first | rfl | exact absurd rfl hne
    | 13, _, hne => first | rfl | exact absurd rfl hne
    | 14, _, hne => first | rfl | exact absurd rfl hne
    | 15, _, hne => first | rfl | exact absurd rfl hne
    | 16, _, hne => first | rfl | exact absurd rfl hne
    | 17, _, hne => first | rfl | exact absurd rfl hne
    | 18, _, hne => first | rfl | exact absurd rfl hne
    | 19, _, hne => first | rfl | exact absurd rfl hne
    | 20, _, hne => first | rfl | exact absurd rfl hne
    | 21, _, hne => first | rfl | exact absurd rfl hne
    | 22, _, hne => first | rfl | exact absurd rfl hne
    | 23, _, hne => first | rfl | exact absurd rfl hne
    | 24, _, hne => first | rfl | exact absurd rfl hne
    | 25, _, hne => first | rfl | exact absurd rfl hne
    | k + 26, hk, _ => exact absurd hk (by omega)) (fun a b _ _ g hg => rfl)) hd kk
theorem lc_sw_mpage (j i : Nat) {z v : Int32} (hj : j < 3) (hx : z = nI i) (hi : i < 6) (hd : decode cc pc = .ok (.iastore, 1)) (kk : lc_V G Γ cc nL own (pc + 1) lv (st) (lc_w (lc_uo σ 11 i v) j x)) : lc_V G Γ cc nL own (pc) lv (.int v :: .int z :: .ref (G.1 15) :: st) (lc_w σ j x) := lc_s_mpage i hx hi hd (by rw [lc_uo_w σ i v x (show 11 ≠ j by omega)]; exact kk)
theorem lc_s_mpos (i : Nat) {z v : Int32} (hx : z = nI i) (hi : i < 6) (hd : decode cc pc = .ok (.iastore, 1)) (kk : lc_V G Γ cc nL own (pc + 1) lv (st) (lc_uo σ 8 i v)) : lc_V G Γ cc nL own (pc) lv (.int v :: .int z :: .ref (G.1 16) :: st) (σ) := lc_iast (lc_uo σ 8 i v) 16 i (by decide) (n := 6) (f := σ.2.1 8) rfl hx hi (by decide) (by show lc_aE G 6 _ = _; rw [lc_uo_same]) (lc_h3 _ (fun k hk hne => by
    match k, hk, hne with
    | 0, _, hne => first | rfl | exact absurd rfl hne
    | 1, _, hne => first | rfl | exact absurd rfl hne
    | 2, _, hne => first | rfl | exact absurd rfl hne
    | 3, _, hne => first | rfl | exact absurd rfl hne
    | 4, _, hne => first | rfl | exact absurd rfl hne
    | 5, _, hne => first | rfl | exact absurd rfl hne
    | 6, _, hne => first | rfl | exact absurd rfl hne
    | 7, _, hne => first | rfl | exact absurd rfl hne
    | 8, _, hne => first | rfl | exact absurd rfl hne
    | 9, _, hne => first | rfl | exact absurd rfl hne
    | 10, _, hne => first | rfl | exact absurd rfl hne
    | 11, _, hne => first | rfl | exact absurd rfl hne
    | 12, _, hne => first | rfl | exact absurd rfl hne
    | 13, _, hne => first | rfl | exact absurd rfl hne
    | 14, _, hne => first | rfl | exact absurd rfl hne
    | 15, _, hne => first | rfl | exact absurd rfl hne
    | 16, _, hne => first | rfl | exact absurd rfl hne
    | 17, _, hne => first | rfl | exact absurd rfl hne
    | 18, _, hne => first | rfl | exact absurd rfl hne
    | 19, _, hne => first | rfl | exact absurd rfl hne
    | 20, _, hne => first | rfl | exact absurd rfl hne
    | 21, _, hne => first | rfl | exact absurd rfl hne
    | 22, _, hne => first | rfl | exact absurd rfl hne
    | 23, _, hne => first | rfl | exact absurd rfl hne
    | 24, _, hne => first | rfl | exact absurd rfl hne
    | 25, _, hne => first | rfl | exact absurd rfl hne
    | k + 26, hk, _ => exact absurd hk (by omega)) (fun a b _ _ g hg => rfl)) hd kk
theorem lc_sw_mpos (j i : Nat) {z v : Int32} (hj : j < 3) (hx : z = nI i) (hi : i < 6) (hd : decode cc pc = .ok (.iastore, 1)) (kk : lc_V G Γ cc nL own (pc + 1) lv (st) (lc_w (lc_uo σ 8 i v) j x)) : lc_V G Γ cc nL own (pc) lv (.int v :: .int z :: .ref (G.1 16) :: st) (lc_w σ j x) := lc_s_mpos i hx hi hd (by rw [lc_uo_w σ i v x (show 8 ≠ j by omega)]; exact kk)
theorem lc_s_mlatest (i : Nat) {z v : Int32} (hx : z = nI i) (hi : i < 4) (hd : decode cc pc = .ok (.iastore, 1)) (kk : lc_V G Γ cc nL own (pc + 1) lv (st) (lc_uo σ 5 i v)) : lc_V G Γ cc nL own (pc) lv (.int v :: .int z :: .ref (G.1 24) :: st) (σ) := lc_iast (lc_uo σ 5 i v) 24 i (by decide) (n := 4) (f := σ.2.1 5) rfl hx hi (by decide) (by show lc_aE G 4 _ = _; rw [lc_uo_same]) (lc_h3 _ (fun k hk hne => by
    match k, hk, hne with
    | 0, _, hne => first | rfl | exact absurd rfl hne
    | 1, _, hne => first | rfl | exact absurd rfl hne
    | 2, _, hne => first | rfl | exact absurd rfl hne
    | 3, _, hne => first | rfl | exact absurd rfl hne
    | 4, _, hne => first | rfl | exact absurd rfl hne
    | 5, _, hne => first | rfl | exact absurd rfl hne
    | 6, _, hne => first | rfl | exact absurd rfl hne
    | 7, _, hne => first | rfl | exact absurd rfl hne
    | 8, _, hne => first | rfl | exact absurd rfl hne
    | 9, _, hne => first | rfl | exact absurd rfl hne
    | 10, _, hne => first | rfl | exact absurd rfl hne
    | 11, _, hne => first | rfl | exact absurd rfl hne
    | 12, _, hne => first | rfl | exact absurd rfl hne
    | 13, _, hne => first | rfl | exact absurd rfl hne
    | 14, _, hne => first | rfl | exact absurd rfl hne
    | 15, _, hne => first | rfl | exact absurd rfl hne
    | 16, _, hne => first | rfl | exact absurd rfl hne
    | 17, _, hne => first | rfl | exact absurd rfl hne
    | 18, _, hne => first | rfl | exact absurd rfl hne
    | 19, _, hne => first | rfl | exact absurd rfl hne
    | 20, _, hne => first | rfl | exact absurd rfl hne
    | 21, _, hne => first | rfl | exact absurd rfl hne
    | 22, _, hne => first | rfl | exact absurd rfl hne
    | 23, _, hne => first | rfl | exact absurd rfl hne
    | 24, _, hne => first | rfl | exact absurd rfl hne
    | 25, _, hne => first | rfl | exact absurd rfl hne
    | k + 26, hk, _ => exact absurd hk (by omega)) (fun a b _ _ g hg => rfl)) hd kk
theorem lc_sw_mlatest (j i : Nat) {z v : Int32} (hj : j < 3) (hx : z = nI i) (hi : i < 4) (hd : decode cc pc = .ok (.iastore, 1)) (kk : lc_V G Γ cc nL own (pc + 1) lv (st) (lc_w (lc_uo σ 5 i v) j x)) : lc_V G Γ cc nL own (pc) lv (.int v :: .int z :: .ref (G.1 24) :: st) (lc_w σ j x) := lc_s_mlatest i hx hi hd (by rw [lc_uo_w σ i v x (show 5 ≠ j by omega)]; exact kk)
theorem lc_s_msaved (i : Nat) {z v : Int32} (hx : z = nI i) (hi : i < 148) (hd : decode cc pc = .ok (.iastore, 1)) (kk : lc_V G Γ cc nL own (pc + 1) lv (st) (lc_uo σ 13 i v)) : lc_V G Γ cc nL own (pc) lv (.int v :: .int z :: .ref (G.1 25) :: st) (σ) := lc_iast (lc_uo σ 13 i v) 25 i (by decide) (n := 148) (f := σ.2.1 13) rfl hx hi (by decide) (by show lc_aE G 148 _ = _; rw [lc_uo_same]) (lc_h3 _ (fun k hk hne => by
    match k, hk, hne with
    | 0, _, hne => first | rfl | exact absurd rfl hne
    | 1, _, hne => first | rfl | exact absurd rfl hne
    | 2, _, hne => first | rfl | exact absurd rfl hne
    | 3, _, hne => first | rfl | exact absurd rfl hne
    | 4, _, hne => first | rfl | exact absurd rfl hne
    | 5, _, hne => first | rfl | exact absurd rfl hne
    | 6, _, hne => first | rfl | exact absurd rfl hne
    | 7, _, hne => first | rfl | exact absurd rfl hne
    | 8, _, hne => first | rfl | exact absurd rfl hne
    | 9, _, hne => first | rfl | exact absurd rfl hne
    | 10, _, hne => first | rfl | exact absurd rfl hne
    | 11, _, hne => first | rfl | exact absurd rfl hne
    | 12, _, hne => first | rfl | exact absurd rfl hne
    | 13, _, hne => first | rfl | exact absurd rfl hne
    | 14, _, hne => first | rfl | exact absurd rfl hne
    | 15, _, hne => first | rfl | exact absurd rfl hne
    | 16, _, hne => first | rfl | exact absurd rfl hne
    | 17, _, hne => first | rfl | exact absurd rfl hne
    | 18, _, hne => first | rfl | exact absurd rfl hne
    | 19, _, hne => first | rfl | exact absurd rfl hne
    | 20, _, hne => first | rfl | exact absurd rfl hne
    | 21, _, hne => first | rfl | exact absurd rfl hne
    | 22, _, hne => first | rfl | exact absurd rfl hne
    | 23, _, hne => first | rfl | exact absurd rfl hne
    | 24, _, hne => first | rfl | exact absurd rfl hne
    | 25, _, hne => first | rfl | exact absurd rfl hne
    | k + 26, hk, _ => exact absurd hk (by omega)) (fun a b _ _ g hg => rfl)) hd kk
theorem lc_sw_msaved (j i : Nat) {z v : Int32} (hj : j < 3) (hx : z = nI i) (hi : i < 148) (hd : decode cc pc = .ok (.iastore, 1)) (kk : lc_V G Γ cc nL own (pc + 1) lv (st) (lc_w (lc_uo σ 13 i v) j x)) : lc_V G Γ cc nL own (pc) lv (.int v :: .int z :: .ref (G.1 25) :: st) (lc_w σ j x) := lc_s_msaved i hx hi hd (by rw [lc_uo_w σ i v x (show 13 ≠ j by omega)]; exact kk)
theorem lc_swLat (j i : Nat) {z v : Int32} (hj : j < 2) (hx : z = nI i) (hi : i < 4) (hd : decode cc pc = .ok (.iastore, 1)) (kk : lc_V G Γ cc nL own (pc + 1) lv (st) (lc_w (lc_uo σ (3 + j) i v) j x)) : lc_V G Γ cc nL own (pc) lv (.int v :: .int z :: .ref (G.1 (12 + j)) :: st) (lc_w σ j x) := by
  rcases (show j = 0 ∨ j = 1 by omega) with rfl | rfl
  · exact lc_sw_lat0 0 i (by decide) hx hi hd kk
  · exact lc_sw_lat1 1 i (by decide) hx hi hd kk
theorem lc_swPos (j i : Nat) {z v : Int32} (hj : j < 2) (hx : z = nI i) (hi : i < 6) (hd : decode cc pc = .ok (.iastore, 1)) (kk : lc_V G Γ cc nL own (pc + 1) lv (st) (lc_w (lc_uo σ (6 + j) i v) j x)) : lc_V G Γ cc nL own (pc) lv (.int v :: .int z :: .ref (G.1 (8 + j)) :: st) (lc_w σ j x) := by
  rcases (show j = 0 ∨ j = 1 by omega) with rfl | rfl
  · exact lc_sw_pos0 0 i (by decide) hx hi hd kk
  · exact lc_sw_pos1 1 i (by decide) hx hi hd kk
theorem lc_sc_lim0 (i : Nat) {z v : Int32} (hx : z = nI i) (hi : i < 4) (hd : decode cc pc = .ok (.iastore, 1)) (kk : lc_V G Γ cc nL own (pc + 1) lv (st) (lc_w σ 0 (lc_cu x.1 6 i v, x.2))) : lc_V G Γ cc nL own (pc) lv (.int v :: .int z :: .ref (G.1 6) :: st) (lc_w σ 0 x) := lc_iast (lc_w σ 0 (lc_cu x.1 6 i v, x.2)) 6 i (by decide) (n := 4) (f := x.1 6) rfl hx hi (by decide) (by show lc_aE G 4 (lc_cu x.1 6 i v 6) = _; rw [lc_cu_same]) (lc_h3 _ (fun k hk hne => by
    match k, hk, hne with
    | 0, _, hne => first | rfl | exact absurd rfl hne
    | 1, _, hne => first | rfl | exact absurd rfl hne
    | 2, _, hne => first | rfl | exact absurd rfl hne
    | 3, _, hne => first | rfl | exact absurd rfl hne
    | 4, _, hne => first | rfl | exact absurd rfl hne
    | 5, _, hne => first | rfl | exact absurd rfl hne
    | 6, _, hne => first | rfl | exact absurd rfl hne
    | 7, _, hne => first | rfl | exact absurd rfl hne
    | 8, _, hne => first | rfl | exact absurd rfl hne
    | 9, _, hne => first | rfl | exact absurd rfl hne
    | 10, _, hne => first | rfl | exact absurd rfl hne
    | 11, _, hne => first | rfl | exact absurd rfl hne
    | 12, _, hne => first | rfl | exact absurd rfl hne
    | 13, _, hne => first | rfl | exact absurd rfl hne
    | 14, _, hne => first | rfl | exact absurd rfl hne
    | 15, _, hne => first | rfl | exact absurd rfl hne
    | 16, _, hne => first | rfl | exact absurd rfl hne
    | 17, _, hne => first | rfl | exact absurd rfl hne
    | 18, _, hne => first | rfl | exact absurd rfl hne
    | 19, _, hne => first | rfl | exact absurd rfl hne
    | 20, _, hne => first | rfl | exact absurd rfl hne
    | 21, _, hne => first | rfl | exact absurd rfl hne
    | 22, _, hne => first | rfl | exact absurd rfl hne
    | 23, _, hne => first | rfl | exact absurd rfl hne
    | 24, _, hne => first | rfl | exact absurd rfl hne
    | 25, _, hne => first | rfl | exact absurd rfl hne
    | k + 26, hk, _ => exact absurd hk (by omega)) (fun a b ha _ g hg => by
    by_cases h : a = 0
    · subst h
      have e : ¬ g = 6 := by omega
      simp [lc_w, lc_cu, e]
    · simp [lc_w, h])) hd kk
theorem lc_sc_told (i : Nat) {z v : Int32} (hx : z = nI i) (hi : i < 4) (hd : decode cc pc = .ok (.iastore, 1)) (kk : lc_V G Γ cc nL own (pc + 1) lv (st) (lc_w σ 2 (lc_cu x.1 6 i v, x.2))) : lc_V G Γ cc nL own (pc) lv (.int v :: .int z :: .ref (G.1 17) :: st) (lc_w σ 2 x) := lc_iast (lc_w σ 2 (lc_cu x.1 6 i v, x.2)) 17 i (by decide) (n := 4) (f := x.1 6) rfl hx hi (by decide) (by show lc_aE G 4 (lc_cu x.1 6 i v 6) = _; rw [lc_cu_same]) (lc_h3 _ (fun k hk hne => by
    match k, hk, hne with
    | 0, _, hne => first | rfl | exact absurd rfl hne
    | 1, _, hne => first | rfl | exact absurd rfl hne
    | 2, _, hne => first | rfl | exact absurd rfl hne
    | 3, _, hne => first | rfl | exact absurd rfl hne
    | 4, _, hne => first | rfl | exact absurd rfl hne
    | 5, _, hne => first | rfl | exact absurd rfl hne
    | 6, _, hne => first | rfl | exact absurd rfl hne
    | 7, _, hne => first | rfl | exact absurd rfl hne
    | 8, _, hne => first | rfl | exact absurd rfl hne
    | 9, _, hne => first | rfl | exact absurd rfl hne
    | 10, _, hne => first | rfl | exact absurd rfl hne
    | 11, _, hne => first | rfl | exact absurd rfl hne
    | 12, _, hne => first | rfl | exact absurd rfl hne
    | 13, _, hne => first | rfl | exact absurd rfl hne
    | 14, _, hne => first | rfl | exact absurd rfl hne
    | 15, _, hne => first | rfl | exact absurd rfl hne
    | 16, _, hne => first | rfl | exact absurd rfl hne
    | 17, _, hne => first | rfl | exact absurd rfl hne
    | 18, _, hne => first | rfl | exact absurd rfl hne
    | 19, _, hne => first | rfl | exact absurd rfl hne
    | 20, _, hne => first | rfl | exact absurd rfl hne
    | 21, _, hne => first | rfl | exact absurd rfl hne
    | 22, _, hne => first | rfl | exact absurd rfl hne
    | 23, _, hne => first | rfl | exact absurd rfl hne
    | 24, _, hne => first | rfl | exact absurd rfl hne
    | 25, _, hne => first | rfl | exact absurd rfl hne
    | k + 26, hk, _ => exact absurd hk (by omega)) (fun a b ha _ g hg => by
    have h2 : ¬ a = 2 := by omega
    simp [lc_w, h2])) hd kk
theorem lc_sc_msort (i : Nat) {z v : Int32} (hx : z = nI i) (hi : i < 24) (hd : decode cc pc = .ok (.iastore, 1)) (kk : lc_V G Γ cc nL own (pc + 1) lv (st) (lc_w σ 2 (lc_cu x.1 0 i v, x.2))) : lc_V G Γ cc nL own (pc) lv (.int v :: .int z :: .ref (G.1 18) :: st) (lc_w σ 2 x) := lc_iast (lc_w σ 2 (lc_cu x.1 0 i v, x.2)) 18 i (by decide) (n := 24) (f := x.1 0) rfl hx hi (by decide) (by show lc_aE G 24 (lc_cu x.1 0 i v 0) = _; rw [lc_cu_same]) (lc_h3 _ (fun k hk hne => by
    match k, hk, hne with
    | 0, _, hne => first | rfl | exact absurd rfl hne
    | 1, _, hne => first | rfl | exact absurd rfl hne
    | 2, _, hne => first | rfl | exact absurd rfl hne
    | 3, _, hne => first | rfl | exact absurd rfl hne
    | 4, _, hne => first | rfl | exact absurd rfl hne
    | 5, _, hne => first | rfl | exact absurd rfl hne
    | 6, _, hne => first | rfl | exact absurd rfl hne
    | 7, _, hne => first | rfl | exact absurd rfl hne
    | 8, _, hne => first | rfl | exact absurd rfl hne
    | 9, _, hne => first | rfl | exact absurd rfl hne
    | 10, _, hne => first | rfl | exact absurd rfl hne
    | 11, _, hne => first | rfl | exact absurd rfl hne
    | 12, _, hne => first | rfl | exact absurd rfl hne
    | 13, _, hne => first | rfl | exact absurd rfl hne
    | 14, _, hne => first | rfl | exact absurd rfl hne
    | 15, _, hne => first | rfl | exact absurd rfl hne
    | 16, _, hne => first | rfl | exact absurd rfl hne
    | 17, _, hne => first | rfl | exact absurd rfl hne
    | 18, _, hne => first | rfl | exact absurd rfl hne
    | 19, _, hne => first | rfl | exact absurd rfl hne
    | 20, _, hne => first | rfl | exact absurd rfl hne
    | 21, _, hne => first | rfl | exact absurd rfl hne
    | 22, _, hne => first | rfl | exact absurd rfl hne
    | 23, _, hne => first | rfl | exact absurd rfl hne
    | 24, _, hne => first | rfl | exact absurd rfl hne
    | 25, _, hne => first | rfl | exact absurd rfl hne
    | k + 26, hk, _ => exact absurd hk (by omega)) (fun a b ha _ g hg => by
    have h2 : ¬ a = 2 := by omega
    simp [lc_w, h2])) hd kk
theorem lc_sc_mvalue (i : Nat) {z v : Int32} (hx : z = nI i) (hi : i < 24) (hd : decode cc pc = .ok (.iastore, 1)) (kk : lc_V G Γ cc nL own (pc + 1) lv (st) (lc_w σ 2 (lc_cu x.1 1 i v, x.2))) : lc_V G Γ cc nL own (pc) lv (.int v :: .int z :: .ref (G.1 19) :: st) (lc_w σ 2 x) := lc_iast (lc_w σ 2 (lc_cu x.1 1 i v, x.2)) 19 i (by decide) (n := 24) (f := x.1 1) rfl hx hi (by decide) (by show lc_aE G 24 (lc_cu x.1 1 i v 1) = _; rw [lc_cu_same]) (lc_h3 _ (fun k hk hne => by
    match k, hk, hne with
    | 0, _, hne => first | rfl | exact absurd rfl hne
    | 1, _, hne => first | rfl | exact absurd rfl hne
    | 2, _, hne => first | rfl | exact absurd rfl hne
    | 3, _, hne => first | rfl | exact absurd rfl hne
    | 4, _, hne => first | rfl | exact absurd rfl hne
    | 5, _, hne => first | rfl | exact absurd rfl hne
    | 6, _, hne => first | rfl | exact absurd rfl hne
    | 7, _, hne => first | rfl | exact absurd rfl hne
    | 8, _, hne => first | rfl | exact absurd rfl hne
    | 9, _, hne => first | rfl | exact absurd rfl hne
    | 10, _, hne => first | rfl | exact absurd rfl hne
    | 11, _, hne => first | rfl | exact absurd rfl hne
    | 12, _, hne => first | rfl | exact absurd rfl hne
    | 13, _, hne => first | rfl | exact absurd rfl hne
    | 14, _, hne => first | rfl | exact absurd rfl hne
    | 15, _, hne => first | rfl | exact absurd rfl hne
    | 16, _, hne => first | rfl | exact absurd rfl hne
    | 17, _, hne => first | rfl | exact absurd rfl hne
    | 18, _, hne => first | rfl | exact absurd rfl hne
    | 19, _, hne => first | rfl | exact absurd rfl hne
    | 20, _, hne => first | rfl | exact absurd rfl hne
    | 21, _, hne => first | rfl | exact absurd rfl hne
    | 22, _, hne => first | rfl | exact absurd rfl hne
    | 23, _, hne => first | rfl | exact absurd rfl hne
    | 24, _, hne => first | rfl | exact absurd rfl hne
    | 25, _, hne => first | rfl | exact absurd rfl hne
    | k + 26, hk, _ => exact absurd hk (by omega)) (fun a b ha _ g hg => by
    have h2 : ¬ a = 2 := by omega
    simp [lc_w, h2])) hd kk
theorem lc_sc_mstamp (i : Nat) {z v : Int32} (hx : z = nI i) (hi : i < 24) (hd : decode cc pc = .ok (.iastore, 1)) (kk : lc_V G Γ cc nL own (pc + 1) lv (st) (lc_w σ 2 (lc_cu x.1 2 i v, x.2))) : lc_V G Γ cc nL own (pc) lv (.int v :: .int z :: .ref (G.1 20) :: st) (lc_w σ 2 x) := lc_iast (lc_w σ 2 (lc_cu x.1 2 i v, x.2)) 20 i (by decide) (n := 24) (f := x.1 2) rfl hx hi (by decide) (by show lc_aE G 24 (lc_cu x.1 2 i v 2) = _; rw [lc_cu_same]) (lc_h3 _ (fun k hk hne => by
    match k, hk, hne with
    | 0, _, hne => first | rfl | exact absurd rfl hne
    | 1, _, hne => first | rfl | exact absurd rfl hne
    | 2, _, hne => first | rfl | exact absurd rfl hne
    | 3, _, hne => first | rfl | exact absurd rfl hne
    | 4, _, hne => first | rfl | exact absurd rfl hne
    | 5, _, hne => first | rfl | exact absurd rfl hne
    | 6, _, hne => first | rfl | exact absurd rfl hne
    | 7, _, hne => first | rfl | exact absurd rfl hne
    | 8, _, hne => first | rfl | exact absurd rfl hne
    | 9, _, hne => first | rfl | exact absurd rfl hne
    | 10, _, hne => first | rfl | exact absurd rfl hne
    | 11, _, hne => first | rfl | exact absurd rfl hne
    | 12, _, hne => first | rfl | exact absurd rfl hne
    | 13, _, hne => first | rfl | exact absurd rfl hne
    | 14, _, hne => first | rfl | exact absurd rfl hne
    | 15, _, hne => first | rfl | exact absurd rfl hne
    | 16, _, hne => first | rfl | exact absurd rfl hne
    | 17, _, hne => first | rfl | exact absurd rfl hne
    | 18, _, hne => first | rfl | exact absurd rfl hne
    | 19, _, hne => first | rfl | exact absurd rfl hne
    | 20, _, hne => first | rfl | exact absurd rfl hne
    | 21, _, hne => first | rfl | exact absurd rfl hne
    | 22, _, hne => first | rfl | exact absurd rfl hne
    | 23, _, hne => first | rfl | exact absurd rfl hne
    | 24, _, hne => first | rfl | exact absurd rfl hne
    | 25, _, hne => first | rfl | exact absurd rfl hne
    | k + 26, hk, _ => exact absurd hk (by omega)) (fun a b ha _ g hg => by
    have h2 : ¬ a = 2 := by omega
    simp [lc_w, h2])) hd kk
theorem lc_sc_mactive (i : Nat) {z v : Int32} (hx : z = nI i) (hi : i < 24) (hd : decode cc pc = .ok (.iastore, 1)) (kk : lc_V G Γ cc nL own (pc + 1) lv (st) (lc_w σ 2 (lc_cu x.1 3 i v, x.2))) : lc_V G Γ cc nL own (pc) lv (.int v :: .int z :: .ref (G.1 21) :: st) (lc_w σ 2 x) := lc_iast (lc_w σ 2 (lc_cu x.1 3 i v, x.2)) 21 i (by decide) (n := 24) (f := x.1 3) rfl hx hi (by decide) (by show lc_aE G 24 (lc_cu x.1 3 i v 3) = _; rw [lc_cu_same]) (lc_h3 _ (fun k hk hne => by
    match k, hk, hne with
    | 0, _, hne => first | rfl | exact absurd rfl hne
    | 1, _, hne => first | rfl | exact absurd rfl hne
    | 2, _, hne => first | rfl | exact absurd rfl hne
    | 3, _, hne => first | rfl | exact absurd rfl hne
    | 4, _, hne => first | rfl | exact absurd rfl hne
    | 5, _, hne => first | rfl | exact absurd rfl hne
    | 6, _, hne => first | rfl | exact absurd rfl hne
    | 7, _, hne => first | rfl | exact absurd rfl hne
    | 8, _, hne => first | rfl | exact absurd rfl hne
    | 9, _, hne => first | rfl | exact absurd rfl hne
    | 10, _, hne => first | rfl | exact absurd rfl hne
    | 11, _, hne => first | rfl | exact absurd rfl hne
    | 12, _, hne => first | rfl | exact absurd rfl hne
    | 13, _, hne => first | rfl | exact absurd rfl hne
    | 14, _, hne => first | rfl | exact absurd rfl hne
    | 15, _, hne => first | rfl | exact absurd rfl hne
    | 16, _, hne => first | rfl | exact absurd rfl hne
    | 17, _, hne => first | rfl | exact absurd rfl hne
    | 18, _, hne => first | rfl | exact absurd rfl hne
    | 19, _, hne => first | rfl | exact absurd rfl hne
    | 20, _, hne => first | rfl | exact absurd rfl hne
    | 21, _, hne => first | rfl | exact absurd rfl hne
    | 22, _, hne => first | rfl | exact absurd rfl hne
    | 23, _, hne => first | rfl | exact absurd rfl hne
    | 24, _, hne => first | rfl | exact absurd rfl hne
    | 25, _, hne => first | rfl | exact absurd rfl hne
    | k + 26, hk, _ => exact absurd hk (by omega)) (fun a b ha _ g hg => by
    have h2 : ¬ a = 2 := by omega
    simp [lc_w, h2])) hd kk
theorem lc_sc_mkeepers (i : Nat) {z v : Int32} (hx : z = nI i) (hi : i < 24) (hd : decode cc pc = .ok (.iastore, 1)) (kk : lc_V G Γ cc nL own (pc + 1) lv (st) (lc_w σ 2 (lc_cu x.1 4 i v, x.2))) : lc_V G Γ cc nL own (pc) lv (.int v :: .int z :: .ref (G.1 22) :: st) (lc_w σ 2 x) := lc_iast (lc_w σ 2 (lc_cu x.1 4 i v, x.2)) 22 i (by decide) (n := 24) (f := x.1 4) rfl hx hi (by decide) (by show lc_aE G 24 (lc_cu x.1 4 i v 4) = _; rw [lc_cu_same]) (lc_h3 _ (fun k hk hne => by
    match k, hk, hne with
    | 0, _, hne => first | rfl | exact absurd rfl hne
    | 1, _, hne => first | rfl | exact absurd rfl hne
    | 2, _, hne => first | rfl | exact absurd rfl hne
    | 3, _, hne => first | rfl | exact absurd rfl hne
    | 4, _, hne => first | rfl | exact absurd rfl hne
    | 5, _, hne => first | rfl | exact absurd rfl hne
    | 6, _, hne => first | rfl | exact absurd rfl hne
    | 7, _, hne => first | rfl | exact absurd rfl hne
    | 8, _, hne => first | rfl | exact absurd rfl hne
    | 9, _, hne => first | rfl | exact absurd rfl hne
    | 10, _, hne => first | rfl | exact absurd rfl hne
    | 11, _, hne => first | rfl | exact absurd rfl hne
    | 12, _, hne => first | rfl | exact absurd rfl hne
    | 13, _, hne => first | rfl | exact absurd rfl hne
    | 14, _, hne => first | rfl | exact absurd rfl hne
    | 15, _, hne => first | rfl | exact absurd rfl hne
    | 16, _, hne => first | rfl | exact absurd rfl hne
    | 17, _, hne => first | rfl | exact absurd rfl hne
    | 18, _, hne => first | rfl | exact absurd rfl hne
    | 19, _, hne => first | rfl | exact absurd rfl hne
    | 20, _, hne => first | rfl | exact absurd rfl hne
    | 21, _, hne => first | rfl | exact absurd rfl hne
    | 22, _, hne => first | rfl | exact absurd rfl hne
    | 23, _, hne => first | rfl | exact absurd rfl hne
    | 24, _, hne => first | rfl | exact absurd rfl hne
    | 25, _, hne => first | rfl | exact absurd rfl hne
    | k + 26, hk, _ => exact absurd hk (by omega)) (fun a b ha _ g hg => by
    have h2 : ¬ a = 2 := by omega
    simp [lc_w, h2])) hd kk
theorem lc_sc_mheat (i : Nat) {z v : Int32} (hx : z = nI i) (hi : i < 24) (hd : decode cc pc = .ok (.iastore, 1)) (kk : lc_V G Γ cc nL own (pc + 1) lv (st) (lc_w σ 2 (lc_cu x.1 5 i v, x.2))) : lc_V G Γ cc nL own (pc) lv (.int v :: .int z :: .ref (G.1 23) :: st) (lc_w σ 2 x) := lc_iast (lc_w σ 2 (lc_cu x.1 5 i v, x.2)) 23 i (by decide) (n := 24) (f := x.1 5) rfl hx hi (by decide) (by show lc_aE G 24 (lc_cu x.1 5 i v 5) = _; rw [lc_cu_same]) (lc_h3 _ (fun k hk hne => by
    match k, hk, hne with
    | 0, _, hne => first | rfl | exact absurd rfl hne
    | 1, _, hne => first | rfl | exact absurd rfl hne
    | 2, _, hne => first | rfl | exact absurd rfl hne
    | 3, _, hne => first | rfl | exact absurd rfl hne
    | 4, _, hne => first | rfl | exact absurd rfl hne
    | 5, _, hne => first | rfl | exact absurd rfl hne
    | 6, _, hne => first | rfl | exact absurd rfl hne
    | 7, _, hne => first | rfl | exact absurd rfl hne
    | 8, _, hne => first | rfl | exact absurd rfl hne
    | 9, _, hne => first | rfl | exact absurd rfl hne
    | 10, _, hne => first | rfl | exact absurd rfl hne
    | 11, _, hne => first | rfl | exact absurd rfl hne
    | 12, _, hne => first | rfl | exact absurd rfl hne
    | 13, _, hne => first | rfl | exact absurd rfl hne
    | 14, _, hne => first | rfl | exact absurd rfl hne
    | 15, _, hne => first | rfl | exact absurd rfl hne
    | 16, _, hne => first | rfl | exact absurd rfl hne
    | 17, _, hne => first | rfl | exact absurd rfl hne
    | 18, _, hne => first | rfl | exact absurd rfl hne
    | 19, _, hne => first | rfl | exact absurd rfl hne
    | 20, _, hne => first | rfl | exact absurd rfl hne
    | 21, _, hne => first | rfl | exact absurd rfl hne
    | 22, _, hne => first | rfl | exact absurd rfl hne
    | 23, _, hne => first | rfl | exact absurd rfl hne
    | 24, _, hne => first | rfl | exact absurd rfl hne
    | 25, _, hne => first | rfl | exact absurd rfl hne
    | k + 26, hk, _ => exact absurd hk (by omega)) (fun a b ha _ g hg => by
    have h2 : ¬ a = 2 := by omega
    simp [lc_w, h2])) hd kk
theorem lc_gsLEAST (hl : lc_fl own idx ("LateCopies", "LEAST_LIMITS", "[I", true)) (hd : decode cc pc = .ok (.getstatic idx, 3)) (kk : lc_V G Γ cc nL own (pc + 3) lv (.ref G.2.2.2.2.2.1 :: st) (σ)) : lc_V G Γ cc nL own (pc) lv (st) (σ) := by
  intro C H locs ls hP hl'
  rcases hl with h | ⟨host, h⟩
  · exact va_gets C.1 C.2.1 C.2.2.2.2.2.2.2.2.1.1.1 hP.2 C.2.2.2.1 (C.2.2.2.2.1.use _ h) (fun _ h9 => h9) hd (kk C H locs ls hP hl')
  · exact va_getsN C.1 C.2.1 C.2.2.2.2.2.2.2.2.1.1.1 hP.2 C.2.2.2.1 (C.2.2.2.2.1.use _ h) (fun _ h9 => h9) hd (kk C H locs ls hP hl')
theorem lc_slLEAST (hd : decode cc pc = .ok (.arraylength, 1)) (kk : lc_V G Γ cc nL own (pc + 1) lv (.int 4 :: st) (σ)) : lc_V G Γ cc nL own (pc) lv (.ref G.2.2.2.2.2.1 :: st) (σ) := fun C H locs ls hP hl => va_tlen C.1 C.2.1 C.2.2.2.2.2.2.2.2.1.1.2 hP.2 rfl hd (kk C H locs ls hP hl)
theorem lc_saLEAST (i : Nat) {z : Int32} (hx : z = nI i) (hi : i < 4) (hd : decode cc pc = .ok (.iaload, 1)) (kk : lc_V G Γ cc nL own (pc + 1) lv (.int (lc_least i) :: st) (σ)) : lc_V G Γ cc nL own (pc) lv (.int z :: .ref G.2.2.2.2.2.1 :: st) (σ) := by
  intro C H locs ls hP hl
  subst hx
  exact va_ti C.1 C.2.1 C.2.2.2.2.2.2.2.2.1.1.2 hP.2 (vp_in_nI hi (by omega)) (v := .int (lc_least i)) (by rw [nI_clamp (by omega)]) hd (kk C H locs ls hP hl)
theorem lc_gsMOST (hl : lc_fl own idx ("LateCopies", "MOST_LIMITS", "[I", true)) (hd : decode cc pc = .ok (.getstatic idx, 3)) (kk : lc_V G Γ cc nL own (pc + 3) lv (.ref G.2.2.2.2.2.2.1 :: st) (σ)) : lc_V G Γ cc nL own (pc) lv (st) (σ) := by
  intro C H locs ls hP hl'
  rcases hl with h | ⟨host, h⟩
  · exact va_gets C.1 C.2.1 C.2.2.2.2.2.2.2.2.1.2.1.1 hP.2 C.2.2.2.1 (C.2.2.2.2.1.use _ h) (fun _ h9 => h9) hd (kk C H locs ls hP hl')
  · exact va_getsN C.1 C.2.1 C.2.2.2.2.2.2.2.2.1.2.1.1 hP.2 C.2.2.2.1 (C.2.2.2.2.1.use _ h) (fun _ h9 => h9) hd (kk C H locs ls hP hl')
theorem lc_slMOST (hd : decode cc pc = .ok (.arraylength, 1)) (kk : lc_V G Γ cc nL own (pc + 1) lv (.int 4 :: st) (σ)) : lc_V G Γ cc nL own (pc) lv (.ref G.2.2.2.2.2.2.1 :: st) (σ) := fun C H locs ls hP hl => va_tlen C.1 C.2.1 C.2.2.2.2.2.2.2.2.1.2.1.2 hP.2 rfl hd (kk C H locs ls hP hl)
theorem lc_saMOST (i : Nat) {z : Int32} (hx : z = nI i) (hi : i < 4) (hd : decode cc pc = .ok (.iaload, 1)) (kk : lc_V G Γ cc nL own (pc + 1) lv (.int (lc_most i) :: st) (σ)) : lc_V G Γ cc nL own (pc) lv (.int z :: .ref G.2.2.2.2.2.2.1 :: st) (σ) := by
  intro C H locs ls hP hl
  subst hx
  exact va_ti C.1 C.2.1 C.2.2.2.2.2.2.2.2.1.2.1.2 hP.2 (vp_in_nI hi (by omega)) (v := .int (lc_most i)) (by rw [nI_clamp (by omega)]) hd (kk C H locs ls hP hl)
theorem lc_gsWEI (hl : lc_fl own idx ("LateCopies", "WEIGHTS", "[I", true)) (hd : decode cc pc = .ok (.getstatic idx, 3)) (kk : lc_V G Γ cc nL own (pc + 3) lv (.ref G.2.2.2.2.2.2.2 :: st) (σ)) : lc_V G Γ cc nL own (pc) lv (st) (σ) := by
  intro C H locs ls hP hl'
  rcases hl with h | ⟨host, h⟩
  · exact va_gets C.1 C.2.1 C.2.2.2.2.2.2.2.2.1.2.2.1 hP.2 C.2.2.2.1 (C.2.2.2.2.1.use _ h) (fun _ h9 => h9) hd (kk C H locs ls hP hl')
  · exact va_getsN C.1 C.2.1 C.2.2.2.2.2.2.2.2.1.2.2.1 hP.2 C.2.2.2.1 (C.2.2.2.2.1.use _ h) (fun _ h9 => h9) hd (kk C H locs ls hP hl')
theorem lc_slWEI (hd : decode cc pc = .ok (.arraylength, 1)) (kk : lc_V G Γ cc nL own (pc + 1) lv (.int 5 :: st) (σ)) : lc_V G Γ cc nL own (pc) lv (.ref G.2.2.2.2.2.2.2 :: st) (σ) := fun C H locs ls hP hl => va_tlen C.1 C.2.1 C.2.2.2.2.2.2.2.2.1.2.2.2 hP.2 rfl hd (kk C H locs ls hP hl)
theorem lc_saWEI (i : Nat) {z : Int32} (hx : z = nI i) (hi : i < 5) (hd : decode cc pc = .ok (.iaload, 1)) (kk : lc_V G Γ cc nL own (pc + 1) lv (.int (lc_wei i) :: st) (σ)) : lc_V G Γ cc nL own (pc) lv (.int z :: .ref G.2.2.2.2.2.2.2 :: st) (σ) := by
  intro C H locs ls hP hl
  subst hx
  exact va_ti C.1 C.2.1 C.2.2.2.2.2.2.2.2.1.2.2.2 hP.2 (vp_in_nI hi (by omega)) (v := .int (lc_wei i)) (by rw [nI_clamp (by omega)]) hd (kk C H locs ls hP hl)
theorem lc_tern {b : Bool} {off off2 : Int} (t m : Nat) (hd1 : decode cc pc = .ok (.ifCond .eq off, 3)) (ht1 : (pc : Int) + off = (t : Int)) (hd2 : decode cc (pc + 3) = .ok (.iconst 1, 1)) (hd3 : decode cc (pc + 3 + 1) = .ok (.goto off2, 3)) (ht2 : ((pc + 3 + 1 : Nat) : Int) + off2 = (m : Int)) (hd4 : decode cc t = .ok (.iconst 0, 1)) (hm : m = t + 1) (kk : lc_V G Γ cc nL own m lv (.int (lc_bi b) :: st) σ) : lc_V G Γ cc nL own pc lv (.int (lc_bi b) :: st) σ := by
  subst hm
  refine lc_ifb_eq t hd1 ht1 (fun h => ?_) (fun h => ?_)
  · rw [h] at kk
    exact lc_iconst (v := 0) hd4 (by decide) kk
  · rw [h] at kk
    exact lc_iconst (v := 1) hd2 (by decide) (lc_goto (t + 1) hd3 ht2 kk)
end LCR2
def sp_it {α : Type} (f : Nat → α → α) : Nat → α → α
  | 0, z => z
  | n + 1, z => f n (sp_it f n z)
theorem lc_forI {α : Type} (P : Nat → α → Prop) (I : Nat → α → Prop) (f : Nat → α → α) (n : Nat) (hI : ∀ i z, i < n → I i z → I (i + 1) (f i z)) (step : ∀ i z, i < n → I i z → P (i + 1) (f i z) → P i z) (z : α) (h0 : I 0 z) (done : I n (sp_it f n z) → P n (sp_it f n z)) : P 0 z := by
  have key : ∀ m, m ≤ n → I m (sp_it f m z) ∧ (P m (sp_it f m z) → P 0 z) := by
    intro m
    induction m with
    | zero => intro _; exact ⟨h0, fun h => h⟩
    | succ m ih =>
      intro hm
      obtain ⟨h1, h2⟩ := ih (by omega)
      exact ⟨hI m _ (by omega) h1, fun h => h2 (step m _ (by omega) h1 h)⟩
  obtain ⟨h1, h2⟩ := key n (Nat.le_refl n)
  exact h2 (done h1)
theorem lc_for {α : Type} (P : Nat → α → Prop) (f : Nat → α → α) (n : Nat) (step : ∀ i z, i < n → P (i + 1) (f i z) → P i z) (z : α) (done : P n (sp_it f n z)) : P 0 z := lc_forI P (fun _ _ => True) f n (fun _ _ _ _ => trivial) (fun i z h _ => step i z h) z trivial (fun _ => done)
theorem sp_it_I {α : Type} (I : Nat → α → Prop) (f : Nat → α → α) (n : Nat) (hI : ∀ i z, i < n → I i z → I (i + 1) (f i z)) (z : α) (h0 : I 0 z) : I n (sp_it f n z) := by
  have key : ∀ m, m ≤ n → I m (sp_it f m z) := by
    intro m
    induction m with
    | zero => intro _; exact h0
    | succ m ih => intro hm; exact hI m _ (by omega) (ih (by omega))
  exact key n (Nat.le_refl n)
theorem sp_it_congr {α : Type} (I : Nat → α → Prop) (f g : Nat → α → α) (n : Nat) (hI : ∀ i z, i < n → I i z → I (i + 1) (f i z)) (he : ∀ i z, i < n → I i z → f i z = g i z) (z : α) (h0 : I 0 z) : sp_it f n z = sp_it g n z := by
  have key : ∀ m, m ≤ n → sp_it f m z = sp_it g m z := by
    intro m
    induction m with
    | zero => intro _; rfl
    | succ m ih =>
      intro hm
      have h1 : I m (sp_it f m z) := sp_it_I I f m (fun i z h => hI i z (by omega)) z h0
      show f m (sp_it f m z) = g m (sp_it g m z)
      rw [he m _ (by omega) h1, ih (by omega)]
  exact key n (Nat.le_refl n)
def sp_all (f : Nat → Bool) : Nat → Bool
  | 0 => true
  | n + 1 => sp_all f n && f n
theorem sp_all_iff {f : Nat → Bool} {n : Nat} : sp_all f n = true ↔ ∀ i, i < n → f i = true := by
  induction n with
  | zero => simp [sp_all]
  | succ n ih =>
    simp only [sp_all, Bool.and_eq_true, ih]
    constructor
    · intro h i hi
      by_cases e : i = n
      · rw [e]; exact h.2
      · exact h.1 i (by omega)
    · intro h
      exact ⟨fun i hi => h i (by omega), h n (by omega)⟩
theorem sp_all_f {f : Nat → Bool} {n i : Nat} (hi : i < n) (h : f i = false) : sp_all f n = false := by
  cases e : sp_all f n with
  | false => rfl
  | true => rw [sp_all_iff.mp e i hi] at h; cases h
theorem lc_forB (P : Nat → Prop) (f : Nat → Bool) (n : Nat) (step : ∀ i, i < n → (f i = true → P (i + 1)) → P i) (done : sp_all f n = true → P n) : P 0 := by
  have key : ∀ m, m ≤ n → (sp_all f m = true → P m) → P 0 := by
    intro m
    induction m with
    | zero => intro _ h; exact h rfl
    | succ m ih =>
      intro hm h
      refine ih (by omega) (fun ha => step m (by omega) (fun hf => h ?_))
      show (sp_all f m && f m) = true
      rw [ha, hf]
      rfl
  exact key n (Nat.le_refl n) done
theorem sp_it_nest {α : Type} (f : Nat → α → α) (n : Nat) (z : α) : sp_it f (4 * n) z = sp_it (fun a => sp_it (fun k => f (4 * a + k)) 4) n z := by
  induction n with
  | zero => rfl
  | succ n ih =>
    show sp_it f (4 * n + 4) z = sp_it (fun k => f (4 * n + k)) 4 (sp_it (fun a => sp_it (fun k => f (4 * a + k)) 4) n z)
    rw [← ih]
    rfl
end
section
/-! pure words: what single things are, by the numbers of a core -/
def sp_new (B : lc_C) (i k : Nat) : Bool := decide (B 2 k < B 2 i) || (decide (B 2 i = B 2 k) && decide (B 3 k < B 3 i))
def sp_below (B : lc_C) (i : Nat) (s : Int32) : Bool := !decide (B 0 i = 0) && decide (B 2 i < s)
def sp_dor (B : lc_C) (i : Nat) : Bool := decide (B 0 i = 2) && decide (B 6 0 < B 7 1 - B 3 i)
def sp_aw (B : lc_C) (i : Nat) : Bool := decide (B 0 i = 1) || (decide (B 0 i = 2) && decide (B 7 1 - B 3 i ≤ B 6 0))
def sp_bit (b k : Int32) : Bool := decide ((b >>> (k &&& 31)) &&& 1 = 1)
def sp_kept (B : lc_C) (i : Nat) (s : Int32) : Bool := sp_bit (B 4 i) s && decide (B 7 1 - B 3 i ≤ B 6 0 + B 6 1)
def sp_rec (B : lc_C) (i : Nat) : Bool := sp_aw B i && decide (B 7 1 - B 3 i < B 6 3)
def sp_same (B : lc_C) (i k : Nat) : Bool := if sp_aw B i && sp_aw B k then decide (B 2 i = B 2 k) && decide (B 3 i = B 3 k) else !sp_aw B i && !sp_aw B k
def sp_site (B : lc_C) (s : Int32) : Bool := decide (0 ≤ s) && decide (s < B 7 0)
def sp_none (B : lc_C) (i : Nat) : lc_C := lc_cu (lc_cu (lc_cu (lc_cu (lc_cu (lc_cu B 0 i 0) 1 i (-1)) 2 i (-1)) 3 i (-1)) 4 i (-1)) 5 i 0
def sp_val (B : lc_C) (i : Nat) (v n h : Int32) : lc_C := lc_cu (lc_cu (lc_cu (lc_cu (lc_cu (lc_cu B 0 i 1) 1 i v) 2 i n) 3 i n) 4 i (-1)) 5 i h
def sp_cer (B : lc_C) (i : Nat) (k n h : Int32) : lc_C := lc_cu (lc_cu (lc_cu (lc_cu (lc_cu (lc_cu B 0 i 2) 1 i (-1)) 2 i n) 3 i n) 4 i k) 5 i h
def sp_copy (B : lc_C) (i : Nat) (E : lc_C) (k : Nat) (h : Int32) : lc_C := lc_cu (lc_cu (lc_cu (lc_cu (lc_cu (lc_cu B 0 i (E 0 k)) 1 i (E 1 k)) 2 i (E 2 k)) 3 i (E 3 k)) 4 i (E 4 k)) 5 i h
def sp_wake (x : lc_X) (i : Nat) : lc_X := (lc_cu (lc_cu x.1 3 i (x.1 7 1)) 5 i (x.1 6 2), x.2.1, x.2.2.1 + 1, x.2.2.2)
end
section
set_option maxRecDepth 100000 in
set_option maxHeartbeats 4000000 in
theorem c_X0_isNewer (l : Launch) (G : lc_G) (σ : lc_S) (j : Nat) (x : lc_X) (i k : Nat) (hj : j < 2) (hi : i < 24) (hk : k < 24) : lc_M l G yX0_isNewer cX0_isNewer 2 (some .boolean) { frames := 0, cells := 0, slots := 0, locals := 0 } [.ref (G.1 (lc_it j i)), .ref (G.1 (lc_it j k))] (lc_w σ j x) (some (.int (lc_bi (sp_new x.1 i k)))) (lc_w σ j x) := by
  refine lc_entry [(0, .ref (G.1 (lc_it j i))), (1, .ref (G.1 (lc_it j k)))] (by decide) (Nat.le_of_ble_eq_true rfl) rfl rfl rfl ?_
  intro Γ hR
  refine lc_aload_n 0 dX0_isNewer_0 rfl ?_
  refine lc_gIw j i 2 (by omega) (by omega) (by decide) fl_X0_21 dX0_isNewer_1 ?_
  refine lc_aload_n 1 dX0_isNewer_4 rfl ?_
  refine lc_gIw j k 2 (by omega) (by omega) (by decide) fl_X0_21 dX0_isNewer_5 ?_
  refine lc_icmp_gt 33 dX0_isNewer_8 (by decide) (fun c_1 => ?_) (fun c_1 => ?_)
  · skip
    refine lc_iconst (v := 1) dX0_isNewer_33 (by decide) ?_
    refine lc_goto 38 dX0_isNewer_34 (by decide) ?_
    exact lc_zret hR dX0_isNewer_38 (by simp [sp_new, lc_bi, c_1]) (rfl)
  · skip
    refine lc_aload_n 0 dX0_isNewer_11 rfl ?_
    refine lc_gIw j i 2 (by omega) (by omega) (by decide) fl_X0_21 dX0_isNewer_12 ?_
    refine lc_aload_n 1 dX0_isNewer_15 rfl ?_
    refine lc_gIw j k 2 (by omega) (by omega) (by decide) fl_X0_21 dX0_isNewer_16 ?_
    refine lc_icmp_ne 37 dX0_isNewer_19 (by decide) (fun c_2 => ?_) (fun c_2 => ?_)
    · skip
      refine lc_iconst (v := 0) dX0_isNewer_37 (by decide) ?_
      exact lc_zret hR dX0_isNewer_38 (by simp [sp_new, lc_bi, c_1, c_2]) (rfl)
    · skip
      refine lc_aload_n 0 dX0_isNewer_22 rfl ?_
      refine lc_gIw j i 3 (by omega) (by omega) (by decide) fl_X0_24 dX0_isNewer_23 ?_
      refine lc_aload_n 1 dX0_isNewer_26 rfl ?_
      refine lc_gIw j k 3 (by omega) (by omega) (by decide) fl_X0_24 dX0_isNewer_27 ?_
      refine lc_icmp_le 37 dX0_isNewer_30 (by decide) (fun c_3 => ?_) (fun c_3 => ?_)
      · skip
        refine lc_iconst (v := 0) dX0_isNewer_37 (by decide) ?_
        exact lc_zret hR dX0_isNewer_38 (by simp [sp_new, lc_bi, c_1, c_2, c_3]) (rfl)
      · skip
        refine lc_iconst (v := 1) dX0_isNewer_33 (by decide) ?_
        refine lc_goto 38 dX0_isNewer_34 (by decide) ?_
        exact lc_zret hR dX0_isNewer_38 (by simp [sp_new, lc_bi, c_1, c_2, c_3]) (rfl)

set_option maxRecDepth 100000 in
set_option maxHeartbeats 4000000 in
theorem c_X0_isItemBelow (l : Launch) (G : lc_G) (σ : lc_S) (j : Nat) (x : lc_X) (i : Nat) (hj : j < 2) (hi : i < 24) (s : Int32) : lc_M l G yX0_isItemBelow cX0_isItemBelow 2 (some .boolean) { frames := 0, cells := 0, slots := 0, locals := 0 } [.ref (G.1 (lc_it j i)), .int (s)] (lc_w σ j x) (some (.int (lc_bi (sp_below x.1 i s)))) (lc_w σ j x) := by
  refine lc_entry [(0, .ref (G.1 (lc_it j i))), (1, .int (s))] (by decide) (Nat.le_of_ble_eq_true rfl) rfl rfl rfl ?_
  intro Γ hR
  refine lc_aload_n 0 dX0_isItemBelow_0 rfl ?_
  refine lc_gIw j i 0 (by omega) (by omega) (by decide) fl_X0_14 dX0_isItemBelow_1 ?_
  refine lc_if_eq 19 dX0_isItemBelow_4 (by decide) (fun c_1 => ?_) (fun c_1 => ?_)
  · skip
    refine lc_iconst (v := 0) dX0_isItemBelow_19 (by decide) ?_
    exact lc_zret hR dX0_isItemBelow_20 (by simp [sp_below, lc_bi, c_1]) (rfl)
  · skip
    refine lc_aload_n 0 dX0_isItemBelow_7 rfl ?_
    refine lc_gIw j i 2 (by omega) (by omega) (by decide) fl_X0_21 dX0_isItemBelow_8 ?_
    refine lc_iload_n 1 dX0_isItemBelow_11 rfl ?_
    refine lc_icmp_ge 19 dX0_isItemBelow_12 (by decide) (fun c_2 => ?_) (fun c_2 => ?_)
    · skip
      refine lc_iconst (v := 0) dX0_isItemBelow_19 (by decide) ?_
      exact lc_zret hR dX0_isItemBelow_20 (by simp [sp_below, lc_bi, c_1, c_2]) (rfl)
    · skip
      refine lc_iconst (v := 1) dX0_isItemBelow_15 (by decide) ?_
      refine lc_goto 20 dX0_isItemBelow_16 (by decide) ?_
      exact lc_zret hR dX0_isItemBelow_20 (by simp [sp_below, lc_bi, c_1, c_2]) (rfl)

set_option maxRecDepth 100000 in
set_option maxHeartbeats 4000000 in
theorem c_X0_becomeNothing (l : Launch) (G : lc_G) (σ : lc_S) (j : Nat) (x : lc_X) (i : Nat) (hj : j < 2) (hi : i < 24) : lc_M l G yX0_becomeNothing cX0_becomeNothing 1 none { frames := 0, cells := 0, slots := 0, locals := 0 } [.ref (G.1 (lc_it j i))] (lc_w σ j x) none (lc_w σ j ((sp_none x.1 i, x.2))) := by
  refine lc_entry [(0, .ref (G.1 (lc_it j i)))] (by decide) (Nat.le_of_ble_eq_true rfl) rfl rfl rfl ?_
  intro Γ hR
  refine lc_aload_n 0 dX0_becomeNothing_0 rfl ?_
  refine lc_iconst (v := 0) dX0_becomeNothing_1 (by decide) ?_
  refine lc_pIw j i 0 (by omega) (by omega) (by decide) fl_X0_14 dX0_becomeNothing_2 ?_
  refine lc_aload_n 0 dX0_becomeNothing_5 rfl ?_
  refine lc_iconst (v := (-1)) dX0_becomeNothing_6 (by decide) ?_
  refine lc_pIw j i 1 (by omega) (by omega) (by decide) fl_X0_18 dX0_becomeNothing_7 ?_
  refine lc_aload_n 0 dX0_becomeNothing_10 rfl ?_
  refine lc_iconst (v := (-1)) dX0_becomeNothing_11 (by decide) ?_
  refine lc_pIw j i 2 (by omega) (by omega) (by decide) fl_X0_21 dX0_becomeNothing_12 ?_
  refine lc_aload_n 0 dX0_becomeNothing_15 rfl ?_
  refine lc_iconst (v := (-1)) dX0_becomeNothing_16 (by decide) ?_
  refine lc_pIw j i 3 (by omega) (by omega) (by decide) fl_X0_24 dX0_becomeNothing_17 ?_
  refine lc_aload_n 0 dX0_becomeNothing_20 rfl ?_
  refine lc_iconst (v := (-1)) dX0_becomeNothing_21 (by decide) ?_
  refine lc_pIw j i 4 (by omega) (by omega) (by decide) fl_X0_27 dX0_becomeNothing_22 ?_
  refine lc_aload_n 0 dX0_becomeNothing_25 rfl ?_
  refine lc_iconst (v := 0) dX0_becomeNothing_26 (by decide) ?_
  refine lc_pIw j i 5 (by omega) (by omega) (by decide) fl_X0_30 dX0_becomeNothing_27 ?_
  exact lc_vret hR dX0_becomeNothing_30 (rfl)

set_option maxRecDepth 100000 in
set_option maxHeartbeats 4000000 in
theorem c_X0_becomeValue (l : Launch) (G : lc_G) (σ : lc_S) (j : Nat) (x : lc_X) (i : Nat) (hj : j < 2) (hi : i < 24) (v n h : Int32) : lc_M l G yX0_becomeValue cX0_becomeValue 4 none { frames := 0, cells := 0, slots := 0, locals := 0 } [.ref (G.1 (lc_it j i)), .int (v), .int (n), .int (h)] (lc_w σ j x) none (lc_w σ j ((sp_val x.1 i v n h, x.2))) := by
  refine lc_entry [(0, .ref (G.1 (lc_it j i))), (1, .int (v)), (2, .int (n)), (3, .int (h))] (by decide) (Nat.le_of_ble_eq_true rfl) rfl rfl rfl ?_
  intro Γ hR
  refine lc_aload_n 0 dX0_becomeValue_0 rfl ?_
  refine lc_iconst (v := 1) dX0_becomeValue_1 (by decide) ?_
  refine lc_pIw j i 0 (by omega) (by omega) (by decide) fl_X0_14 dX0_becomeValue_2 ?_
  refine lc_aload_n 0 dX0_becomeValue_5 rfl ?_
  refine lc_iload_n 1 dX0_becomeValue_6 rfl ?_
  refine lc_pIw j i 1 (by omega) (by omega) (by decide) fl_X0_18 dX0_becomeValue_7 ?_
  refine lc_aload_n 0 dX0_becomeValue_10 rfl ?_
  refine lc_iload_n 2 dX0_becomeValue_11 rfl ?_
  refine lc_pIw j i 2 (by omega) (by omega) (by decide) fl_X0_21 dX0_becomeValue_12 ?_
  refine lc_aload_n 0 dX0_becomeValue_15 rfl ?_
  refine lc_iload_n 2 dX0_becomeValue_16 rfl ?_
  refine lc_pIw j i 3 (by omega) (by omega) (by decide) fl_X0_24 dX0_becomeValue_17 ?_
  refine lc_aload_n 0 dX0_becomeValue_20 rfl ?_
  refine lc_iconst (v := (-1)) dX0_becomeValue_21 (by decide) ?_
  refine lc_pIw j i 4 (by omega) (by omega) (by decide) fl_X0_27 dX0_becomeValue_22 ?_
  refine lc_aload_n 0 dX0_becomeValue_25 rfl ?_
  refine lc_iload_n 3 dX0_becomeValue_26 rfl ?_
  refine lc_pIw j i 5 (by omega) (by omega) (by decide) fl_X0_30 dX0_becomeValue_27 ?_
  exact lc_vret hR dX0_becomeValue_30 (rfl)

set_option maxRecDepth 100000 in
set_option maxHeartbeats 4000000 in
theorem c_X0_becomeCertificate (l : Launch) (G : lc_G) (σ : lc_S) (j : Nat) (x : lc_X) (i : Nat) (hj : j < 2) (hi : i < 24) (v n h : Int32) : lc_M l G yX0_becomeCertificate cX0_becomeCertificate 4 none { frames := 0, cells := 0, slots := 0, locals := 0 } [.ref (G.1 (lc_it j i)), .int (v), .int (n), .int (h)] (lc_w σ j x) none (lc_w σ j ((sp_cer x.1 i v n h, x.2))) := by
  refine lc_entry [(0, .ref (G.1 (lc_it j i))), (1, .int (v)), (2, .int (n)), (3, .int (h))] (by decide) (Nat.le_of_ble_eq_true rfl) rfl rfl rfl ?_
  intro Γ hR
  refine lc_aload_n 0 dX0_becomeCertificate_0 rfl ?_
  refine lc_iconst (v := 2) dX0_becomeCertificate_1 (by decide) ?_
  refine lc_pIw j i 0 (by omega) (by omega) (by decide) fl_X0_14 dX0_becomeCertificate_2 ?_
  refine lc_aload_n 0 dX0_becomeCertificate_5 rfl ?_
  refine lc_iconst (v := (-1)) dX0_becomeCertificate_6 (by decide) ?_
  refine lc_pIw j i 1 (by omega) (by omega) (by decide) fl_X0_18 dX0_becomeCertificate_7 ?_
  refine lc_aload_n 0 dX0_becomeCertificate_10 rfl ?_
  refine lc_iload_n 2 dX0_becomeCertificate_11 rfl ?_
  refine lc_pIw j i 2 (by omega) (by omega) (by decide) fl_X0_21 dX0_becomeCertificate_12 ?_
  refine lc_aload_n 0 dX0_becomeCertificate_15 rfl ?_
  refine lc_iload_n 2 dX0_becomeCertificate_16 rfl ?_
  refine lc_pIw j i 3 (by omega) (by omega) (by decide) fl_X0_24 dX0_becomeCertificate_17 ?_
  refine lc_aload_n 0 dX0_becomeCertificate_20 rfl ?_
  refine lc_iload_n 1 dX0_becomeCertificate_21 rfl ?_
  refine lc_pIw j i 4 (by omega) (by omega) (by decide) fl_X0_27 dX0_becomeCertificate_22 ?_
  refine lc_aload_n 0 dX0_becomeCertificate_25 rfl ?_
  refine lc_iload_n 3 dX0_becomeCertificate_26 rfl ?_
  refine lc_pIw j i 5 (by omega) (by omega) (by decide) fl_X0_30 dX0_becomeCertificate_27 ?_
  exact lc_vret hR dX0_becomeCertificate_30 (rfl)

set_option maxRecDepth 100000 in
set_option maxHeartbeats 4000000 in
theorem c_X3_knowsSite (l : Launch) (G : lc_G) (σ : lc_S) (j : Nat) (x : lc_X) (s : Int32) (hj : j < 2) : lc_M l G yX3_knowsSite cX3_knowsSite 2 (some .boolean) { frames := 0, cells := 0, slots := 0, locals := 0 } [.ref (G.1 (4 + j)), .int (s)] (lc_w σ j x) (some (.int (lc_bi (sp_site x.1 s)))) (lc_w σ j x) := by
  refine lc_entry [(0, .ref (G.1 (4 + j))), (1, .int (s))] (by decide) (Nat.le_of_ble_eq_true rfl) rfl rfl rfl ?_
  intro Γ hR
  refine lc_iload_n 1 dX3_knowsSite_0 rfl ?_
  refine lc_if_lt 16 dX3_knowsSite_1 (by decide) (fun c_1 => ?_) (fun c_1 => ?_)
  · skip
    refine lc_iconst (v := 0) dX3_knowsSite_16 (by decide) ?_
    exact lc_zret hR dX3_knowsSite_17 (by simp [sp_site, lc_bi, c_1]) (rfl)
  · skip
    refine lc_iload_n 1 dX3_knowsSite_4 rfl ?_
    refine lc_aload_n 0 dX3_knowsSite_5 rfl ?_
    refine lc_gWSites j (by omega) fl_X3_34 dX3_knowsSite_6 ?_
    refine lc_icmp_ge 16 dX3_knowsSite_9 (by decide) (fun c_2 => ?_) (fun c_2 => ?_)
    · skip
      refine lc_iconst (v := 0) dX3_knowsSite_16 (by decide) ?_
      exact lc_zret hR dX3_knowsSite_17 (by simp [sp_site, lc_bi, c_1, c_2]) (rfl)
    · skip
      refine lc_iconst (v := 1) dX3_knowsSite_12 (by decide) ?_
      refine lc_goto 17 dX3_knowsSite_13 (by decide) ?_
      exact lc_zret hR dX3_knowsSite_17 (by simp [sp_site, lc_bi, c_1, c_2]) (rfl)

set_option maxRecDepth 100000 in
set_option maxHeartbeats 4000000 in
theorem c_X3_isOff (l : Launch) (G : lc_G) (σ : lc_S) (j : Nat) (x : lc_X) (s : Int32) (hj : j < 2) : lc_M l G yX3_isOff cX3_isOff 2 (some .boolean) { frames := 0, cells := 0, slots := 0, locals := 0 } [.ref (G.1 (4 + j)), .int (s)] (lc_w σ j x) (some (.int (lc_bi (sp_bit (x.1 7 2) s)))) (lc_w σ j x) := by
  refine lc_entry [(0, .ref (G.1 (4 + j))), (1, .int (s))] (by decide) (Nat.le_of_ble_eq_true rfl) rfl rfl rfl ?_
  intro Γ hR
  refine lc_aload_n 0 dX3_isOff_0 rfl ?_
  refine lc_gWOff j (by omega) fl_X3_40 dX3_isOff_1 ?_
  refine lc_iload_n 1 dX3_isOff_4 rfl ?_
  refine lc_ishr dX3_isOff_5 ?_
  refine lc_iconst (v := 1) dX3_isOff_6 (by decide) ?_
  refine lc_iand dX3_isOff_7 ?_
  refine lc_iconst (v := 1) dX3_isOff_8 (by decide) ?_
  refine lc_icmp_ne 16 dX3_isOff_9 (by decide) (fun c_1 => ?_) (fun c_1 => ?_)
  · skip
    refine lc_iconst (v := 0) dX3_isOff_16 (by decide) ?_
    exact lc_zret hR dX3_isOff_17 (by simp [sp_bit, lc_bi, c_1]) (rfl)
  · skip
    refine lc_iconst (v := 1) dX3_isOff_12 (by decide) ?_
    refine lc_goto 17 dX3_isOff_13 (by decide) ?_
    exact lc_zret hR dX3_isOff_17 (by simp [sp_bit, lc_bi, c_1]) (rfl)

set_option maxRecDepth 100000 in
set_option maxHeartbeats 4000000 in
theorem c_X3_itemAt (l : Launch) (G : lc_G) (σ : lc_S) (j : Nat) (a k : Nat) (hj : j < 2) (ha : a < 6) (hk : k < 4) : lc_M l G yX3_itemAt cX3_itemAt 3 (some (.object "LateCopies$Item")) { frames := 0, cells := 0, slots := 0, locals := 0 } [.ref (G.1 (4 + j)), .int (nI a), .int (nI k)] (σ) (some (.ref (G.1 (lc_it j (4 * a + k))))) (σ) := by
  refine lc_entry [(0, .ref (G.1 (4 + j))), (1, .int (nI a)), (2, .int (nI k))] (by decide) (Nat.le_of_ble_eq_true rfl) rfl rfl rfl ?_
  intro Γ hR
  refine lc_aload_n 0 dX3_itemAt_0 rfl ?_
  refine lc_gWIts j (by omega) fl_X3_20 dX3_itemAt_1 ?_
  refine lc_iload_n 1 dX3_itemAt_4 rfl ?_
  refine lc_iconst (v := 4) dX3_itemAt_5 (by decide) ?_
  refine lc_imul dX3_itemAt_6 ?_
  refine lc_iload_n 2 dX3_itemAt_7 rfl ?_
  refine lc_iadd dX3_itemAt_8 ?_
  refine lc_aald j (4 * a + k) (by omega) (lc_m4ra a k) (by omega) dX3_itemAt_9 ?_
  exact lc_aret hR dX3_itemAt_10 (rfl) (rfl)

set_option maxRecDepth 100000 in
set_option maxHeartbeats 4000000 in
theorem c_X3_isDormant (l : Launch) (G : lc_G) (σ : lc_S) (j : Nat) (x : lc_X) (i : Nat) (hj : j < 2) (hi : i < 24) : lc_M l G yX3_isDormant cX3_isDormant 2 (some .boolean) { frames := 0, cells := 0, slots := 0, locals := 0 } [.ref (G.1 (4 + j)), .ref (G.1 (lc_it j i))] (lc_w σ j x) (some (.int (lc_bi (sp_dor x.1 i)))) (lc_w σ j x) := by
  refine lc_entry [(0, .ref (G.1 (4 + j))), (1, .ref (G.1 (lc_it j i)))] (by decide) (Nat.le_of_ble_eq_true rfl) rfl rfl rfl ?_
  intro Γ hR
  refine lc_aload_n 1 dX3_isDormant_0 rfl ?_
  refine lc_gIw j i 0 (by omega) (by omega) (by decide) fl_X3_87 dX3_isDormant_1 ?_
  refine lc_iconst (v := 2) dX3_isDormant_4 (by decide) ?_
  refine lc_icmp_ne 30 dX3_isDormant_5 (by decide) (fun c_1 => ?_) (fun c_1 => ?_)
  · skip
    refine lc_iconst (v := 0) dX3_isDormant_30 (by decide) ?_
    exact lc_zret hR dX3_isDormant_31 (by simp [sp_dor, lc_bi, c_1]) (rfl)
  · skip
    refine lc_aload_n 0 dX3_isDormant_8 rfl ?_
    refine lc_gWNow j (by omega) fl_X3_37 dX3_isDormant_9 ?_
    refine lc_aload_n 1 dX3_isDormant_12 rfl ?_
    refine lc_gIw j i 3 (by omega) (by omega) (by decide) fl_X3_90 dX3_isDormant_13 ?_
    refine lc_isub dX3_isDormant_16 ?_
    refine lc_aload_n 0 dX3_isDormant_17 rfl ?_
    refine lc_gWLim j (by omega) fl_X3_9 dX3_isDormant_18 ?_
    refine lc_iconst (v := 0) dX3_isDormant_21 (by decide) ?_
    refine lc_iald (6 + j) 0 (by omega) (lc_eLim j (by omega)) (rfl) (by omega) (by decide) dX3_isDormant_22 ?_
    refine lc_icmp_le 30 dX3_isDormant_23 (by decide) (fun c_2 => ?_) (fun c_2 => ?_)
    · skip
      refine lc_iconst (v := 0) dX3_isDormant_30 (by decide) ?_
      exact lc_zret hR dX3_isDormant_31 (by simp [sp_dor, lc_bi, c_1, c_2]) (rfl)
    · skip
      refine lc_iconst (v := 1) dX3_isDormant_26 (by decide) ?_
      refine lc_goto 31 dX3_isDormant_27 (by decide) ?_
      exact lc_zret hR dX3_isDormant_31 (by simp [sp_dor, lc_bi, c_1, c_2]) (rfl)

set_option maxRecDepth 100000 in
set_option maxHeartbeats 4000000 in
theorem c_X3_isAwake (l : Launch) (G : lc_G) (σ : lc_S) (j : Nat) (x : lc_X) (i : Nat) (hj : j < 2) (hi : i < 24) : lc_M l G yX3_isAwake cX3_isAwake 2 (some .boolean) { frames := 0, cells := 0, slots := 0, locals := 0 } [.ref (G.1 (4 + j)), .ref (G.1 (lc_it j i))] (lc_w σ j x) (some (.int (lc_bi (sp_aw x.1 i)))) (lc_w σ j x) := by
  refine lc_entry [(0, .ref (G.1 (4 + j))), (1, .ref (G.1 (lc_it j i)))] (by decide) (Nat.le_of_ble_eq_true rfl) rfl rfl rfl ?_
  intro Γ hR
  refine lc_aload_n 1 dX3_isAwake_0 rfl ?_
  refine lc_gIw j i 0 (by omega) (by omega) (by decide) fl_X3_87 dX3_isAwake_1 ?_
  refine lc_iconst (v := 1) dX3_isAwake_4 (by decide) ?_
  refine lc_icmp_eq 34 dX3_isAwake_5 (by decide) (fun c_1 => ?_) (fun c_1 => ?_)
  · skip
    refine lc_iconst (v := 1) dX3_isAwake_34 (by decide) ?_
    refine lc_goto 39 dX3_isAwake_35 (by decide) ?_
    exact lc_zret hR dX3_isAwake_39 (by simp [sp_aw, lc_bi, c_1]) (rfl)
  · skip
    refine lc_aload_n 1 dX3_isAwake_8 rfl ?_
    refine lc_gIw j i 0 (by omega) (by omega) (by decide) fl_X3_87 dX3_isAwake_9 ?_
    refine lc_iconst (v := 2) dX3_isAwake_12 (by decide) ?_
    refine lc_icmp_ne 38 dX3_isAwake_13 (by decide) (fun c_2 => ?_) (fun c_2 => ?_)
    · skip
      refine lc_iconst (v := 0) dX3_isAwake_38 (by decide) ?_
      exact lc_zret hR dX3_isAwake_39 (by simp [sp_aw, lc_bi, c_1, c_2]) (rfl)
    · skip
      refine lc_aload_n 0 dX3_isAwake_16 rfl ?_
      refine lc_gWNow j (by omega) fl_X3_37 dX3_isAwake_17 ?_
      refine lc_aload_n 1 dX3_isAwake_20 rfl ?_
      refine lc_gIw j i 3 (by omega) (by omega) (by decide) fl_X3_90 dX3_isAwake_21 ?_
      refine lc_isub dX3_isAwake_24 ?_
      refine lc_aload_n 0 dX3_isAwake_25 rfl ?_
      refine lc_gWLim j (by omega) fl_X3_9 dX3_isAwake_26 ?_
      refine lc_iconst (v := 0) dX3_isAwake_29 (by decide) ?_
      refine lc_iald (6 + j) 0 (by omega) (lc_eLim j (by omega)) (rfl) (by omega) (by decide) dX3_isAwake_30 ?_
      refine lc_icmp_gt 38 dX3_isAwake_31 (by decide) (fun c_3 => ?_) (fun c_3 => ?_)
      · skip
        refine lc_iconst (v := 0) dX3_isAwake_38 (by decide) ?_
        exact lc_zret hR dX3_isAwake_39 (by simp [sp_aw, lc_bi, c_1, c_2, c_3]) (rfl)
      · skip
        refine lc_iconst (v := 1) dX3_isAwake_34 (by decide) ?_
        refine lc_goto 39 dX3_isAwake_35 (by decide) ?_
        exact lc_zret hR dX3_isAwake_39 (by simp [sp_aw, lc_bi, c_1, c_2, c_3]) (rfl)
end
section
/-! pure words of a world: what its methods do -/
theorem lc_it74 {j i : Nat} (hj : j < 2) (hi : i < 24) : lc_it j i < 74 := by unfold lc_it; omega
def sp_dg (i : Nat) (z : Int32 × lc_X) : Int32 × lc_X := if (sp_dor z.2.1 i && !sp_kept z.2.1 i (nI (i / 4))) = true then (z.1 + 1, (sp_none z.2.1 i, z.2.2)) else z
def sp_dgs (a : Nat) (z : Int32 × lc_X) : Int32 × lc_X := sp_it (fun k => sp_dg (4 * a + k)) 4 z
def sp_dropZ (n : Nat) (x : lc_X) : Int32 × lc_X := sp_it sp_dgs n (0, x)
def sp_drop (n : Nat) (x : lc_X) : Int32 × lc_X := ((sp_dropZ n x).1, ((sp_dropZ n x).2.1, (sp_dropZ n x).2.2.1, (sp_dropZ n x).2.2.2.1, (sp_dropZ n x).2.2.2.2 + (sp_dropZ n x).1))
def sp_adv (n : Nat) (x : lc_X) (d : Int32) : Int32 × lc_X := sp_drop n (lc_cu x.1 7 1 (x.1 7 1 + d), x.2)
theorem sp_dg_7 (i : Nat) (z : Int32 × lc_X) : (sp_dg i z).2.1 7 = z.2.1 7 := by
  unfold sp_dg
  split <;> rfl
theorem sp_dg_6 (i : Nat) (z : Int32 × lc_X) : (sp_dg i z).2.1 6 = z.2.1 6 := by
  unfold sp_dg
  split <;> rfl
theorem sp_dgs_7 (a : Nat) (z : Int32 × lc_X) : (sp_dgs a z).2.1 7 = z.2.1 7 := by
  refine sp_it_I (fun _ w => w.2.1 7 = z.2.1 7) _ 4 (fun i w _ h => ?_) z rfl
  rw [sp_dg_7]; exact h
theorem sp_dgs_6 (a : Nat) (z : Int32 × lc_X) : (sp_dgs a z).2.1 6 = z.2.1 6 := by
  refine sp_it_I (fun _ w => w.2.1 6 = z.2.1 6) _ 4 (fun i w _ h => ?_) z rfl
  rw [sp_dg_6]; exact h
theorem sp_drop_7 (n : Nat) (x : lc_X) : (sp_drop n x).2.1 7 = x.1 7 := by
  refine sp_it_I (fun _ w => w.2.1 7 = x.1 7) sp_dgs n (fun i w _ h => ?_) (0, x) rfl
  rw [sp_dgs_7]; exact h
theorem sp_drop_6 (n : Nat) (x : lc_X) : (sp_drop n x).2.1 6 = x.1 6 := by
  refine sp_it_I (fun _ w => w.2.1 6 = x.1 6) sp_dgs n (fun i w _ h => ?_) (0, x) rfl
  rw [sp_dgs_6]; exact h
def sp_meetW (x : lc_X) (p q : Nat) : lc_X := if (sp_dor x.1 p && sp_below x.1 q (x.1 2 p)) = true then sp_wake x p else if (sp_dor x.1 q && sp_below x.1 p (x.1 2 q)) = true then sp_wake x q else x
def sp_meetC (x : lc_X) (p q : Nat) : Int32 × lc_X := if (sp_aw x.1 p && sp_new x.1 p q) = true then (1, (sp_copy x.1 q x.1 p 0, x.2)) else if (sp_aw x.1 q && sp_new x.1 q p) = true then (1, (sp_copy x.1 p x.1 q 0, x.2)) else (0, x)
def sp_meet (x : lc_X) (p q : Nat) : Int32 × lc_X := sp_meetC (sp_meetW x p q) p q
def sp_tr (x : lc_X) (d : Int32) : lc_X := (x.1, x.2.1 + d, x.2.2.1, x.2.2.2)
def sp_mk (a b : Nat) (keys : Int32) (k : Nat) (z : Int32 × lc_X) : Int32 × lc_X := if sp_bit keys (nI k) = true then (z.1 + (sp_meet (sp_tr z.2 (lc_bi (sp_aw z.2.1 (4 * a + k)) + lc_bi (sp_aw z.2.1 (4 * b + k)))) (4 * a + k) (4 * b + k)).1, (sp_meet (sp_tr z.2 (lc_bi (sp_aw z.2.1 (4 * a + k)) + lc_bi (sp_aw z.2.1 (4 * b + k)))) (4 * a + k) (4 * b + k)).2) else z
def sp_mks (x : lc_X) (a b : Nat) (keys : Int32) : Int32 × lc_X := sp_it (sp_mk a b keys) 4 (0, x)
def sp_rk (B : lc_C) (a b k : Nat) (f : Int32) : Int32 := if (sp_rec B (4 * a + k) || sp_rec B (4 * b + k)) = true then f ||| ((1 : Int32) <<< (nI k &&& 31)) else f
def sp_rks (B : lc_C) (a b : Nat) : Int32 := sp_it (sp_rk B a b) 4 0
def sp_alike (B : lc_C) (a b : Nat) : Bool := sp_all (fun k => sp_same B (4 * a + k) (4 * b + k)) 4
def sp_cmp (x : lc_X) (a b : Nat) : Int32 × lc_X := if sp_alike (sp_mks x a b (sp_rks x.1 a b)).2.1 a b = true then sp_mks x a b (sp_rks x.1 a b) else ((sp_mks x a b (sp_rks x.1 a b)).1 + (sp_mks (sp_mks x a b (sp_rks x.1 a b)).2 a b (15 &&& (sp_rks x.1 a b ^^^ (-1)))).1, (sp_mks (sp_mks x a b (sp_rks x.1 a b)).2 a b (15 &&& (sp_rks x.1 a b ^^^ (-1)))).2)
def sp_tellN (x : lc_X) (p q : Nat) : lc_X := if (sp_dor (lc_cu x.1 5 p (x.1 5 p - 1)) q && sp_below (lc_cu x.1 5 p (x.1 5 p - 1)) p (lc_cu x.1 5 p (x.1 5 p - 1) 2 q)) = true then sp_wake (lc_cu x.1 5 p (x.1 5 p - 1), x.2) q else (lc_cu x.1 5 p (x.1 5 p - 1), x.2)
def sp_tell (x : lc_X) (p q : Nat) : Int32 × lc_X := if sp_new x.1 p q = true then (1, (sp_copy x.1 q x.1 p (x.1 6 2), x.2)) else (0, sp_tellN x p q)
def sp_hot (a b k : Nat) (z : Int32 × lc_X) : Int32 × lc_X := if (decide (0 < z.2.1 5 (4 * a + k)) && sp_aw z.2.1 (4 * a + k)) = true then (z.1 + (sp_tell (sp_tr z.2 1) (4 * a + k) (4 * b + k)).1, (sp_tell (sp_tr z.2 1) (4 * a + k) (4 * b + k)).2) else z
def sp_hots (x : lc_X) (a b : Nat) : Int32 × lc_X := sp_it (sp_hot a b) 4 (0, x)
def sp_nk (B : lc_C) (a : Nat) (kind : Int32) (k : Nat) (best : Option Nat) : Option Nat := if ((if kind = 0 then !decide (B 0 (4 * a + k) = 0) else decide (B 0 (4 * a + k) = kind)) && (match best with | none => true | some b => sp_new B (4 * a + k) (4 * a + b))) = true then some k else best
def sp_nks (B : lc_C) (a : Nat) (kind : Int32) : Option Nat := sp_it (sp_nk B a kind) 4 none
def sp_on (o : Option Nat) : Int32 := match o with | none => -1 | some k => nI k
def sp_rs (B : lc_C) (lat : Nat → Int32) (k s : Nat) (bits : Int32) : Int32 := if (decide (B 0 (4 * s + k) = 1) && decide (B 2 (4 * s + k) < lat k)) = true then bits ||| ((1 : Int32) <<< (nI s &&& 31)) else bits
def sp_rss (B : lc_C) (lat : Nat → Int32) (k n : Nat) : Int32 := sp_it (sp_rs B lat k) n 0
def sp_oth (s n : Int32) : Int32 := (((1 : Int32) <<< (n &&& 31)) - 1) &&& (((1 : Int32) <<< (s &&& 31)) ^^^ (-1))
def sp_othOn (B : lc_C) (s : Int32) : Int32 := sp_oth s (B 7 0) &&& (B 7 2 ^^^ (-1))
def sp_abs (v : Int32) : Int32 := if v < 0 then -v else v
end
section
set_option maxRecDepth 100000 in
set_option maxHeartbeats 4000000 in
theorem c_X0_becomeCopy (l : Launch) (G : lc_G) (σ : lc_S) (j : Nat) (x : lc_X) (i k : Nat) (hj : j < 2) (hi : i < 24) (hk : k < 24) (h : Int32) : lc_M l G yX0_becomeCopy cX0_becomeCopy 3 none { frames := 0, cells := 0, slots := 0, locals := 0 } [.ref (G.1 (lc_it j i)), .ref (G.1 (lc_it j k)), .int (h)] (lc_w σ j x) none (lc_w σ j ((sp_copy x.1 i x.1 k h, x.2))) := by
  refine lc_entry [(0, .ref (G.1 (lc_it j i))), (1, .ref (G.1 (lc_it j k))), (2, .int (h))] (by decide) (Nat.le_of_ble_eq_true rfl) rfl rfl rfl ?_
  intro Γ hR
  refine lc_aload_n 0 dX0_becomeCopy_0 rfl ?_
  refine lc_aload_n 1 dX0_becomeCopy_1 rfl ?_
  refine lc_gIw j k 0 (by omega) (by omega) (by decide) fl_X0_14 dX0_becomeCopy_2 ?_
  refine lc_pIw j i 0 (by omega) (by omega) (by decide) fl_X0_14 dX0_becomeCopy_5 ?_
  refine lc_aload_n 0 dX0_becomeCopy_8 rfl ?_
  refine lc_aload_n 1 dX0_becomeCopy_9 rfl ?_
  refine lc_gIw j k 1 (by omega) (by omega) (by decide) fl_X0_18 dX0_becomeCopy_10 ?_
  refine lc_pIw j i 1 (by omega) (by omega) (by decide) fl_X0_18 dX0_becomeCopy_13 ?_
  refine lc_aload_n 0 dX0_becomeCopy_16 rfl ?_
  refine lc_aload_n 1 dX0_becomeCopy_17 rfl ?_
  refine lc_gIw j k 2 (by omega) (by omega) (by decide) fl_X0_21 dX0_becomeCopy_18 ?_
  refine lc_pIw j i 2 (by omega) (by omega) (by decide) fl_X0_21 dX0_becomeCopy_21 ?_
  refine lc_aload_n 0 dX0_becomeCopy_24 rfl ?_
  refine lc_aload_n 1 dX0_becomeCopy_25 rfl ?_
  refine lc_gIw j k 3 (by omega) (by omega) (by decide) fl_X0_24 dX0_becomeCopy_26 ?_
  refine lc_pIw j i 3 (by omega) (by omega) (by decide) fl_X0_24 dX0_becomeCopy_29 ?_
  refine lc_aload_n 0 dX0_becomeCopy_32 rfl ?_
  refine lc_aload_n 1 dX0_becomeCopy_33 rfl ?_
  refine lc_gIw j k 4 (by omega) (by omega) (by decide) fl_X0_27 dX0_becomeCopy_34 ?_
  refine lc_pIw j i 4 (by omega) (by omega) (by decide) fl_X0_27 dX0_becomeCopy_37 ?_
  refine lc_aload_n 0 dX0_becomeCopy_40 rfl ?_
  refine lc_iload_n 2 dX0_becomeCopy_41 rfl ?_
  refine lc_pIw j i 5 (by omega) (by omega) (by decide) fl_X0_30 dX0_becomeCopy_42 ?_
  exact lc_vret hR dX0_becomeCopy_45 (rfl)

set_option maxRecDepth 100000 in
set_option maxHeartbeats 4000000 in
theorem c_X0_becomeCopy_t (l : Launch) (G : lc_G) (σ : lc_S) (x : lc_X) (i k : Nat) (hi : i < 24) (hk : k < 24) (h : Int32) : lc_M l G yX0_becomeCopy cX0_becomeCopy 3 none { frames := 0, cells := 0, slots := 0, locals := 0 } [.ref (G.1 (lc_it 1 i)), .ref (G.1 (lc_it 0 k)), .int (h)] (lc_w σ 1 x) none (lc_w σ 1 ((sp_copy x.1 i (σ.1 0) k h, x.2))) := by
  refine lc_entry [(0, .ref (G.1 (lc_it 1 i))), (1, .ref (G.1 (lc_it 0 k))), (2, .int (h))] (by decide) (Nat.le_of_ble_eq_true rfl) rfl rfl rfl ?_
  intro Γ hR
  refine lc_aload_n 0 dX0_becomeCopy_0 rfl ?_
  refine lc_aload_n 1 dX0_becomeCopy_1 rfl ?_
  refine lc_gI 0 k 0 (by omega) (by omega) (by decide) fl_X0_14 dX0_becomeCopy_2 ?_
  refine lc_pIw 1 i 0 (by omega) (by omega) (by decide) fl_X0_14 dX0_becomeCopy_5 ?_
  refine lc_aload_n 0 dX0_becomeCopy_8 rfl ?_
  refine lc_aload_n 1 dX0_becomeCopy_9 rfl ?_
  refine lc_gI 0 k 1 (by omega) (by omega) (by decide) fl_X0_18 dX0_becomeCopy_10 ?_
  refine lc_pIw 1 i 1 (by omega) (by omega) (by decide) fl_X0_18 dX0_becomeCopy_13 ?_
  refine lc_aload_n 0 dX0_becomeCopy_16 rfl ?_
  refine lc_aload_n 1 dX0_becomeCopy_17 rfl ?_
  refine lc_gI 0 k 2 (by omega) (by omega) (by decide) fl_X0_21 dX0_becomeCopy_18 ?_
  refine lc_pIw 1 i 2 (by omega) (by omega) (by decide) fl_X0_21 dX0_becomeCopy_21 ?_
  refine lc_aload_n 0 dX0_becomeCopy_24 rfl ?_
  refine lc_aload_n 1 dX0_becomeCopy_25 rfl ?_
  refine lc_gI 0 k 3 (by omega) (by omega) (by decide) fl_X0_24 dX0_becomeCopy_26 ?_
  refine lc_pIw 1 i 3 (by omega) (by omega) (by decide) fl_X0_24 dX0_becomeCopy_29 ?_
  refine lc_aload_n 0 dX0_becomeCopy_32 rfl ?_
  refine lc_aload_n 1 dX0_becomeCopy_33 rfl ?_
  refine lc_gI 0 k 4 (by omega) (by omega) (by decide) fl_X0_27 dX0_becomeCopy_34 ?_
  refine lc_pIw 1 i 4 (by omega) (by omega) (by decide) fl_X0_27 dX0_becomeCopy_37 ?_
  refine lc_aload_n 0 dX0_becomeCopy_40 rfl ?_
  refine lc_iload_n 2 dX0_becomeCopy_41 rfl ?_
  refine lc_pIw 1 i 5 (by omega) (by omega) (by decide) fl_X0_30 dX0_becomeCopy_42 ?_
  exact lc_vret hR dX0_becomeCopy_45 (rfl)

set_option maxRecDepth 100000 in
set_option maxHeartbeats 4000000 in
theorem c_X3_isKept (l : Launch) (G : lc_G) (σ : lc_S) (j : Nat) (x : lc_X) (i : Nat) (hj : j < 2) (hi : i < 24) (s : Int32) : lc_M l G yX3_isKept cX3_isKept 4 (some .boolean) { frames := 0, cells := 0, slots := 0, locals := 0 } [.ref (G.1 (4 + j)), .ref (G.1 (lc_it j i)), .int (s)] (lc_w σ j x) (some (.int (lc_bi (sp_kept x.1 i s)))) (lc_w σ j x) := by
  refine lc_entry [(0, .ref (G.1 (4 + j))), (1, .ref (G.1 (lc_it j i))), (2, .int (s))] (by decide) (Nat.le_of_ble_eq_true rfl) rfl rfl rfl ?_
  intro Γ hR
  refine lc_aload_n 1 dX3_isKept_0 rfl ?_
  refine lc_gIw j i 4 (by omega) (by omega) (by decide) fl_X3_93 dX3_isKept_1 ?_
  refine lc_iload_n 2 dX3_isKept_4 rfl ?_
  refine lc_ishr dX3_isKept_5 ?_
  refine lc_iconst (v := 1) dX3_isKept_6 (by decide) ?_
  refine lc_iand dX3_isKept_7 ?_
  refine lc_iconst (v := 1) dX3_isKept_8 (by decide) ?_
  refine lc_icmp_ne 16 dX3_isKept_9 (by decide) (fun c_1 => ?_) (fun c_1 => ?_)
  · skip
    refine lc_iconst (v := 0) dX3_isKept_16 (by decide) ?_
    refine lc_istore_n [(3, .int (0)), (0, .ref (G.1 (4 + j))), (1, .ref (G.1 (lc_it j i))), (2, .int (s))] dX3_isKept_17 (by decide) rfl ?_
    refine lc_iload_n 0 dX3_isKept_18 rfl ?_
    refine lc_if_eq 51 dX3_isKept_19 (by decide) (fun _ => ?_) (fun h => absurd h (by decide))
    refine lc_iconst (v := 0) dX3_isKept_51 (by decide) ?_
    exact lc_zret hR dX3_isKept_52 (by simp [sp_kept, sp_bit, lc_bi, c_1]) (rfl)
  · skip
    refine lc_iconst (v := 1) dX3_isKept_12 (by decide) ?_
    refine lc_goto 17 dX3_isKept_13 (by decide) ?_
    refine lc_istore_n [(3, .int (1)), (0, .ref (G.1 (4 + j))), (1, .ref (G.1 (lc_it j i))), (2, .int (s))] dX3_isKept_17 (by decide) rfl ?_
    refine lc_iload_n 0 dX3_isKept_18 rfl ?_
    refine lc_if_eq 51 dX3_isKept_19 (by decide) (fun h => absurd h (by decide)) (fun _ => ?_)
    refine lc_aload_n 1 dX3_isKept_22 rfl ?_
    refine lc_gWNow j (by omega) fl_X3_37 dX3_isKept_23 ?_
    refine lc_aload_n 2 dX3_isKept_26 rfl ?_
    refine lc_gIw j i 3 (by omega) (by omega) (by decide) fl_X3_90 dX3_isKept_27 ?_
    refine lc_isub dX3_isKept_30 ?_
    refine lc_aload_n 1 dX3_isKept_31 rfl ?_
    refine lc_gWLim j (by omega) fl_X3_9 dX3_isKept_32 ?_
    refine lc_iconst (v := 0) dX3_isKept_35 (by decide) ?_
    refine lc_iald (6 + j) 0 (by omega) (lc_eLim j (by omega)) (rfl) (by omega) (by decide) dX3_isKept_36 ?_
    refine lc_aload_n 1 dX3_isKept_37 rfl ?_
    refine lc_gWLim j (by omega) fl_X3_9 dX3_isKept_38 ?_
    refine lc_iconst (v := 1) dX3_isKept_41 (by decide) ?_
    refine lc_iald (6 + j) 1 (by omega) (lc_eLim j (by omega)) (rfl) (by omega) (by decide) dX3_isKept_42 ?_
    refine lc_iadd dX3_isKept_43 ?_
    refine lc_icmp_gt 51 dX3_isKept_44 (by decide) (fun c_4 => ?_) (fun c_4 => ?_)
    · skip
      refine lc_iconst (v := 0) dX3_isKept_51 (by decide) ?_
      exact lc_zret hR dX3_isKept_52 (by simp [sp_kept, sp_bit, lc_bi, c_1, c_4]) (rfl)
    · skip
      refine lc_iconst (v := 1) dX3_isKept_47 (by decide) ?_
      refine lc_goto 52 dX3_isKept_48 (by decide) ?_
      exact lc_zret hR dX3_isKept_52 (by simp [sp_kept, sp_bit, lc_bi, c_1, c_4]) (rfl)

set_option maxRecDepth 100000 in
set_option maxHeartbeats 4000000 in
theorem c_X3_isRecent (l : Launch) (G : lc_G) (σ : lc_S) (j : Nat) (x : lc_X) (i : Nat) (hj : j < 2) (hi : i < 24) : lc_M l G yX3_isRecent cX3_isRecent 2 (some .boolean) { frames := 1, cells := 0, slots := 0, locals := 21 } [.ref (G.1 (4 + j)), .ref (G.1 (lc_it j i))] (lc_w σ j x) (some (.int (lc_bi (sp_rec x.1 i)))) (lc_w σ j x) := by
  refine lc_entry [(0, .ref (G.1 (4 + j))), (1, .ref (G.1 (lc_it j i)))] (by decide) (Nat.le_of_ble_eq_true rfl) rfl rfl rfl ?_
  intro Γ hR
  refine lc_aload_n 0 dX3_isRecent_0 rfl ?_
  refine lc_aload_n 1 dX3_isRecent_1 rfl ?_
  refine lc_callV (4 + j) (c_X3_isAwake l G σ j x i (by omega) (by omega)) hR.2.2.2.1 hR.2.2.2.2 mt_X3_isAwake (by omega) (lc_eW j (by omega)) rfl ml_X3_131 rfl rfl (Nat.le_of_ble_eq_true rfl) ⟨⟨rfl, rfl⟩, Nat.le_of_ble_eq_true rfl, Nat.le_of_ble_eq_true rfl⟩ dX3_isRecent_2 ?_
  show lc_V _ _ _ _ _ 5 _ [.int (lc_bi (sp_aw x.1 i))] (lc_w σ j x)
  refine lc_ifb_eq 30 dX3_isRecent_5 (by decide) (fun c_1 => ?_) (fun c_1 => ?_)
  · skip
    refine lc_iconst (v := 0) dX3_isRecent_30 (by decide) ?_
    exact lc_zret hR dX3_isRecent_31 (by simp [sp_rec, lc_bi, c_1]) (rfl)
  · skip
    refine lc_aload_n 0 dX3_isRecent_8 rfl ?_
    refine lc_gWNow j (by omega) fl_X3_37 dX3_isRecent_9 ?_
    refine lc_aload_n 1 dX3_isRecent_12 rfl ?_
    refine lc_gIw j i 3 (by omega) (by omega) (by decide) fl_X3_90 dX3_isRecent_13 ?_
    refine lc_isub dX3_isRecent_16 ?_
    refine lc_aload_n 0 dX3_isRecent_17 rfl ?_
    refine lc_gWLim j (by omega) fl_X3_9 dX3_isRecent_18 ?_
    refine lc_iconst (v := 3) dX3_isRecent_21 (by decide) ?_
    refine lc_iald (6 + j) 3 (by omega) (lc_eLim j (by omega)) (rfl) (by omega) (by decide) dX3_isRecent_22 ?_
    refine lc_icmp_ge 30 dX3_isRecent_23 (by decide) (fun c_2 => ?_) (fun c_2 => ?_)
    · skip
      refine lc_iconst (v := 0) dX3_isRecent_30 (by decide) ?_
      exact lc_zret hR dX3_isRecent_31 (by simp [sp_rec, lc_bi, c_1, c_2]) (rfl)
    · skip
      refine lc_iconst (v := 1) dX3_isRecent_26 (by decide) ?_
      refine lc_goto 31 dX3_isRecent_27 (by decide) ?_
      exact lc_zret hR dX3_isRecent_31 (by simp [sp_rec, lc_bi, c_1, c_2]) (rfl)

set_option maxRecDepth 100000 in
set_option maxHeartbeats 4000000 in
theorem c_X3_isSame (l : Launch) (G : lc_G) (σ : lc_S) (j : Nat) (x : lc_X) (i k : Nat) (hj : j < 2) (hi : i < 24) (hk : k < 24) : lc_M l G yX3_isSame cX3_isSame 3 (some .boolean) { frames := 1, cells := 0, slots := 0, locals := 21 } [.ref (G.1 (4 + j)), .ref (G.1 (lc_it j i)), .ref (G.1 (lc_it j k))] (lc_w σ j x) (some (.int (lc_bi (sp_same x.1 i k)))) (lc_w σ j x) := by
  refine lc_entry [(0, .ref (G.1 (4 + j))), (1, .ref (G.1 (lc_it j i))), (2, .ref (G.1 (lc_it j k)))] (by decide) (Nat.le_of_ble_eq_true rfl) rfl rfl rfl ?_
  intro Γ hR
  refine lc_aload_n 0 dX3_isSame_0 rfl ?_
  refine lc_aload_n 1 dX3_isSame_1 rfl ?_
  refine lc_callV (4 + j) (c_X3_isAwake l G σ j x i (by omega) (by omega)) hR.2.2.2.1 hR.2.2.2.2 mt_X3_isAwake (by omega) (lc_eW j (by omega)) rfl ml_X3_131 rfl rfl (Nat.le_of_ble_eq_true rfl) ⟨⟨rfl, rfl⟩, Nat.le_of_ble_eq_true rfl, Nat.le_of_ble_eq_true rfl⟩ dX3_isSame_2 ?_
  show lc_V _ _ _ _ _ 5 _ [.int (lc_bi (sp_aw x.1 i))] (lc_w σ j x)
  refine lc_ifb_eq 16 dX3_isSame_5 (by decide) (fun c_1 => ?_) (fun c_1 => ?_)
  · skip
    refine lc_aload_n 0 dX3_isSame_16 rfl ?_
    refine lc_aload_n 1 dX3_isSame_17 rfl ?_
    refine lc_callV (4 + j) (c_X3_isAwake l G σ j x i (by omega) (by omega)) hR.2.2.2.1 hR.2.2.2.2 mt_X3_isAwake (by omega) (lc_eW j (by omega)) rfl ml_X3_131 rfl rfl (Nat.le_of_ble_eq_true rfl) ⟨⟨rfl, rfl⟩, Nat.le_of_ble_eq_true rfl, Nat.le_of_ble_eq_true rfl⟩ dX3_isSame_18 ?_
    show lc_V _ _ _ _ _ 21 _ [.int (lc_bi (sp_aw x.1 i))] (lc_w σ j x)
    refine lc_ifb_ne 36 dX3_isSame_21 (by decide) (fun h => absurd (h.symm.trans c_1) (by decide)) (fun _ => ?_)
    refine lc_aload_n 0 dX3_isSame_24 rfl ?_
    refine lc_aload_n 2 dX3_isSame_25 rfl ?_
    refine lc_callV (4 + j) (c_X3_isAwake l G σ j x k (by omega) (by omega)) hR.2.2.2.1 hR.2.2.2.2 mt_X3_isAwake (by omega) (lc_eW j (by omega)) rfl ml_X3_131 rfl rfl (Nat.le_of_ble_eq_true rfl) ⟨⟨rfl, rfl⟩, Nat.le_of_ble_eq_true rfl, Nat.le_of_ble_eq_true rfl⟩ dX3_isSame_26 ?_
    show lc_V _ _ _ _ _ 29 _ [.int (lc_bi (sp_aw x.1 k))] (lc_w σ j x)
    refine lc_ifb_ne 36 dX3_isSame_29 (by decide) (fun c_3 => ?_) (fun c_3 => ?_)
    · skip
      refine lc_iconst (v := 0) dX3_isSame_36 (by decide) ?_
      exact lc_zret hR dX3_isSame_37 (by simp [sp_same, lc_bi, c_1, c_3]) (rfl)
    · skip
      refine lc_iconst (v := 1) dX3_isSame_32 (by decide) ?_
      refine lc_goto 37 dX3_isSame_33 (by decide) ?_
      exact lc_zret hR dX3_isSame_37 (by simp [sp_same, lc_bi, c_1, c_3]) (rfl)
  · skip
    refine lc_aload_n 0 dX3_isSame_8 rfl ?_
    refine lc_aload_n 2 dX3_isSame_9 rfl ?_
    refine lc_callV (4 + j) (c_X3_isAwake l G σ j x k (by omega) (by omega)) hR.2.2.2.1 hR.2.2.2.2 mt_X3_isAwake (by omega) (lc_eW j (by omega)) rfl ml_X3_131 rfl rfl (Nat.le_of_ble_eq_true rfl) ⟨⟨rfl, rfl⟩, Nat.le_of_ble_eq_true rfl, Nat.le_of_ble_eq_true rfl⟩ dX3_isSame_10 ?_
    show lc_V _ _ _ _ _ 13 _ [.int (lc_bi (sp_aw x.1 k))] (lc_w σ j x)
    refine lc_ifb_ne 38 dX3_isSame_13 (by decide) (fun c_4 => ?_) (fun c_4 => ?_)
    · skip
      refine lc_aload_n 1 dX3_isSame_38 rfl ?_
      refine lc_gIw j i 2 (by omega) (by omega) (by decide) fl_X3_138 dX3_isSame_39 ?_
      refine lc_aload_n 2 dX3_isSame_42 rfl ?_
      refine lc_gIw j k 2 (by omega) (by omega) (by decide) fl_X3_138 dX3_isSame_43 ?_
      refine lc_icmp_ne 64 dX3_isSame_46 (by decide) (fun c_5 => ?_) (fun c_5 => ?_)
      · skip
        refine lc_iconst (v := 0) dX3_isSame_64 (by decide) ?_
        exact lc_zret hR dX3_isSame_65 (by simp [sp_same, lc_bi, c_1, c_4, c_5]) (rfl)
      · skip
        refine lc_aload_n 1 dX3_isSame_49 rfl ?_
        refine lc_gIw j i 3 (by omega) (by omega) (by decide) fl_X3_90 dX3_isSame_50 ?_
        refine lc_aload_n 2 dX3_isSame_53 rfl ?_
        refine lc_gIw j k 3 (by omega) (by omega) (by decide) fl_X3_90 dX3_isSame_54 ?_
        refine lc_icmp_ne 64 dX3_isSame_57 (by decide) (fun c_6 => ?_) (fun c_6 => ?_)
        · skip
          refine lc_iconst (v := 0) dX3_isSame_64 (by decide) ?_
          exact lc_zret hR dX3_isSame_65 (by simp [sp_same, lc_bi, c_1, c_4, c_5, c_6]) (rfl)
        · skip
          refine lc_iconst (v := 1) dX3_isSame_60 (by decide) ?_
          refine lc_goto 65 dX3_isSame_61 (by decide) ?_
          exact lc_zret hR dX3_isSame_65 (by simp [sp_same, lc_bi, c_1, c_4, c_5, c_6]) (rfl)
    · skip
      refine lc_aload_n 0 dX3_isSame_16 rfl ?_
      refine lc_aload_n 1 dX3_isSame_17 rfl ?_
      refine lc_callV (4 + j) (c_X3_isAwake l G σ j x i (by omega) (by omega)) hR.2.2.2.1 hR.2.2.2.2 mt_X3_isAwake (by omega) (lc_eW j (by omega)) rfl ml_X3_131 rfl rfl (Nat.le_of_ble_eq_true rfl) ⟨⟨rfl, rfl⟩, Nat.le_of_ble_eq_true rfl, Nat.le_of_ble_eq_true rfl⟩ dX3_isSame_18 ?_
      show lc_V _ _ _ _ _ 21 _ [.int (lc_bi (sp_aw x.1 i))] (lc_w σ j x)
      refine lc_ifb_ne 36 dX3_isSame_21 (by decide) (fun _ => ?_) (fun h => absurd (h.symm.trans c_1) (by decide))
      refine lc_iconst (v := 0) dX3_isSame_36 (by decide) ?_
      exact lc_zret hR dX3_isSame_37 (by simp [sp_same, lc_bi, c_1, c_4]) (rfl)

set_option maxRecDepth 100000 in
set_option maxHeartbeats 4000000 in
theorem c_X3_wake (l : Launch) (G : lc_G) (σ : lc_S) (j : Nat) (x : lc_X) (i : Nat) (hj : j < 2) (hi : i < 24) : lc_M l G yX3_wake cX3_wake 2 none { frames := 0, cells := 0, slots := 0, locals := 0 } [.ref (G.1 (4 + j)), .ref (G.1 (lc_it j i))] (lc_w σ j x) none (lc_w σ j (sp_wake x i)) := by
  refine lc_entry [(0, .ref (G.1 (4 + j))), (1, .ref (G.1 (lc_it j i)))] (by decide) (Nat.le_of_ble_eq_true rfl) rfl rfl rfl ?_
  intro Γ hR
  refine lc_aload_n 1 dX3_wake_0 rfl ?_
  refine lc_aload_n 0 dX3_wake_1 rfl ?_
  refine lc_gWNow j (by omega) fl_X3_37 dX3_wake_2 ?_
  refine lc_pIw j i 3 (by omega) (by omega) (by decide) fl_X3_90 dX3_wake_5 ?_
  refine lc_aload_n 1 dX3_wake_8 rfl ?_
  refine lc_aload_n 0 dX3_wake_9 rfl ?_
  refine lc_gWLim j (by omega) fl_X3_9 dX3_wake_10 ?_
  refine lc_iconst (v := 2) dX3_wake_13 (by decide) ?_
  refine lc_iald (6 + j) 2 (by omega) (lc_eLim j (by omega)) (rfl) (by omega) (by decide) dX3_wake_14 ?_
  refine lc_pIw j i 5 (by omega) (by omega) (by decide) fl_X3_64 dX3_wake_15 ?_
  refine lc_aload_n 0 dX3_wake_18 rfl ?_
  refine lc_dup dX3_wake_19 rfl ?_
  refine lc_gWWok j (by omega) fl_X3_46 dX3_wake_20 ?_
  refine lc_iconst (v := 1) dX3_wake_23 (by decide) ?_
  refine lc_iadd dX3_wake_24 ?_
  refine lc_pWWok j ((((lc_cu (lc_cu x.1 3 i (x.1 7 1)) 5 i ((lc_cu x.1 3 i (x.1 7 1)) 6 2), x.2)).2.2.1) + 1) (Int32.add_assoc _ _ _) (by omega) fl_X3_46 dX3_wake_25 ?_
  refine lc_eq (σ' := lc_w σ j ((((lc_cu (lc_cu x.1 3 i (x.1 7 1)) 5 i ((lc_cu x.1 3 i (x.1 7 1)) 6 2), x.2)).1, ((lc_cu (lc_cu x.1 3 i (x.1 7 1)) 5 i ((lc_cu x.1 3 i (x.1 7 1)) 6 2), x.2)).2.1, (((lc_cu (lc_cu x.1 3 i (x.1 7 1)) 5 i ((lc_cu x.1 3 i (x.1 7 1)) 6 2), x.2)).2.2.1) + 1, ((lc_cu (lc_cu x.1 3 i (x.1 7 1)) 5 i ((lc_cu x.1 3 i (x.1 7 1)) 6 2), x.2)).2.2.2))) rfl ?_
  exact lc_vret hR dX3_wake_28 (rfl)

set_option maxRecDepth 100000 in
set_option maxHeartbeats 4000000 in
theorem c_X3_dropGone (l : Launch) (G : lc_G) (σ : lc_S) (j : Nat) (x : lc_X) (n : Nat) (hj : j < 2) (hn : n ≤ 6) (hs : x.1 7 0 = nI n) : lc_M l G yX3_dropGone cX3_dropGone 5 (some .int) { frames := 1, cells := 0, slots := 0, locals := 23 } [.ref (G.1 (4 + j))] (lc_w σ j x) (some (.int ((sp_drop n x).1))) (lc_w σ j ((sp_drop n x).2)) := by
  refine lc_entry [(0, .ref (G.1 (4 + j)))] (by decide) (Nat.le_of_ble_eq_true rfl) rfl rfl rfl ?_
  intro Γ hR
  refine lc_iconst (v := 0) dX3_dropGone_0 (by decide) ?_
  refine lc_istore_n [(1, .int (0)), (0, .ref (G.1 (4 + j)))] dX3_dropGone_1 (by decide) rfl ?_
  refine lc_iconst (v := 0) dX3_dropGone_2 (by decide) ?_
  refine lc_istore_n [(2, .int (0)), (1, .int (0)), (0, .ref (G.1 (4 + j)))] dX3_dropGone_3 (by decide) rfl ?_
  refine lc_lv (lv' := [(0, .ref (G.1 (4 + j))), (1, .int (0)), (2, .int (0))]) [2, 1, 0] rfl ?_
  refine lc_forI (α := Int32 × lc_X) (fun i z => lc_V G Γ _ _ _ 4 [(0, .ref (G.1 (4 + j))), (1, .int (z.1)), (2, .int (nI i))] [] (lc_w σ j z.2)) (fun _ z => z.2.1 7 0 = nI n) (sp_dgs) n (fun i z _ h => by rw [sp_dgs_7]; exact h) (fun i z hi hIi ki => ?_) ((0, x)) (hs) (fun hIi => ?_)
  · skip
    show lc_V G Γ _ _ _ 4 [(0, .ref (G.1 (4 + j))), (1, .int (z.1)), (2, .int (nI i))] [] (lc_w σ j z.2)
    refine lc_iload_n 2 dX3_dropGone_4 rfl ?_
    refine lc_aload_n 0 dX3_dropGone_5 rfl ?_
    refine lc_gWSites j (by omega) fl_X3_34 dX3_dropGone_6 ?_
    refine lc_icmp_ge 66 dX3_dropGone_9 (by decide) (fun h => absurd h.1 (by rw [hIi]; exact nI_ge (b := n) hi (by omega))) (fun _ => ?_)
    refine lc_iconst (v := 0) dX3_dropGone_12 (by decide) ?_
    refine lc_istore_n [(3, .int (0)), (0, .ref (G.1 (4 + j))), (1, .int (z.1)), (2, .int (nI i))] dX3_dropGone_13 (by decide) rfl ?_
    refine lc_lv (lv' := [(0, .ref (G.1 (4 + j))), (1, .int (z.1)), (2, .int (nI i)), (3, .int (0))]) [1, 2, 3, 0] rfl ?_
    refine lc_forI (α := Int32 × lc_X) (fun k y => lc_V G Γ _ _ _ 14 [(0, .ref (G.1 (4 + j))), (1, .int (y.1)), (2, .int (nI i)), (3, .int (nI k))] [] (lc_w σ j y.2)) (fun _ _ => True) (fun k => sp_dg (4 * i + k)) 4 (fun _ _ _ _ => trivial) (fun k y hk hIk kk => ?_) z (trivial) (fun hIk => ?_)
    · skip
      show lc_V G Γ _ _ _ 14 [(0, .ref (G.1 (4 + j))), (1, .int (y.1)), (2, .int (nI i)), (3, .int (nI k))] [] (lc_w σ j y.2)
      refine lc_iload_n 3 dX3_dropGone_14 rfl ?_
      refine lc_iconst (v := 4) dX3_dropGone_15 (by decide) ?_
      refine lc_icmp_ge 60 dX3_dropGone_16 (by decide) (fun h => absurd h.1 (by exact nI_ge (b := 4) hk (by omega))) (fun _ => ?_)
      refine lc_aload_n 0 dX3_dropGone_19 rfl ?_
      refine lc_iload_n 2 dX3_dropGone_20 rfl ?_
      refine lc_iload_n 3 dX3_dropGone_21 rfl ?_
      refine lc_callV (4 + j) (c_X3_itemAt l G (lc_w σ j y.2) j i k (by omega) (by omega) (by omega)) hR.2.2.2.1 hR.2.2.2.2 mt_X3_itemAt (by omega) (lc_eW j (by omega)) rfl ml_X3_75 rfl rfl (Nat.le_of_ble_eq_true rfl) ⟨⟨rfl, rfl⟩, Nat.le_of_ble_eq_true rfl, Nat.le_of_ble_eq_true rfl⟩ dX3_dropGone_22 ?_
      show lc_V _ _ _ _ _ 25 _ [.ref (G.1 (lc_it j (4 * i + k)))] (lc_w σ j y.2)
      refine lc_astore [(4, .ref (G.1 (lc_it j (4 * i + k)))), (0, .ref (G.1 (4 + j))), (1, .int (y.1)), (2, .int (nI i)), (3, .int (nI k))] dX3_dropGone_25 (by decide) rfl ?_
      refine lc_aload_n 1 dX3_dropGone_27 rfl ?_
      refine lc_aload 0 dX3_dropGone_28 rfl ?_
      refine lc_callV (4 + j) (c_X3_isDormant l G σ j y.2 (4 * i + k) (by omega) (by omega)) hR.2.2.2.1 hR.2.2.2.2 mt_X3_isDormant (by omega) (lc_eW j (by omega)) rfl ml_X3_79 rfl rfl (Nat.le_of_ble_eq_true rfl) ⟨⟨rfl, rfl⟩, Nat.le_of_ble_eq_true rfl, Nat.le_of_ble_eq_true rfl⟩ dX3_dropGone_30 ?_
      show lc_V _ _ _ _ _ 33 _ [.int (lc_bi (sp_dor y.2.1 (4 * i + k)))] (lc_w σ j y.2)
      refine lc_ifb_eq 54 dX3_dropGone_33 (by decide) (fun c_3 => ?_) (fun c_3 => ?_)
      · skip
        refine lc_iinc 4 (nI (k + 1)) [(3, .int (nI (k + 1))), (4, .ref (G.1 (lc_it j (4 * i + k)))), (0, .ref (G.1 (4 + j))), (1, .int (y.1)), (2, .int (nI i))] dX3_dropGone_54 rfl (lc_inc1 k) (by decide) rfl ?_
        refine lc_goto 14 dX3_dropGone_57 (by decide) ?_
        refine lc_lv (lv' := [(0, .ref (G.1 (4 + j))), (1, .int (y.1)), (2, .int (nI i)), (3, .int (nI (k + 1)))]) [2, 3, 4, 0] rfl ?_
        rw [show sp_dg (4 * i + k) y = (y.1, y.2) from by (have e4 : (4 * i + k) / 4 = i := (by omega)); simp [sp_dg, e4, c_3]] at kk
        exact kk
      · skip
        refine lc_aload_n 1 dX3_dropGone_36 rfl ?_
        refine lc_aload 0 dX3_dropGone_37 rfl ?_
        refine lc_iload_n 3 dX3_dropGone_39 rfl ?_
        refine lc_callV (4 + j) (c_X3_isKept l G σ j y.2 (4 * i + k) (by omega) (by omega) (nI i)) hR.2.2.2.1 hR.2.2.2.2 mt_X3_isKept (by omega) (lc_eW j (by omega)) rfl ml_X3_83 rfl rfl (Nat.le_of_ble_eq_true rfl) ⟨⟨rfl, rfl⟩, Nat.le_of_ble_eq_true rfl, Nat.le_of_ble_eq_true rfl⟩ dX3_dropGone_40 ?_
        show lc_V _ _ _ _ _ 43 _ [.int (lc_bi (sp_kept y.2.1 (4 * i + k) (nI i)))] (lc_w σ j y.2)
        refine lc_ifb_ne 54 dX3_dropGone_43 (by decide) (fun c_4 => ?_) (fun c_4 => ?_)
        · skip
          refine lc_iinc 4 (nI (k + 1)) [(3, .int (nI (k + 1))), (4, .ref (G.1 (lc_it j (4 * i + k)))), (0, .ref (G.1 (4 + j))), (1, .int (y.1)), (2, .int (nI i))] dX3_dropGone_54 rfl (lc_inc1 k) (by decide) rfl ?_
          refine lc_goto 14 dX3_dropGone_57 (by decide) ?_
          refine lc_lv (lv' := [(0, .ref (G.1 (4 + j))), (1, .int (y.1)), (2, .int (nI i)), (3, .int (nI (k + 1)))]) [2, 3, 4, 0] rfl ?_
          rw [show sp_dg (4 * i + k) y = (y.1, y.2) from by (have e4 : (4 * i + k) / 4 = i := (by omega)); simp [sp_dg, e4, c_3, c_4]] at kk
          exact kk
        · skip
          refine lc_aload 0 dX3_dropGone_46 rfl ?_
          refine lc_callV (lc_it j (4 * i + k)) (c_X0_becomeNothing l G σ j y.2 (4 * i + k) (by omega) (by omega)) hR.2.2.2.1 hR.2.2.2.2 mt_X0_becomeNothing (lc_it74 (by omega) (by omega)) (lc_ent_it G _ (by omega)) rfl ml_X3_55 rfl rfl (Nat.le_of_ble_eq_true rfl) ⟨⟨rfl, rfl⟩, Nat.le_of_ble_eq_true rfl, Nat.le_of_ble_eq_true rfl⟩ dX3_dropGone_48 ?_
          show lc_V _ _ _ _ _ 51 _ [] (lc_w σ j ((sp_none y.2.1 (4 * i + k), y.2.2)))
          refine lc_iinc 2 (y.1 + 1) [(1, .int (y.1 + 1)), (4, .ref (G.1 (lc_it j (4 * i + k)))), (0, .ref (G.1 (4 + j))), (2, .int (nI i)), (3, .int (nI k))] dX3_dropGone_51 rfl rfl (by decide) rfl ?_
          refine lc_iinc 4 (nI (k + 1)) [(3, .int (nI (k + 1))), (1, .int (y.1 + 1)), (4, .ref (G.1 (lc_it j (4 * i + k)))), (0, .ref (G.1 (4 + j))), (2, .int (nI i))] dX3_dropGone_54 rfl (lc_inc1 k) (by decide) rfl ?_
          refine lc_goto 14 dX3_dropGone_57 (by decide) ?_
          refine lc_lv (lv' := [(0, .ref (G.1 (4 + j))), (1, .int (y.1 + 1)), (2, .int (nI i)), (3, .int (nI (k + 1)))]) [3, 1, 4, 0] rfl ?_
          rw [show sp_dg (4 * i + k) y = (y.1 + 1, (sp_none y.2.1 (4 * i + k), y.2.2)) from by (have e4 : (4 * i + k) / 4 = i := (by omega)); simp [sp_dg, e4, c_3, c_4]] at kk
          exact kk
    · skip
      show lc_V G Γ _ _ _ 14 [(0, .ref (G.1 (4 + j))), (1, .int ((sp_dgs i z).1)), (2, .int (nI i)), (3, .int (nI 4))] [] (lc_w σ j ((sp_dgs i z).2))
      refine lc_iload_n 3 dX3_dropGone_14 rfl ?_
      refine lc_iconst (v := 4) dX3_dropGone_15 (by decide) ?_
      refine lc_icmp_ge 60 dX3_dropGone_16 (by decide) (fun _ => ?_) (fun h => absurd h.1 (by exact nI_nlt (a := 4) (b := 4) (Nat.le_refl _) (by omega)))
      refine lc_iinc 2 (nI (i + 1)) [(2, .int (nI (i + 1))), (0, .ref (G.1 (4 + j))), (1, .int ((sp_dgs i z).1)), (3, .int (nI 4))] dX3_dropGone_60 rfl (lc_inc1 i) (by decide) rfl ?_
      refine lc_goto 4 dX3_dropGone_63 (by decide) ?_
      refine lc_lv (lv' := [(0, .ref (G.1 (4 + j))), (1, .int ((sp_dgs i z).1)), (2, .int (nI (i + 1)))]) [1, 2, 0] rfl ?_
      rw [show (sp_dgs) i z = sp_dgs i z from rfl] at ki
      exact ki
  · skip
    have hIi : (sp_dropZ n x).2.1 7 0 = nI n := hIi
    show lc_V G Γ _ _ _ 4 [(0, .ref (G.1 (4 + j))), (1, .int ((sp_dropZ n x).1)), (2, .int (nI n))] [] (lc_w σ j ((sp_dropZ n x).2))
    refine lc_iload_n 2 dX3_dropGone_4 rfl ?_
    refine lc_aload_n 0 dX3_dropGone_5 rfl ?_
    refine lc_gWSites j (by omega) fl_X3_34 dX3_dropGone_6 ?_
    refine lc_icmp_ge 66 dX3_dropGone_9 (by decide) (fun _ => ?_) (fun h => absurd h.1 (by rw [hIi]; exact nI_nlt (a := n) (b := n) (Nat.le_refl _) (by omega)))
    refine lc_aload_n 0 dX3_dropGone_66 rfl ?_
    refine lc_dup dX3_dropGone_67 rfl ?_
    refine lc_gWGon j (by omega) fl_X3_49 dX3_dropGone_68 ?_
    refine lc_iload_n 1 dX3_dropGone_71 rfl ?_
    refine lc_iadd dX3_dropGone_72 ?_
    refine lc_pWGon j ((((sp_dropZ n x).2).2.2.2) + ((sp_dropZ n x).1)) (Int32.add_assoc _ _ _) (by omega) fl_X3_49 dX3_dropGone_73 ?_
    refine lc_eq (σ' := lc_w σ j ((((sp_dropZ n x).2).1, ((sp_dropZ n x).2).2.1, ((sp_dropZ n x).2).2.2.1, (((sp_dropZ n x).2).2.2.2) + ((sp_dropZ n x).1)))) rfl ?_
    refine lc_iload_n 1 dX3_dropGone_76 rfl ?_
    exact lc_iret hR dX3_dropGone_77 (rfl) (rfl)

set_option maxRecDepth 100000 in
set_option maxHeartbeats 4000000 in
theorem c_X3_advance (l : Launch) (G : lc_G) (σ : lc_S) (j : Nat) (x : lc_X) (n : Nat) (hj : j < 2) (hn : n ≤ 6) (hs : x.1 7 0 = nI n) (d : Int32) : lc_M l G yX3_advance cX3_advance 2 (some .int) { frames := 2, cells := 0, slots := 0, locals := 47 } [.ref (G.1 (4 + j)), .int (d)] (lc_w σ j x) (some (.int ((sp_adv n x d).1))) (lc_w σ j ((sp_adv n x d).2)) := by
  refine lc_entry [(0, .ref (G.1 (4 + j))), (1, .int (d))] (by decide) (Nat.le_of_ble_eq_true rfl) rfl rfl rfl ?_
  intro Γ hR
  refine lc_aload_n 0 dX3_advance_0 rfl ?_
  refine lc_dup dX3_advance_1 rfl ?_
  refine lc_gWNow j (by omega) fl_X3_37 dX3_advance_2 ?_
  refine lc_iload_n 1 dX3_advance_5 rfl ?_
  refine lc_iadd dX3_advance_6 ?_
  refine lc_pWNow j (by omega) fl_X3_37 dX3_advance_7 ?_
  refine lc_aload_n 0 dX3_advance_10 rfl ?_
  refine lc_callV (4 + j) (c_X3_dropGone l G σ j ((lc_cu x.1 7 1 (((x.1 7 1) + d)), x.2)) n (by omega) (by omega) (hs)) hR.2.2.2.1 hR.2.2.2.2 mt_X3_dropGone (by omega) (lc_eW j (by omega)) rfl ml_X3_71 rfl rfl (Nat.le_of_ble_eq_true rfl) ⟨⟨rfl, rfl⟩, Nat.le_of_ble_eq_true rfl, Nat.le_of_ble_eq_true rfl⟩ dX3_advance_11 ?_
  show lc_V _ _ _ _ _ 14 _ [.int ((sp_drop n ((lc_cu x.1 7 1 (((x.1 7 1) + d)), x.2))).1)] (lc_w σ j ((sp_drop n ((lc_cu x.1 7 1 (((x.1 7 1) + d)), x.2))).2))
  exact lc_iret hR dX3_advance_14 (rfl) (rfl)

set_option maxRecDepth 100000 in
set_option maxHeartbeats 4000000 in
theorem c_X3_meet (l : Launch) (G : lc_G) (σ : lc_S) (j : Nat) (x : lc_X) (i k : Nat) (hj : j < 2) (hi : i < 24) (hk : k < 24) : lc_M l G yX3_meet cX3_meet 3 (some .int) { frames := 1, cells := 0, slots := 0, locals := 22 } [.ref (G.1 (4 + j)), .ref (G.1 (lc_it j i)), .ref (G.1 (lc_it j k))] (lc_w σ j x) (some (.int ((sp_meet x i k).1))) (lc_w σ j ((sp_meet x i k).2)) := by
  refine lc_entry [(0, .ref (G.1 (4 + j))), (1, .ref (G.1 (lc_it j i))), (2, .ref (G.1 (lc_it j k)))] (by decide) (Nat.le_of_ble_eq_true rfl) rfl rfl rfl ?_
  intro Γ hR
  have K51 : lc_V G Γ cX3_meet 3 RX3 51 [(0, .ref (G.1 (4 + j))), (1, .ref (G.1 (lc_it j i))), (2, .ref (G.1 (lc_it j k)))] [] (lc_w σ j (sp_meetW x i k)) := by
    refine lc_aload_n 0 dX3_meet_51 rfl ?_
    refine lc_aload_n 1 dX3_meet_52 rfl ?_
    refine lc_callV (4 + j) (c_X3_isAwake l G σ j (sp_meetW x i k) i (by omega) (by omega)) hR.2.2.2.1 hR.2.2.2.2 mt_X3_isAwake (by omega) (lc_eW j (by omega)) rfl ml_X3_131 rfl rfl (Nat.le_of_ble_eq_true rfl) ⟨⟨rfl, rfl⟩, Nat.le_of_ble_eq_true rfl, Nat.le_of_ble_eq_true rfl⟩ dX3_meet_53 ?_
    show lc_V _ _ _ _ _ 56 _ [.int (lc_bi (sp_aw ((sp_meetW x i k).1) i))] (lc_w σ j (sp_meetW x i k))
    refine lc_ifb_eq 75 dX3_meet_56 (by decide) (fun c_1 => ?_) (fun c_1 => ?_)
    · skip
      refine lc_aload_n 0 dX3_meet_75 rfl ?_
      refine lc_aload_n 2 dX3_meet_76 rfl ?_
      refine lc_callV (4 + j) (c_X3_isAwake l G σ j (sp_meetW x i k) k (by omega) (by omega)) hR.2.2.2.1 hR.2.2.2.2 mt_X3_isAwake (by omega) (lc_eW j (by omega)) rfl ml_X3_131 rfl rfl (Nat.le_of_ble_eq_true rfl) ⟨⟨rfl, rfl⟩, Nat.le_of_ble_eq_true rfl, Nat.le_of_ble_eq_true rfl⟩ dX3_meet_77 ?_
      show lc_V _ _ _ _ _ 80 _ [.int (lc_bi (sp_aw ((sp_meetW x i k).1) k))] (lc_w σ j (sp_meetW x i k))
      refine lc_ifb_eq 99 dX3_meet_80 (by decide) (fun c_2 => ?_) (fun c_2 => ?_)
      · skip
        refine lc_iconst (v := 0) dX3_meet_99 (by decide) ?_
        exact lc_iret hR dX3_meet_100 (by simp [sp_meet, sp_meetC, lc_bi, c_1, c_2]) (by simp [sp_meet, sp_meetC, lc_bi, c_1, c_2])
      · skip
        refine lc_aload_n 2 dX3_meet_83 rfl ?_
        refine lc_aload_n 1 dX3_meet_84 rfl ?_
        refine lc_callV (lc_it j k) (c_X0_isNewer l G σ j (sp_meetW x i k) k i (by omega) (by omega) (by omega)) hR.2.2.2.1 hR.2.2.2.2 mt_X0_isNewer (lc_it74 (by omega) (by omega)) (lc_ent_it G _ (by omega)) rfl ml_X3_149 rfl rfl (Nat.le_of_ble_eq_true rfl) ⟨⟨rfl, rfl⟩, Nat.le_of_ble_eq_true rfl, Nat.le_of_ble_eq_true rfl⟩ dX3_meet_85 ?_
        show lc_V _ _ _ _ _ 88 _ [.int (lc_bi (sp_new ((sp_meetW x i k).1) k i))] (lc_w σ j (sp_meetW x i k))
        refine lc_ifb_eq 99 dX3_meet_88 (by decide) (fun c_3 => ?_) (fun c_3 => ?_)
        · skip
          refine lc_iconst (v := 0) dX3_meet_99 (by decide) ?_
          exact lc_iret hR dX3_meet_100 (by simp [sp_meet, sp_meetC, lc_bi, c_1, c_2, c_3]) (by simp [sp_meet, sp_meetC, lc_bi, c_1, c_2, c_3])
        · skip
          refine lc_aload_n 1 dX3_meet_91 rfl ?_
          refine lc_aload_n 2 dX3_meet_92 rfl ?_
          refine lc_iconst (v := 0) dX3_meet_93 (by decide) ?_
          refine lc_callV (lc_it j i) (c_X0_becomeCopy l G σ j (sp_meetW x i k) i k (by omega) (by omega) (by omega) 0) hR.2.2.2.1 hR.2.2.2.2 mt_X0_becomeCopy (lc_it74 (by omega) (by omega)) (lc_ent_it G _ (by omega)) rfl ml_X3_67 rfl rfl (Nat.le_of_ble_eq_true rfl) ⟨⟨rfl, rfl⟩, Nat.le_of_ble_eq_true rfl, Nat.le_of_ble_eq_true rfl⟩ dX3_meet_94 ?_
          show lc_V _ _ _ _ _ 97 _ [] (lc_w σ j ((sp_copy ((sp_meetW x i k).1) i ((sp_meetW x i k).1) k 0, (sp_meetW x i k).2)))
          refine lc_iconst (v := 1) dX3_meet_97 (by decide) ?_
          exact lc_iret hR dX3_meet_98 (by simp [sp_meet, sp_meetC, lc_bi, c_1, c_2, c_3]) (by simp [sp_meet, sp_meetC, lc_bi, c_1, c_2, c_3])
    · skip
      refine lc_aload_n 1 dX3_meet_59 rfl ?_
      refine lc_aload_n 2 dX3_meet_60 rfl ?_
      refine lc_callV (lc_it j i) (c_X0_isNewer l G σ j (sp_meetW x i k) i k (by omega) (by omega) (by omega)) hR.2.2.2.1 hR.2.2.2.2 mt_X0_isNewer (lc_it74 (by omega) (by omega)) (lc_ent_it G _ (by omega)) rfl ml_X3_149 rfl rfl (Nat.le_of_ble_eq_true rfl) ⟨⟨rfl, rfl⟩, Nat.le_of_ble_eq_true rfl, Nat.le_of_ble_eq_true rfl⟩ dX3_meet_61 ?_
      show lc_V _ _ _ _ _ 64 _ [.int (lc_bi (sp_new ((sp_meetW x i k).1) i k))] (lc_w σ j (sp_meetW x i k))
      refine lc_ifb_eq 75 dX3_meet_64 (by decide) (fun c_4 => ?_) (fun c_4 => ?_)
      · skip
        refine lc_aload_n 0 dX3_meet_75 rfl ?_
        refine lc_aload_n 2 dX3_meet_76 rfl ?_
        refine lc_callV (4 + j) (c_X3_isAwake l G σ j (sp_meetW x i k) k (by omega) (by omega)) hR.2.2.2.1 hR.2.2.2.2 mt_X3_isAwake (by omega) (lc_eW j (by omega)) rfl ml_X3_131 rfl rfl (Nat.le_of_ble_eq_true rfl) ⟨⟨rfl, rfl⟩, Nat.le_of_ble_eq_true rfl, Nat.le_of_ble_eq_true rfl⟩ dX3_meet_77 ?_
        show lc_V _ _ _ _ _ 80 _ [.int (lc_bi (sp_aw ((sp_meetW x i k).1) k))] (lc_w σ j (sp_meetW x i k))
        refine lc_ifb_eq 99 dX3_meet_80 (by decide) (fun c_5 => ?_) (fun c_5 => ?_)
        · skip
          refine lc_iconst (v := 0) dX3_meet_99 (by decide) ?_
          exact lc_iret hR dX3_meet_100 (by simp [sp_meet, sp_meetC, lc_bi, c_1, c_4, c_5]) (by simp [sp_meet, sp_meetC, lc_bi, c_1, c_4, c_5])
        · skip
          refine lc_aload_n 2 dX3_meet_83 rfl ?_
          refine lc_aload_n 1 dX3_meet_84 rfl ?_
          refine lc_callV (lc_it j k) (c_X0_isNewer l G σ j (sp_meetW x i k) k i (by omega) (by omega) (by omega)) hR.2.2.2.1 hR.2.2.2.2 mt_X0_isNewer (lc_it74 (by omega) (by omega)) (lc_ent_it G _ (by omega)) rfl ml_X3_149 rfl rfl (Nat.le_of_ble_eq_true rfl) ⟨⟨rfl, rfl⟩, Nat.le_of_ble_eq_true rfl, Nat.le_of_ble_eq_true rfl⟩ dX3_meet_85 ?_
          show lc_V _ _ _ _ _ 88 _ [.int (lc_bi (sp_new ((sp_meetW x i k).1) k i))] (lc_w σ j (sp_meetW x i k))
          refine lc_ifb_eq 99 dX3_meet_88 (by decide) (fun c_6 => ?_) (fun c_6 => ?_)
          · skip
            refine lc_iconst (v := 0) dX3_meet_99 (by decide) ?_
            exact lc_iret hR dX3_meet_100 (by simp [sp_meet, sp_meetC, lc_bi, c_1, c_4, c_5, c_6]) (by simp [sp_meet, sp_meetC, lc_bi, c_1, c_4, c_5, c_6])
          · skip
            refine lc_aload_n 1 dX3_meet_91 rfl ?_
            refine lc_aload_n 2 dX3_meet_92 rfl ?_
            refine lc_iconst (v := 0) dX3_meet_93 (by decide) ?_
            refine lc_callV (lc_it j i) (c_X0_becomeCopy l G σ j (sp_meetW x i k) i k (by omega) (by omega) (by omega) 0) hR.2.2.2.1 hR.2.2.2.2 mt_X0_becomeCopy (lc_it74 (by omega) (by omega)) (lc_ent_it G _ (by omega)) rfl ml_X3_67 rfl rfl (Nat.le_of_ble_eq_true rfl) ⟨⟨rfl, rfl⟩, Nat.le_of_ble_eq_true rfl, Nat.le_of_ble_eq_true rfl⟩ dX3_meet_94 ?_
            show lc_V _ _ _ _ _ 97 _ [] (lc_w σ j ((sp_copy ((sp_meetW x i k).1) i ((sp_meetW x i k).1) k 0, (sp_meetW x i k).2)))
            refine lc_iconst (v := 1) dX3_meet_97 (by decide) ?_
            exact lc_iret hR dX3_meet_98 (by simp [sp_meet, sp_meetC, lc_bi, c_1, c_4, c_5, c_6]) (by simp [sp_meet, sp_meetC, lc_bi, c_1, c_4, c_5, c_6])
      · skip
        refine lc_aload_n 2 dX3_meet_67 rfl ?_
        refine lc_aload_n 1 dX3_meet_68 rfl ?_
        refine lc_iconst (v := 0) dX3_meet_69 (by decide) ?_
        refine lc_callV (lc_it j k) (c_X0_becomeCopy l G σ j (sp_meetW x i k) k i (by omega) (by omega) (by omega) 0) hR.2.2.2.1 hR.2.2.2.2 mt_X0_becomeCopy (lc_it74 (by omega) (by omega)) (lc_ent_it G _ (by omega)) rfl ml_X3_67 rfl rfl (Nat.le_of_ble_eq_true rfl) ⟨⟨rfl, rfl⟩, Nat.le_of_ble_eq_true rfl, Nat.le_of_ble_eq_true rfl⟩ dX3_meet_70 ?_
        show lc_V _ _ _ _ _ 73 _ [] (lc_w σ j ((sp_copy ((sp_meetW x i k).1) k ((sp_meetW x i k).1) i 0, (sp_meetW x i k).2)))
        refine lc_iconst (v := 1) dX3_meet_73 (by decide) ?_
        exact lc_iret hR dX3_meet_74 (by simp [sp_meet, sp_meetC, lc_bi, c_1, c_4]) (by simp [sp_meet, sp_meetC, lc_bi, c_1, c_4])
  refine lc_aload_n 0 dX3_meet_0 rfl ?_
  refine lc_aload_n 1 dX3_meet_1 rfl ?_
  refine lc_callV (4 + j) (c_X3_isDormant l G σ j x i (by omega) (by omega)) hR.2.2.2.1 hR.2.2.2.2 mt_X3_isDormant (by omega) (lc_eW j (by omega)) rfl ml_X3_79 rfl rfl (Nat.le_of_ble_eq_true rfl) ⟨⟨rfl, rfl⟩, Nat.le_of_ble_eq_true rfl, Nat.le_of_ble_eq_true rfl⟩ dX3_meet_2 ?_
  show lc_V _ _ _ _ _ 5 _ [.int (lc_bi (sp_dor x.1 i))] (lc_w σ j x)
  refine lc_ifb_eq 27 dX3_meet_5 (by decide) (fun c_7 => ?_) (fun c_7 => ?_)
  · skip
    refine lc_aload_n 0 dX3_meet_27 rfl ?_
    refine lc_aload_n 2 dX3_meet_28 rfl ?_
    refine lc_callV (4 + j) (c_X3_isDormant l G σ j x k (by omega) (by omega)) hR.2.2.2.1 hR.2.2.2.2 mt_X3_isDormant (by omega) (lc_eW j (by omega)) rfl ml_X3_79 rfl rfl (Nat.le_of_ble_eq_true rfl) ⟨⟨rfl, rfl⟩, Nat.le_of_ble_eq_true rfl, Nat.le_of_ble_eq_true rfl⟩ dX3_meet_29 ?_
    show lc_V _ _ _ _ _ 32 _ [.int (lc_bi (sp_dor x.1 k))] (lc_w σ j x)
    refine lc_ifb_eq 51 dX3_meet_32 (by decide) (fun c_8 => ?_) (fun c_8 => ?_)
    · skip
      refine lc_lv (lv' := [(0, .ref (G.1 (4 + j))), (1, .ref (G.1 (lc_it j i))), (2, .ref (G.1 (lc_it j k)))]) [0, 1, 2] rfl ?_
      refine lc_eq (σ' := lc_w σ j (sp_meetW x i k)) (by simp [sp_meetW, c_7, c_8]) ?_
      exact K51
    · skip
      refine lc_aload_n 1 dX3_meet_35 rfl ?_
      refine lc_aload_n 2 dX3_meet_36 rfl ?_
      refine lc_gIw j k 2 (by omega) (by omega) (by decide) fl_X3_138 dX3_meet_37 ?_
      refine lc_callV (lc_it j i) (c_X0_isItemBelow l G σ j x i (by omega) (by omega) (x.1 2 k)) hR.2.2.2.1 hR.2.2.2.2 mt_X0_isItemBelow (lc_it74 (by omega) (by omega)) (lc_ent_it G _ (by omega)) rfl ml_X3_141 rfl rfl (Nat.le_of_ble_eq_true rfl) ⟨⟨rfl, rfl⟩, Nat.le_of_ble_eq_true rfl, Nat.le_of_ble_eq_true rfl⟩ dX3_meet_40 ?_
      show lc_V _ _ _ _ _ 43 _ [.int (lc_bi (sp_below x.1 i (x.1 2 k)))] (lc_w σ j x)
      refine lc_ifb_eq 51 dX3_meet_43 (by decide) (fun c_9 => ?_) (fun c_9 => ?_)
      · skip
        refine lc_lv (lv' := [(0, .ref (G.1 (4 + j))), (1, .ref (G.1 (lc_it j i))), (2, .ref (G.1 (lc_it j k)))]) [0, 1, 2] rfl ?_
        refine lc_eq (σ' := lc_w σ j (sp_meetW x i k)) (by simp [sp_meetW, c_7, c_8, c_9]) ?_
        exact K51
      · skip
        refine lc_aload_n 0 dX3_meet_46 rfl ?_
        refine lc_aload_n 2 dX3_meet_47 rfl ?_
        refine lc_callV (4 + j) (c_X3_wake l G σ j x k (by omega) (by omega)) hR.2.2.2.1 hR.2.2.2.2 mt_X3_wake (by omega) (lc_eW j (by omega)) rfl ml_X3_145 rfl rfl (Nat.le_of_ble_eq_true rfl) ⟨⟨rfl, rfl⟩, Nat.le_of_ble_eq_true rfl, Nat.le_of_ble_eq_true rfl⟩ dX3_meet_48 ?_
        show lc_V _ _ _ _ _ 51 _ [] (lc_w σ j (sp_wake x k))
        refine lc_lv (lv' := [(0, .ref (G.1 (4 + j))), (1, .ref (G.1 (lc_it j i))), (2, .ref (G.1 (lc_it j k)))]) [0, 1, 2] rfl ?_
        refine lc_eq (σ' := lc_w σ j (sp_meetW x i k)) (by simp [sp_meetW, c_7, c_8, c_9]) ?_
        exact K51
  · skip
    refine lc_aload_n 2 dX3_meet_8 rfl ?_
    refine lc_aload_n 1 dX3_meet_9 rfl ?_
    refine lc_gIw j i 2 (by omega) (by omega) (by decide) fl_X3_138 dX3_meet_10 ?_
    refine lc_callV (lc_it j k) (c_X0_isItemBelow l G σ j x k (by omega) (by omega) (x.1 2 i)) hR.2.2.2.1 hR.2.2.2.2 mt_X0_isItemBelow (lc_it74 (by omega) (by omega)) (lc_ent_it G _ (by omega)) rfl ml_X3_141 rfl rfl (Nat.le_of_ble_eq_true rfl) ⟨⟨rfl, rfl⟩, Nat.le_of_ble_eq_true rfl, Nat.le_of_ble_eq_true rfl⟩ dX3_meet_13 ?_
    show lc_V _ _ _ _ _ 16 _ [.int (lc_bi (sp_below x.1 k (x.1 2 i)))] (lc_w σ j x)
    refine lc_ifb_eq 27 dX3_meet_16 (by decide) (fun c_10 => ?_) (fun c_10 => ?_)
    · skip
      refine lc_aload_n 0 dX3_meet_27 rfl ?_
      refine lc_aload_n 2 dX3_meet_28 rfl ?_
      refine lc_callV (4 + j) (c_X3_isDormant l G σ j x k (by omega) (by omega)) hR.2.2.2.1 hR.2.2.2.2 mt_X3_isDormant (by omega) (lc_eW j (by omega)) rfl ml_X3_79 rfl rfl (Nat.le_of_ble_eq_true rfl) ⟨⟨rfl, rfl⟩, Nat.le_of_ble_eq_true rfl, Nat.le_of_ble_eq_true rfl⟩ dX3_meet_29 ?_
      show lc_V _ _ _ _ _ 32 _ [.int (lc_bi (sp_dor x.1 k))] (lc_w σ j x)
      refine lc_ifb_eq 51 dX3_meet_32 (by decide) (fun c_11 => ?_) (fun c_11 => ?_)
      · skip
        refine lc_lv (lv' := [(0, .ref (G.1 (4 + j))), (1, .ref (G.1 (lc_it j i))), (2, .ref (G.1 (lc_it j k)))]) [0, 1, 2] rfl ?_
        refine lc_eq (σ' := lc_w σ j (sp_meetW x i k)) (by simp [sp_meetW, c_7, c_10, c_11]) ?_
        exact K51
      · skip
        refine lc_aload_n 1 dX3_meet_35 rfl ?_
        refine lc_aload_n 2 dX3_meet_36 rfl ?_
        refine lc_gIw j k 2 (by omega) (by omega) (by decide) fl_X3_138 dX3_meet_37 ?_
        refine lc_callV (lc_it j i) (c_X0_isItemBelow l G σ j x i (by omega) (by omega) (x.1 2 k)) hR.2.2.2.1 hR.2.2.2.2 mt_X0_isItemBelow (lc_it74 (by omega) (by omega)) (lc_ent_it G _ (by omega)) rfl ml_X3_141 rfl rfl (Nat.le_of_ble_eq_true rfl) ⟨⟨rfl, rfl⟩, Nat.le_of_ble_eq_true rfl, Nat.le_of_ble_eq_true rfl⟩ dX3_meet_40 ?_
        show lc_V _ _ _ _ _ 43 _ [.int (lc_bi (sp_below x.1 i (x.1 2 k)))] (lc_w σ j x)
        refine lc_ifb_eq 51 dX3_meet_43 (by decide) (fun c_12 => ?_) (fun c_12 => ?_)
        · skip
          refine lc_lv (lv' := [(0, .ref (G.1 (4 + j))), (1, .ref (G.1 (lc_it j i))), (2, .ref (G.1 (lc_it j k)))]) [0, 1, 2] rfl ?_
          refine lc_eq (σ' := lc_w σ j (sp_meetW x i k)) (by simp [sp_meetW, c_7, c_10, c_11, c_12]) ?_
          exact K51
        · skip
          refine lc_aload_n 0 dX3_meet_46 rfl ?_
          refine lc_aload_n 2 dX3_meet_47 rfl ?_
          refine lc_callV (4 + j) (c_X3_wake l G σ j x k (by omega) (by omega)) hR.2.2.2.1 hR.2.2.2.2 mt_X3_wake (by omega) (lc_eW j (by omega)) rfl ml_X3_145 rfl rfl (Nat.le_of_ble_eq_true rfl) ⟨⟨rfl, rfl⟩, Nat.le_of_ble_eq_true rfl, Nat.le_of_ble_eq_true rfl⟩ dX3_meet_48 ?_
          show lc_V _ _ _ _ _ 51 _ [] (lc_w σ j (sp_wake x k))
          refine lc_lv (lv' := [(0, .ref (G.1 (4 + j))), (1, .ref (G.1 (lc_it j i))), (2, .ref (G.1 (lc_it j k)))]) [0, 1, 2] rfl ?_
          refine lc_eq (σ' := lc_w σ j (sp_meetW x i k)) (by simp [sp_meetW, c_7, c_10, c_11, c_12]) ?_
          exact K51
    · skip
      refine lc_aload_n 0 dX3_meet_19 rfl ?_
      refine lc_aload_n 1 dX3_meet_20 rfl ?_
      refine lc_callV (4 + j) (c_X3_wake l G σ j x i (by omega) (by omega)) hR.2.2.2.1 hR.2.2.2.2 mt_X3_wake (by omega) (lc_eW j (by omega)) rfl ml_X3_145 rfl rfl (Nat.le_of_ble_eq_true rfl) ⟨⟨rfl, rfl⟩, Nat.le_of_ble_eq_true rfl, Nat.le_of_ble_eq_true rfl⟩ dX3_meet_21 ?_
      show lc_V _ _ _ _ _ 24 _ [] (lc_w σ j (sp_wake x i))
      refine lc_goto 51 dX3_meet_24 (by decide) ?_
      refine lc_lv (lv' := [(0, .ref (G.1 (4 + j))), (1, .ref (G.1 (lc_it j i))), (2, .ref (G.1 (lc_it j k)))]) [0, 1, 2] rfl ?_
      refine lc_eq (σ' := lc_w σ j (sp_meetW x i k)) (by simp [sp_meetW, c_7, c_10]) ?_
      exact K51

set_option maxRecDepth 100000 in
set_option maxHeartbeats 4000000 in
theorem c_X3_meetKeys (l : Launch) (G : lc_G) (σ : lc_S) (j : Nat) (x : lc_X) (a b : Nat) (hj : j < 2) (ha : a < 6) (hb : b < 6) (keys : Int32) : lc_M l G yX3_meetKeys cX3_meetKeys 8 (some .int) { frames := 2, cells := 0, slots := 0, locals := 44 } [.ref (G.1 (4 + j)), .int (nI a), .int (nI b), .int (keys)] (lc_w σ j x) (some (.int ((sp_mks x a b keys).1))) (lc_w σ j ((sp_mks x a b keys).2)) := by
  refine lc_entry [(0, .ref (G.1 (4 + j))), (1, .int (nI a)), (2, .int (nI b)), (3, .int (keys))] (by decide) (Nat.le_of_ble_eq_true rfl) rfl rfl rfl ?_
  intro Γ hR
  refine lc_iconst (v := 0) dX3_meetKeys_0 (by decide) ?_
  refine lc_istore [(4, .int (0)), (0, .ref (G.1 (4 + j))), (1, .int (nI a)), (2, .int (nI b)), (3, .int (keys))] dX3_meetKeys_1 (by decide) rfl ?_
  refine lc_iconst (v := 0) dX3_meetKeys_3 (by decide) ?_
  refine lc_istore [(5, .int (0)), (4, .int (0)), (0, .ref (G.1 (4 + j))), (1, .int (nI a)), (2, .int (nI b)), (3, .int (keys))] dX3_meetKeys_4 (by decide) rfl ?_
  refine lc_lv (lv' := [(0, .ref (G.1 (4 + j))), (1, .int (nI a)), (2, .int (nI b)), (3, .int (keys)), (4, .int (0)), (5, .int (0))]) [2, 3, 4, 5, 1, 0] rfl ?_
  refine lc_forI (α := Int32 × lc_X) (fun k z => lc_V G Γ _ _ _ 6 [(0, .ref (G.1 (4 + j))), (1, .int (nI a)), (2, .int (nI b)), (3, .int (keys)), (4, .int (z.1)), (5, .int (nI k))] [] (lc_w σ j z.2)) (fun _ _ => True) (sp_mk a b keys) 4 (fun _ _ _ _ => trivial) (fun k z hk hIk kk => ?_) ((0, x)) (trivial) (fun hIk => ?_)
  · skip
    show lc_V G Γ _ _ _ 6 [(0, .ref (G.1 (4 + j))), (1, .int (nI a)), (2, .int (nI b)), (3, .int (keys)), (4, .int (z.1)), (5, .int (nI k))] [] (lc_w σ j z.2)
    refine lc_iload 5 dX3_meetKeys_6 rfl ?_
    refine lc_iconst (v := 4) dX3_meetKeys_8 (by decide) ?_
    refine lc_icmp_ge 97 dX3_meetKeys_9 (by decide) (fun h => absurd h.1 (by exact nI_ge (b := 4) hk (by omega))) (fun _ => ?_)
    refine lc_iload_n 3 dX3_meetKeys_12 rfl ?_
    refine lc_iload 5 dX3_meetKeys_13 rfl ?_
    refine lc_ishr dX3_meetKeys_15 ?_
    refine lc_iconst (v := 1) dX3_meetKeys_16 (by decide) ?_
    refine lc_iand dX3_meetKeys_17 ?_
    refine lc_iconst (v := 1) dX3_meetKeys_18 (by decide) ?_
    refine lc_icmp_ne 91 dX3_meetKeys_19 (by decide) (fun c_2 => ?_) (fun c_2 => ?_)
    · skip
      refine lc_iinc 5 (nI (k + 1)) [(5, .int (nI (k + 1))), (0, .ref (G.1 (4 + j))), (1, .int (nI a)), (2, .int (nI b)), (3, .int (keys)), (4, .int (z.1))] dX3_meetKeys_91 rfl (lc_inc1 k) (by decide) rfl ?_
      refine lc_goto 6 dX3_meetKeys_94 (by decide) ?_
      refine lc_lv (lv' := [(0, .ref (G.1 (4 + j))), (1, .int (nI a)), (2, .int (nI b)), (3, .int (keys)), (4, .int (z.1)), (5, .int (nI (k + 1)))]) [1, 2, 3, 4, 5, 0] rfl ?_
      rw [show (sp_mk a b keys) k z = (z.1, z.2) from by simp [sp_mk, sp_tr, sp_bit, c_2]] at kk
      exact kk
    · skip
      refine lc_aload_n 0 dX3_meetKeys_22 rfl ?_
      refine lc_iload_n 1 dX3_meetKeys_23 rfl ?_
      refine lc_iload 5 dX3_meetKeys_24 rfl ?_
      refine lc_callV (4 + j) (c_X3_itemAt l G (lc_w σ j z.2) j a k (by omega) (by omega) (by omega)) hR.2.2.2.1 hR.2.2.2.2 mt_X3_itemAt (by omega) (lc_eW j (by omega)) rfl ml_X3_75 rfl rfl (Nat.le_of_ble_eq_true rfl) ⟨⟨rfl, rfl⟩, Nat.le_of_ble_eq_true rfl, Nat.le_of_ble_eq_true rfl⟩ dX3_meetKeys_26 ?_
      show lc_V _ _ _ _ _ 29 _ [.ref (G.1 (lc_it j (4 * a + k)))] (lc_w σ j z.2)
      refine lc_astore [(6, .ref (G.1 (lc_it j (4 * a + k)))), (0, .ref (G.1 (4 + j))), (1, .int (nI a)), (2, .int (nI b)), (3, .int (keys)), (4, .int (z.1)), (5, .int (nI k))] dX3_meetKeys_29 (by decide) rfl ?_
      refine lc_aload_n 1 dX3_meetKeys_31 rfl ?_
      refine lc_iload_n 3 dX3_meetKeys_32 rfl ?_
      refine lc_iload 6 dX3_meetKeys_33 rfl ?_
      refine lc_callV (4 + j) (c_X3_itemAt l G (lc_w σ j z.2) j b k (by omega) (by omega) (by omega)) hR.2.2.2.1 hR.2.2.2.2 mt_X3_itemAt (by omega) (lc_eW j (by omega)) rfl ml_X3_75 rfl rfl (Nat.le_of_ble_eq_true rfl) ⟨⟨rfl, rfl⟩, Nat.le_of_ble_eq_true rfl, Nat.le_of_ble_eq_true rfl⟩ dX3_meetKeys_35 ?_
      show lc_V _ _ _ _ _ 38 _ [.ref (G.1 (lc_it j (4 * b + k)))] (lc_w σ j z.2)
      refine lc_astore [(7, .ref (G.1 (lc_it j (4 * b + k)))), (6, .ref (G.1 (lc_it j (4 * a + k)))), (0, .ref (G.1 (4 + j))), (1, .int (nI a)), (2, .int (nI b)), (3, .int (keys)), (4, .int (z.1)), (5, .int (nI k))] dX3_meetKeys_38 (by decide) rfl ?_
      refine lc_aload_n 2 dX3_meetKeys_40 rfl ?_
      refine lc_dup dX3_meetKeys_41 rfl ?_
      refine lc_gWTra j (by omega) fl_X3_43 dX3_meetKeys_42 ?_
      refine lc_aload_n 2 dX3_meetKeys_45 rfl ?_
      refine lc_aload 1 dX3_meetKeys_46 rfl ?_
      refine lc_callV (4 + j) (c_X3_isAwake l G σ j z.2 (4 * a + k) (by omega) (by omega)) hR.2.2.2.1 hR.2.2.2.2 mt_X3_isAwake (by omega) (lc_eW j (by omega)) rfl ml_X3_131 rfl rfl (Nat.le_of_ble_eq_true rfl) ⟨⟨rfl, rfl⟩, Nat.le_of_ble_eq_true rfl, Nat.le_of_ble_eq_true rfl⟩ dX3_meetKeys_48 ?_
      show lc_V _ _ _ _ _ 51 _ [.int (lc_bi (sp_aw z.2.1 (4 * a + k))), .int ((σ.2.1 j 0 + z.2.2.1)), .ref (G.1 (4 + j))] (lc_w σ j z.2)
      refine lc_tern 58 59 dX3_meetKeys_51 (by decide) dX3_meetKeys_54 dX3_meetKeys_55 (by decide) dX3_meetKeys_58 rfl ?_
      refine lc_aload_n 2 dX3_meetKeys_59 rfl ?_
      refine lc_aload 0 dX3_meetKeys_60 rfl ?_
      refine lc_callV (4 + j) (c_X3_isAwake l G σ j z.2 (4 * b + k) (by omega) (by omega)) hR.2.2.2.1 hR.2.2.2.2 mt_X3_isAwake (by omega) (lc_eW j (by omega)) rfl ml_X3_131 rfl rfl (Nat.le_of_ble_eq_true rfl) ⟨⟨rfl, rfl⟩, Nat.le_of_ble_eq_true rfl, Nat.le_of_ble_eq_true rfl⟩ dX3_meetKeys_62 ?_
      show lc_V _ _ _ _ _ 65 _ [.int (lc_bi (sp_aw z.2.1 (4 * b + k))), .int (lc_bi (sp_aw z.2.1 (4 * a + k))), .int ((σ.2.1 j 0 + z.2.2.1)), .ref (G.1 (4 + j))] (lc_w σ j z.2)
      refine lc_tern 72 73 dX3_meetKeys_65 (by decide) dX3_meetKeys_68 dX3_meetKeys_69 (by decide) dX3_meetKeys_72 rfl ?_
      refine lc_iadd dX3_meetKeys_73 ?_
      refine lc_iadd dX3_meetKeys_74 ?_
      refine lc_pWTra j (z.2.2.1 + (((lc_bi (sp_aw z.2.1 (4 * a + k))) + (lc_bi (sp_aw z.2.1 (4 * b + k)))))) (Int32.add_assoc _ _ _) (by omega) fl_X3_43 dX3_meetKeys_75 ?_
      refine lc_eq (σ' := lc_w σ j ((z.2.1, z.2.2.1 + (((lc_bi (sp_aw z.2.1 (4 * a + k))) + (lc_bi (sp_aw z.2.1 (4 * b + k))))), z.2.2.2.1, z.2.2.2.2))) rfl ?_
      refine lc_iload 6 dX3_meetKeys_78 rfl ?_
      refine lc_aload_n 2 dX3_meetKeys_80 rfl ?_
      refine lc_aload 1 dX3_meetKeys_81 rfl ?_
      refine lc_aload 0 dX3_meetKeys_83 rfl ?_
      refine lc_callV (4 + j) (c_X3_meet l G σ j ((z.2.1, z.2.2.1 + (((lc_bi (sp_aw z.2.1 (4 * a + k))) + (lc_bi (sp_aw z.2.1 (4 * b + k))))), z.2.2.2.1, z.2.2.2.2)) (4 * a + k) (4 * b + k) (by omega) (by omega) (by omega)) hR.2.2.2.1 hR.2.2.2.2 mt_X3_meet (by omega) (lc_eW j (by omega)) rfl ml_X3_134 rfl rfl (Nat.le_of_ble_eq_true rfl) ⟨⟨rfl, rfl⟩, Nat.le_of_ble_eq_true rfl, Nat.le_of_ble_eq_true rfl⟩ dX3_meetKeys_85 ?_
      show lc_V _ _ _ _ _ 88 _ [.int ((sp_meet ((z.2.1, z.2.2.1 + (((lc_bi (sp_aw z.2.1 (4 * a + k))) + (lc_bi (sp_aw z.2.1 (4 * b + k))))), z.2.2.2.1, z.2.2.2.2)) (4 * a + k) (4 * b + k)).1), .int (z.1)] (lc_w σ j ((sp_meet ((z.2.1, z.2.2.1 + (((lc_bi (sp_aw z.2.1 (4 * a + k))) + (lc_bi (sp_aw z.2.1 (4 * b + k))))), z.2.2.2.1, z.2.2.2.2)) (4 * a + k) (4 * b + k)).2))
      refine lc_iadd dX3_meetKeys_88 ?_
      refine lc_istore [(4, .int ((z.1 + ((sp_meet ((z.2.1, z.2.2.1 + (((lc_bi (sp_aw z.2.1 (4 * a + k))) + (lc_bi (sp_aw z.2.1 (4 * b + k))))), z.2.2.2.1, z.2.2.2.2)) (4 * a + k) (4 * b + k)).1)))), (7, .ref (G.1 (lc_it j (4 * b + k)))), (6, .ref (G.1 (lc_it j (4 * a + k)))), (0, .ref (G.1 (4 + j))), (1, .int (nI a)), (2, .int (nI b)), (3, .int (keys)), (5, .int (nI k))] dX3_meetKeys_89 (by decide) rfl ?_
      refine lc_iinc 7 (nI (k + 1)) [(5, .int (nI (k + 1))), (4, .int ((z.1 + ((sp_meet ((z.2.1, z.2.2.1 + (((lc_bi (sp_aw z.2.1 (4 * a + k))) + (lc_bi (sp_aw z.2.1 (4 * b + k))))), z.2.2.2.1, z.2.2.2.2)) (4 * a + k) (4 * b + k)).1)))), (7, .ref (G.1 (lc_it j (4 * b + k)))), (6, .ref (G.1 (lc_it j (4 * a + k)))), (0, .ref (G.1 (4 + j))), (1, .int (nI a)), (2, .int (nI b)), (3, .int (keys))] dX3_meetKeys_91 rfl (lc_inc1 k) (by decide) rfl ?_
      refine lc_goto 6 dX3_meetKeys_94 (by decide) ?_
      refine lc_lv (lv' := [(0, .ref (G.1 (4 + j))), (1, .int (nI a)), (2, .int (nI b)), (3, .int (keys)), (4, .int ((z.1 + ((sp_meet ((z.2.1, z.2.2.1 + (((lc_bi (sp_aw z.2.1 (4 * a + k))) + (lc_bi (sp_aw z.2.1 (4 * b + k))))), z.2.2.2.1, z.2.2.2.2)) (4 * a + k) (4 * b + k)).1)))), (5, .int (nI (k + 1)))]) [4, 5, 6, 7, 1, 0] rfl ?_
      rw [show (sp_mk a b keys) k z = ((z.1 + ((sp_meet ((z.2.1, z.2.2.1 + (((lc_bi (sp_aw z.2.1 (4 * a + k))) + (lc_bi (sp_aw z.2.1 (4 * b + k))))), z.2.2.2.1, z.2.2.2.2)) (4 * a + k) (4 * b + k)).1)), (sp_meet ((z.2.1, z.2.2.1 + (((lc_bi (sp_aw z.2.1 (4 * a + k))) + (lc_bi (sp_aw z.2.1 (4 * b + k))))), z.2.2.2.1, z.2.2.2.2)) (4 * a + k) (4 * b + k)).2) from by simp [sp_mk, sp_tr, sp_bit, c_2]] at kk
      exact kk
  · skip
    show lc_V G Γ _ _ _ 6 [(0, .ref (G.1 (4 + j))), (1, .int (nI a)), (2, .int (nI b)), (3, .int (keys)), (4, .int ((sp_mks x a b keys).1)), (5, .int (nI 4))] [] (lc_w σ j ((sp_mks x a b keys).2))
    refine lc_iload 5 dX3_meetKeys_6 rfl ?_
    refine lc_iconst (v := 4) dX3_meetKeys_8 (by decide) ?_
    refine lc_icmp_ge 97 dX3_meetKeys_9 (by decide) (fun _ => ?_) (fun h => absurd h.1 (by exact nI_nlt (a := 4) (b := 4) (Nat.le_refl _) (by omega)))
    refine lc_iload 4 dX3_meetKeys_97 rfl ?_
    exact lc_iret hR dX3_meetKeys_99 (rfl) (rfl)

set_option maxRecDepth 100000 in
set_option maxHeartbeats 4000000 in
theorem c_X3_recentKeys (l : Launch) (G : lc_G) (σ : lc_S) (j : Nat) (x : lc_X) (a b : Nat) (hj : j < 2) (ha : a < 6) (hb : b < 6) : lc_M l G yX3_recentKeys cX3_recentKeys 5 (some .int) { frames := 2, cells := 0, slots := 0, locals := 42 } [.ref (G.1 (4 + j)), .int (nI a), .int (nI b)] (lc_w σ j x) (some (.int (sp_rks x.1 a b))) (lc_w σ j x) := by
  refine lc_entry [(0, .ref (G.1 (4 + j))), (1, .int (nI a)), (2, .int (nI b))] (by decide) (Nat.le_of_ble_eq_true rfl) rfl rfl rfl ?_
  intro Γ hR
  refine lc_iconst (v := 0) dX3_recentKeys_0 (by decide) ?_
  refine lc_istore_n [(3, .int (0)), (0, .ref (G.1 (4 + j))), (1, .int (nI a)), (2, .int (nI b))] dX3_recentKeys_1 (by decide) rfl ?_
  refine lc_iconst (v := 0) dX3_recentKeys_2 (by decide) ?_
  refine lc_istore [(4, .int (0)), (3, .int (0)), (0, .ref (G.1 (4 + j))), (1, .int (nI a)), (2, .int (nI b))] dX3_recentKeys_3 (by decide) rfl ?_
  refine lc_lv (lv' := [(0, .ref (G.1 (4 + j))), (1, .int (nI a)), (2, .int (nI b)), (3, .int (0)), (4, .int (0))]) [2, 3, 4, 1, 0] rfl ?_
  refine lc_forI (α := Int32) (fun k z => lc_V G Γ _ _ _ 5 [(0, .ref (G.1 (4 + j))), (1, .int (nI a)), (2, .int (nI b)), (3, .int (z)), (4, .int (nI k))] [] (lc_w σ j x)) (fun _ _ => True) (sp_rk x.1 a b) 4 (fun _ _ _ _ => trivial) (fun k z hk hIk kk => ?_) 0 (trivial) (fun hIk => ?_)
  · skip
    show lc_V G Γ _ _ _ 5 [(0, .ref (G.1 (4 + j))), (1, .int (nI a)), (2, .int (nI b)), (3, .int (z)), (4, .int (nI k))] [] (lc_w σ j x)
    refine lc_iload 4 dX3_recentKeys_5 rfl ?_
    refine lc_iconst (v := 4) dX3_recentKeys_7 (by decide) ?_
    refine lc_icmp_ge 52 dX3_recentKeys_8 (by decide) (fun h => absurd h.1 (by exact nI_ge (b := 4) hk (by omega))) (fun _ => ?_)
    refine lc_aload_n 0 dX3_recentKeys_11 rfl ?_
    refine lc_aload_n 0 dX3_recentKeys_12 rfl ?_
    refine lc_iload_n 1 dX3_recentKeys_13 rfl ?_
    refine lc_iload 4 dX3_recentKeys_14 rfl ?_
    refine lc_callV (4 + j) (c_X3_itemAt l G (lc_w σ j x) j a k (by omega) (by omega) (by omega)) hR.2.2.2.1 hR.2.2.2.2 mt_X3_itemAt (by omega) (lc_eW j (by omega)) rfl ml_X3_75 rfl rfl (Nat.le_of_ble_eq_true rfl) ⟨⟨rfl, rfl⟩, Nat.le_of_ble_eq_true rfl, Nat.le_of_ble_eq_true rfl⟩ dX3_recentKeys_16 ?_
    show lc_V _ _ _ _ _ 19 _ [.ref (G.1 (lc_it j (4 * a + k))), .ref (G.1 (4 + j))] (lc_w σ j x)
    refine lc_callV (4 + j) (c_X3_isRecent l G σ j x (4 * a + k) (by omega) (by omega)) hR.2.2.2.1 hR.2.2.2.2 mt_X3_isRecent (by omega) (lc_eW j (by omega)) rfl ml_X3_128 rfl rfl (Nat.le_of_ble_eq_true rfl) ⟨⟨rfl, rfl⟩, Nat.le_of_ble_eq_true rfl, Nat.le_of_ble_eq_true rfl⟩ dX3_recentKeys_19 ?_
    show lc_V _ _ _ _ _ 22 _ [.int (lc_bi (sp_rec x.1 (4 * a + k)))] (lc_w σ j x)
    refine lc_ifb_ne 39 dX3_recentKeys_22 (by decide) (fun c_2 => ?_) (fun c_2 => ?_)
    · skip
      refine lc_iload_n 3 dX3_recentKeys_39 rfl ?_
      refine lc_iconst (v := 1) dX3_recentKeys_40 (by decide) ?_
      refine lc_iload 4 dX3_recentKeys_41 rfl ?_
      refine lc_ishl dX3_recentKeys_43 ?_
      refine lc_ior dX3_recentKeys_44 ?_
      refine lc_istore_n [(3, .int ((z ||| (((1 : Int32) <<< ((nI k) &&& 31)))))), (0, .ref (G.1 (4 + j))), (1, .int (nI a)), (2, .int (nI b)), (4, .int (nI k))] dX3_recentKeys_45 (by decide) rfl ?_
      refine lc_iinc 4 (nI (k + 1)) [(4, .int (nI (k + 1))), (3, .int ((z ||| (((1 : Int32) <<< ((nI k) &&& 31)))))), (0, .ref (G.1 (4 + j))), (1, .int (nI a)), (2, .int (nI b))] dX3_recentKeys_46 rfl (lc_inc1 k) (by decide) rfl ?_
      refine lc_goto 5 dX3_recentKeys_49 (by decide) ?_
      refine lc_lv (lv' := [(0, .ref (G.1 (4 + j))), (1, .int (nI a)), (2, .int (nI b)), (3, .int ((z ||| (((1 : Int32) <<< ((nI k) &&& 31)))))), (4, .int (nI (k + 1)))]) [2, 3, 4, 1, 0] rfl ?_
      rw [show (sp_rk x.1 a b) k z = (z ||| (((1 : Int32) <<< ((nI k) &&& 31)))) from by simp [sp_rk, c_2]] at kk
      exact kk
    · skip
      refine lc_aload_n 0 dX3_recentKeys_25 rfl ?_
      refine lc_aload_n 0 dX3_recentKeys_26 rfl ?_
      refine lc_iload_n 2 dX3_recentKeys_27 rfl ?_
      refine lc_iload 4 dX3_recentKeys_28 rfl ?_
      refine lc_callV (4 + j) (c_X3_itemAt l G (lc_w σ j x) j b k (by omega) (by omega) (by omega)) hR.2.2.2.1 hR.2.2.2.2 mt_X3_itemAt (by omega) (lc_eW j (by omega)) rfl ml_X3_75 rfl rfl (Nat.le_of_ble_eq_true rfl) ⟨⟨rfl, rfl⟩, Nat.le_of_ble_eq_true rfl, Nat.le_of_ble_eq_true rfl⟩ dX3_recentKeys_30 ?_
      show lc_V _ _ _ _ _ 33 _ [.ref (G.1 (lc_it j (4 * b + k))), .ref (G.1 (4 + j))] (lc_w σ j x)
      refine lc_callV (4 + j) (c_X3_isRecent l G σ j x (4 * b + k) (by omega) (by omega)) hR.2.2.2.1 hR.2.2.2.2 mt_X3_isRecent (by omega) (lc_eW j (by omega)) rfl ml_X3_128 rfl rfl (Nat.le_of_ble_eq_true rfl) ⟨⟨rfl, rfl⟩, Nat.le_of_ble_eq_true rfl, Nat.le_of_ble_eq_true rfl⟩ dX3_recentKeys_33 ?_
      show lc_V _ _ _ _ _ 36 _ [.int (lc_bi (sp_rec x.1 (4 * b + k)))] (lc_w σ j x)
      refine lc_ifb_eq 46 dX3_recentKeys_36 (by decide) (fun c_3 => ?_) (fun c_3 => ?_)
      · skip
        refine lc_iinc 4 (nI (k + 1)) [(4, .int (nI (k + 1))), (0, .ref (G.1 (4 + j))), (1, .int (nI a)), (2, .int (nI b)), (3, .int (z))] dX3_recentKeys_46 rfl (lc_inc1 k) (by decide) rfl ?_
        refine lc_goto 5 dX3_recentKeys_49 (by decide) ?_
        refine lc_lv (lv' := [(0, .ref (G.1 (4 + j))), (1, .int (nI a)), (2, .int (nI b)), (3, .int (z)), (4, .int (nI (k + 1)))]) [1, 2, 3, 4, 0] rfl ?_
        rw [show (sp_rk x.1 a b) k z = z from by simp [sp_rk, c_2, c_3]] at kk
        exact kk
      · skip
        refine lc_iload_n 3 dX3_recentKeys_39 rfl ?_
        refine lc_iconst (v := 1) dX3_recentKeys_40 (by decide) ?_
        refine lc_iload 4 dX3_recentKeys_41 rfl ?_
        refine lc_ishl dX3_recentKeys_43 ?_
        refine lc_ior dX3_recentKeys_44 ?_
        refine lc_istore_n [(3, .int ((z ||| (((1 : Int32) <<< ((nI k) &&& 31)))))), (0, .ref (G.1 (4 + j))), (1, .int (nI a)), (2, .int (nI b)), (4, .int (nI k))] dX3_recentKeys_45 (by decide) rfl ?_
        refine lc_iinc 4 (nI (k + 1)) [(4, .int (nI (k + 1))), (3, .int ((z ||| (((1 : Int32) <<< ((nI k) &&& 31)))))), (0, .ref (G.1 (4 + j))), (1, .int (nI a)), (2, .int (nI b))] dX3_recentKeys_46 rfl (lc_inc1 k) (by decide) rfl ?_
        refine lc_goto 5 dX3_recentKeys_49 (by decide) ?_
        refine lc_lv (lv' := [(0, .ref (G.1 (4 + j))), (1, .int (nI a)), (2, .int (nI b)), (3, .int ((z ||| (((1 : Int32) <<< ((nI k) &&& 31)))))), (4, .int (nI (k + 1)))]) [2, 3, 4, 1, 0] rfl ?_
        rw [show (sp_rk x.1 a b) k z = (z ||| (((1 : Int32) <<< ((nI k) &&& 31)))) from by simp [sp_rk, c_2, c_3]] at kk
        exact kk
  · skip
    show lc_V G Γ _ _ _ 5 [(0, .ref (G.1 (4 + j))), (1, .int (nI a)), (2, .int (nI b)), (3, .int (sp_rks x.1 a b)), (4, .int (nI 4))] [] (lc_w σ j x)
    refine lc_iload 4 dX3_recentKeys_5 rfl ?_
    refine lc_iconst (v := 4) dX3_recentKeys_7 (by decide) ?_
    refine lc_icmp_ge 52 dX3_recentKeys_8 (by decide) (fun _ => ?_) (fun h => absurd h.1 (by exact nI_nlt (a := 4) (b := 4) (Nat.le_refl _) (by omega)))
    refine lc_iload_n 3 dX3_recentKeys_52 rfl ?_
    exact lc_iret hR dX3_recentKeys_53 (rfl) (rfl)

set_option maxRecDepth 100000 in
set_option maxHeartbeats 4000000 in
theorem c_X3_areAlike (l : Launch) (G : lc_G) (σ : lc_S) (j : Nat) (x : lc_X) (a b : Nat) (hj : j < 2) (ha : a < 6) (hb : b < 6) : lc_M l G yX3_areAlike cX3_areAlike 4 (some .boolean) { frames := 2, cells := 0, slots := 0, locals := 43 } [.ref (G.1 (4 + j)), .int (nI a), .int (nI b)] (lc_w σ j x) (some (.int (lc_bi (sp_alike x.1 a b)))) (lc_w σ j x) := by
  refine lc_entry [(0, .ref (G.1 (4 + j))), (1, .int (nI a)), (2, .int (nI b))] (by decide) (Nat.le_of_ble_eq_true rfl) rfl rfl rfl ?_
  intro Γ hR
  refine lc_iconst (v := 0) dX3_areAlike_0 (by decide) ?_
  refine lc_istore_n [(3, .int (0)), (0, .ref (G.1 (4 + j))), (1, .int (nI a)), (2, .int (nI b))] dX3_areAlike_1 (by decide) rfl ?_
  refine lc_lv (lv' := [(0, .ref (G.1 (4 + j))), (1, .int (nI a)), (2, .int (nI b)), (3, .int (0))]) [1, 2, 3, 0] rfl ?_
  refine lc_forB (fun k => lc_V G Γ _ _ _ 2 [(0, .ref (G.1 (4 + j))), (1, .int (nI a)), (2, .int (nI b)), (3, .int (nI k))] [] (lc_w σ j x)) (fun k => sp_same x.1 (4 * a + k) (4 * b + k)) 4 (fun k hk kk => ?_) (fun hIk => ?_)
  · skip
    show lc_V G Γ _ _ _ 2 [(0, .ref (G.1 (4 + j))), (1, .int (nI a)), (2, .int (nI b)), (3, .int (nI k))] [] (lc_w σ j x)
    refine lc_iload_n 3 dX3_areAlike_2 rfl ?_
    refine lc_iconst (v := 4) dX3_areAlike_3 (by decide) ?_
    refine lc_icmp_ge 34 dX3_areAlike_4 (by decide) (fun h => absurd h.1 (by exact nI_ge (b := 4) hk (by omega))) (fun _ => ?_)
    refine lc_aload_n 0 dX3_areAlike_7 rfl ?_
    refine lc_aload_n 0 dX3_areAlike_8 rfl ?_
    refine lc_iload_n 1 dX3_areAlike_9 rfl ?_
    refine lc_iload_n 3 dX3_areAlike_10 rfl ?_
    refine lc_callV (4 + j) (c_X3_itemAt l G (lc_w σ j x) j a k (by omega) (by omega) (by omega)) hR.2.2.2.1 hR.2.2.2.2 mt_X3_itemAt (by omega) (lc_eW j (by omega)) rfl ml_X3_75 rfl rfl (Nat.le_of_ble_eq_true rfl) ⟨⟨rfl, rfl⟩, Nat.le_of_ble_eq_true rfl, Nat.le_of_ble_eq_true rfl⟩ dX3_areAlike_11 ?_
    show lc_V _ _ _ _ _ 14 _ [.ref (G.1 (lc_it j (4 * a + k))), .ref (G.1 (4 + j))] (lc_w σ j x)
    refine lc_aload_n 0 dX3_areAlike_14 rfl ?_
    refine lc_iload_n 2 dX3_areAlike_15 rfl ?_
    refine lc_iload_n 3 dX3_areAlike_16 rfl ?_
    refine lc_callV (4 + j) (c_X3_itemAt l G (lc_w σ j x) j b k (by omega) (by omega) (by omega)) hR.2.2.2.1 hR.2.2.2.2 mt_X3_itemAt (by omega) (lc_eW j (by omega)) rfl ml_X3_75 rfl rfl (Nat.le_of_ble_eq_true rfl) ⟨⟨rfl, rfl⟩, Nat.le_of_ble_eq_true rfl, Nat.le_of_ble_eq_true rfl⟩ dX3_areAlike_17 ?_
    show lc_V _ _ _ _ _ 20 _ [.ref (G.1 (lc_it j (4 * b + k))), .ref (G.1 (lc_it j (4 * a + k))), .ref (G.1 (4 + j))] (lc_w σ j x)
    refine lc_callV (4 + j) (c_X3_isSame l G σ j x (4 * a + k) (4 * b + k) (by omega) (by omega) (by omega)) hR.2.2.2.1 hR.2.2.2.2 mt_X3_isSame (by omega) (lc_eW j (by omega)) rfl ml_X3_155 rfl rfl (Nat.le_of_ble_eq_true rfl) ⟨⟨rfl, rfl⟩, Nat.le_of_ble_eq_true rfl, Nat.le_of_ble_eq_true rfl⟩ dX3_areAlike_20 ?_
    show lc_V _ _ _ _ _ 23 _ [.int (lc_bi (sp_same x.1 (4 * a + k) (4 * b + k)))] (lc_w σ j x)
    refine lc_ifb_ne 28 dX3_areAlike_23 (by decide) (fun c_2 => ?_) (fun c_2 => ?_)
    · skip
      refine lc_iinc 3 (nI (k + 1)) [(3, .int (nI (k + 1))), (0, .ref (G.1 (4 + j))), (1, .int (nI a)), (2, .int (nI b))] dX3_areAlike_28 rfl (lc_inc1 k) (by decide) rfl ?_
      refine lc_goto 2 dX3_areAlike_31 (by decide) ?_
      refine lc_lv (lv' := [(0, .ref (G.1 (4 + j))), (1, .int (nI a)), (2, .int (nI b)), (3, .int (nI (k + 1)))]) [1, 2, 3, 0] rfl ?_
      exact kk (c_2)
    · skip
      refine lc_iconst (v := 0) dX3_areAlike_26 (by decide) ?_
      exact lc_zret hR dX3_areAlike_27 (by rw [show sp_alike x.1 a b = false from sp_all_f hk c_2]; rfl) (rfl)
  · skip
    show lc_V G Γ _ _ _ 2 [(0, .ref (G.1 (4 + j))), (1, .int (nI a)), (2, .int (nI b)), (3, .int (nI 4))] [] (lc_w σ j x)
    refine lc_iload_n 3 dX3_areAlike_2 rfl ?_
    refine lc_iconst (v := 4) dX3_areAlike_3 (by decide) ?_
    refine lc_icmp_ge 34 dX3_areAlike_4 (by decide) (fun _ => ?_) (fun h => absurd h.1 (by exact nI_nlt (a := 4) (b := 4) (Nat.le_refl _) (by omega)))
    refine lc_iconst (v := 1) dX3_areAlike_34 (by decide) ?_
    exact lc_zret hR dX3_areAlike_35 (by rw [show sp_alike x.1 a b = true from hIk]; rfl) (rfl)

set_option maxRecDepth 100000 in
set_option maxHeartbeats 4000000 in
theorem c_X3_compareAll (l : Launch) (G : lc_G) (σ : lc_S) (j : Nat) (x : lc_X) (a b : Nat) (hj : j < 2) (ha : a < 6) (hb : b < 6) : lc_M l G yX3_compareAll cX3_compareAll 5 (some .int) { frames := 3, cells := 0, slots := 0, locals := 71 } [.ref (G.1 (4 + j)), .int (nI a), .int (nI b)] (lc_w σ j x) (some (.int ((sp_cmp x a b).1))) (lc_w σ j ((sp_cmp x a b).2)) := by
  refine lc_entry [(0, .ref (G.1 (4 + j))), (1, .int (nI a)), (2, .int (nI b))] (by decide) (Nat.le_of_ble_eq_true rfl) rfl rfl rfl ?_
  intro Γ hR
  refine lc_aload_n 0 dX3_compareAll_0 rfl ?_
  refine lc_iload_n 1 dX3_compareAll_1 rfl ?_
  refine lc_iload_n 2 dX3_compareAll_2 rfl ?_
  refine lc_callV (4 + j) (c_X3_recentKeys l G σ j x a b (by omega) (by omega) (by omega)) hR.2.2.2.1 hR.2.2.2.2 mt_X3_recentKeys (by omega) (lc_eW j (by omega)) rfl ml_X3_117 rfl rfl (Nat.le_of_ble_eq_true rfl) ⟨⟨rfl, rfl⟩, Nat.le_of_ble_eq_true rfl, Nat.le_of_ble_eq_true rfl⟩ dX3_compareAll_3 ?_
  show lc_V _ _ _ _ _ 6 _ [.int (sp_rks x.1 a b)] (lc_w σ j x)
  refine lc_istore_n [(3, .int (sp_rks x.1 a b)), (0, .ref (G.1 (4 + j))), (1, .int (nI a)), (2, .int (nI b))] dX3_compareAll_6 (by decide) rfl ?_
  refine lc_aload_n 1 dX3_compareAll_7 rfl ?_
  refine lc_iload_n 2 dX3_compareAll_8 rfl ?_
  refine lc_iload_n 3 dX3_compareAll_9 rfl ?_
  refine lc_iload_n 0 dX3_compareAll_10 rfl ?_
  refine lc_callV (4 + j) (c_X3_meetKeys l G σ j x a b (by omega) (by omega) (by omega) (sp_rks x.1 a b)) hR.2.2.2.1 hR.2.2.2.2 mt_X3_meetKeys (by omega) (lc_eW j (by omega)) rfl ml_X3_120 rfl rfl (Nat.le_of_ble_eq_true rfl) ⟨⟨rfl, rfl⟩, Nat.le_of_ble_eq_true rfl, Nat.le_of_ble_eq_true rfl⟩ dX3_compareAll_11 ?_
  show lc_V _ _ _ _ _ 14 _ [.int ((sp_mks x a b (sp_rks x.1 a b)).1)] (lc_w σ j ((sp_mks x a b (sp_rks x.1 a b)).2))
  refine lc_istore [(4, .int ((sp_mks x a b (sp_rks x.1 a b)).1)), (3, .int (sp_rks x.1 a b)), (0, .ref (G.1 (4 + j))), (1, .int (nI a)), (2, .int (nI b))] dX3_compareAll_14 (by decide) rfl ?_
  refine lc_aload_n 2 dX3_compareAll_16 rfl ?_
  refine lc_iload_n 3 dX3_compareAll_17 rfl ?_
  refine lc_iload_n 4 dX3_compareAll_18 rfl ?_
  refine lc_callV (4 + j) (c_X3_areAlike l G σ j ((sp_mks x a b (sp_rks x.1 a b)).2) a b (by omega) (by omega) (by omega)) hR.2.2.2.1 hR.2.2.2.2 mt_X3_areAlike (by omega) (lc_eW j (by omega)) rfl ml_X3_124 rfl rfl (Nat.le_of_ble_eq_true rfl) ⟨⟨rfl, rfl⟩, Nat.le_of_ble_eq_true rfl, Nat.le_of_ble_eq_true rfl⟩ dX3_compareAll_19 ?_
  show lc_V _ _ _ _ _ 22 _ [.int (lc_bi (sp_alike (((sp_mks x a b (sp_rks x.1 a b)).2).1) a b))] (lc_w σ j ((sp_mks x a b (sp_rks x.1 a b)).2))
  refine lc_ifb_ne 42 dX3_compareAll_22 (by decide) (fun c_1 => ?_) (fun c_1 => ?_)
  · skip
    refine lc_iload 0 dX3_compareAll_42 rfl ?_
    exact lc_iret hR dX3_compareAll_44 (by simp [sp_cmp, lc_bi, c_1]) (by simp [sp_cmp, lc_bi, c_1])
  · skip
    refine lc_iload 0 dX3_compareAll_25 rfl ?_
    refine lc_aload_n 2 dX3_compareAll_27 rfl ?_
    refine lc_iload_n 3 dX3_compareAll_28 rfl ?_
    refine lc_iload_n 4 dX3_compareAll_29 rfl ?_
    refine lc_bipush (v := 15) dX3_compareAll_30 (by decide) ?_
    refine lc_iload_n 1 dX3_compareAll_32 rfl ?_
    refine lc_iconst (v := (-1)) dX3_compareAll_33 (by decide) ?_
    refine lc_ixor dX3_compareAll_34 ?_
    refine lc_iand dX3_compareAll_35 ?_
    refine lc_callV (4 + j) (c_X3_meetKeys l G σ j ((sp_mks x a b (sp_rks x.1 a b)).2) a b (by omega) (by omega) (by omega) ((15 &&& (((sp_rks x.1 a b) ^^^ ((-1))))))) hR.2.2.2.1 hR.2.2.2.2 mt_X3_meetKeys (by omega) (lc_eW j (by omega)) rfl ml_X3_120 rfl rfl (Nat.le_of_ble_eq_true rfl) ⟨⟨rfl, rfl⟩, Nat.le_of_ble_eq_true rfl, Nat.le_of_ble_eq_true rfl⟩ dX3_compareAll_36 ?_
    show lc_V _ _ _ _ _ 39 _ [.int ((sp_mks ((sp_mks x a b (sp_rks x.1 a b)).2) a b ((15 &&& (((sp_rks x.1 a b) ^^^ ((-1))))))).1), .int ((sp_mks x a b (sp_rks x.1 a b)).1)] (lc_w σ j ((sp_mks ((sp_mks x a b (sp_rks x.1 a b)).2) a b ((15 &&& (((sp_rks x.1 a b) ^^^ ((-1))))))).2))
    refine lc_iadd dX3_compareAll_39 ?_
    refine lc_istore [(4, .int ((((sp_mks x a b (sp_rks x.1 a b)).1) + ((sp_mks ((sp_mks x a b (sp_rks x.1 a b)).2) a b ((15 &&& (((sp_rks x.1 a b) ^^^ ((-1))))))).1)))), (3, .int (sp_rks x.1 a b)), (0, .ref (G.1 (4 + j))), (1, .int (nI a)), (2, .int (nI b))] dX3_compareAll_40 (by decide) rfl ?_
    refine lc_iload 0 dX3_compareAll_42 rfl ?_
    exact lc_iret hR dX3_compareAll_44 (by simp [sp_cmp, lc_bi, c_1]) (by simp [sp_cmp, lc_bi, c_1])

set_option maxRecDepth 100000 in
set_option maxHeartbeats 4000000 in
theorem c_X3_tell (l : Launch) (G : lc_G) (σ : lc_S) (j : Nat) (x : lc_X) (i k : Nat) (hj : j < 2) (hi : i < 24) (hk : k < 24) : lc_M l G yX3_tell cX3_tell 3 (some .int) { frames := 1, cells := 0, slots := 0, locals := 22 } [.ref (G.1 (4 + j)), .ref (G.1 (lc_it j i)), .ref (G.1 (lc_it j k))] (lc_w σ j x) (some (.int ((sp_tell x i k).1))) (lc_w σ j ((sp_tell x i k).2)) := by
  refine lc_entry [(0, .ref (G.1 (4 + j))), (1, .ref (G.1 (lc_it j i))), (2, .ref (G.1 (lc_it j k)))] (by decide) (Nat.le_of_ble_eq_true rfl) rfl rfl rfl ?_
  intro Γ hR
  refine lc_aload_n 1 dX3_tell_0 rfl ?_
  refine lc_aload_n 2 dX3_tell_1 rfl ?_
  refine lc_callV (lc_it j i) (c_X0_isNewer l G σ j x i k (by omega) (by omega) (by omega)) hR.2.2.2.1 hR.2.2.2.2 mt_X0_isNewer (lc_it74 (by omega) (by omega)) (lc_ent_it G _ (by omega)) rfl ml_X3_149 rfl rfl (Nat.le_of_ble_eq_true rfl) ⟨⟨rfl, rfl⟩, Nat.le_of_ble_eq_true rfl, Nat.le_of_ble_eq_true rfl⟩ dX3_tell_2 ?_
  show lc_V _ _ _ _ _ 5 _ [.int (lc_bi (sp_new x.1 i k))] (lc_w σ j x)
  refine lc_ifb_eq 21 dX3_tell_5 (by decide) (fun c_1 => ?_) (fun c_1 => ?_)
  · skip
    refine lc_aload_n 1 dX3_tell_21 rfl ?_
    refine lc_dup dX3_tell_22 rfl ?_
    refine lc_gIw j i 5 (by omega) (by omega) (by decide) fl_X3_64 dX3_tell_23 ?_
    refine lc_iconst (v := 1) dX3_tell_26 (by decide) ?_
    refine lc_isub dX3_tell_27 ?_
    refine lc_pIw j i 5 (by omega) (by omega) (by decide) fl_X3_64 dX3_tell_28 ?_
    refine lc_aload_n 0 dX3_tell_31 rfl ?_
    refine lc_aload_n 2 dX3_tell_32 rfl ?_
    refine lc_callV (4 + j) (c_X3_isDormant l G σ j ((lc_cu x.1 5 i (((x.1 5 i) - 1)), x.2)) k (by omega) (by omega)) hR.2.2.2.1 hR.2.2.2.2 mt_X3_isDormant (by omega) (lc_eW j (by omega)) rfl ml_X3_79 rfl rfl (Nat.le_of_ble_eq_true rfl) ⟨⟨rfl, rfl⟩, Nat.le_of_ble_eq_true rfl, Nat.le_of_ble_eq_true rfl⟩ dX3_tell_33 ?_
    show lc_V _ _ _ _ _ 36 _ [.int (lc_bi (sp_dor (lc_cu x.1 5 i (((x.1 5 i) - 1))) k))] (lc_w σ j ((lc_cu x.1 5 i (((x.1 5 i) - 1)), x.2)))
    refine lc_ifb_eq 55 dX3_tell_36 (by decide) (fun c_2 => ?_) (fun c_2 => ?_)
    · skip
      refine lc_iconst (v := 0) dX3_tell_55 (by decide) ?_
      exact lc_iret hR dX3_tell_56 (by simp [sp_tell, sp_tellN, lc_bi, c_1, c_2]) (by simp [sp_tell, sp_tellN, lc_bi, c_1, c_2])
    · skip
      refine lc_aload_n 1 dX3_tell_39 rfl ?_
      refine lc_aload_n 2 dX3_tell_40 rfl ?_
      refine lc_gIw j k 2 (by omega) (by omega) (by decide) fl_X3_138 dX3_tell_41 ?_
      refine lc_callV (lc_it j i) (c_X0_isItemBelow l G σ j ((lc_cu x.1 5 i (((x.1 5 i) - 1)), x.2)) i (by omega) (by omega) ((lc_cu x.1 5 i (((x.1 5 i) - 1))) 2 k)) hR.2.2.2.1 hR.2.2.2.2 mt_X0_isItemBelow (lc_it74 (by omega) (by omega)) (lc_ent_it G _ (by omega)) rfl ml_X3_141 rfl rfl (Nat.le_of_ble_eq_true rfl) ⟨⟨rfl, rfl⟩, Nat.le_of_ble_eq_true rfl, Nat.le_of_ble_eq_true rfl⟩ dX3_tell_44 ?_
      show lc_V _ _ _ _ _ 47 _ [.int (lc_bi (sp_below (lc_cu x.1 5 i (((x.1 5 i) - 1))) i ((lc_cu x.1 5 i (((x.1 5 i) - 1))) 2 k)))] (lc_w σ j ((lc_cu x.1 5 i (((x.1 5 i) - 1)), x.2)))
      refine lc_ifb_eq 55 dX3_tell_47 (by decide) (fun c_3 => ?_) (fun c_3 => ?_)
      · skip
        refine lc_iconst (v := 0) dX3_tell_55 (by decide) ?_
        exact lc_iret hR dX3_tell_56 (by simp [sp_tell, sp_tellN, lc_bi, c_1, c_2, c_3]) (by simp [sp_tell, sp_tellN, lc_bi, c_1, c_2, c_3])
      · skip
        refine lc_aload_n 0 dX3_tell_50 rfl ?_
        refine lc_aload_n 2 dX3_tell_51 rfl ?_
        refine lc_callV (4 + j) (c_X3_wake l G σ j ((lc_cu x.1 5 i (((x.1 5 i) - 1)), x.2)) k (by omega) (by omega)) hR.2.2.2.1 hR.2.2.2.2 mt_X3_wake (by omega) (lc_eW j (by omega)) rfl ml_X3_145 rfl rfl (Nat.le_of_ble_eq_true rfl) ⟨⟨rfl, rfl⟩, Nat.le_of_ble_eq_true rfl, Nat.le_of_ble_eq_true rfl⟩ dX3_tell_52 ?_
        show lc_V _ _ _ _ _ 55 _ [] (lc_w σ j (sp_wake ((lc_cu x.1 5 i (((x.1 5 i) - 1)), x.2)) k))
        refine lc_iconst (v := 0) dX3_tell_55 (by decide) ?_
        exact lc_iret hR dX3_tell_56 (by simp [sp_tell, sp_tellN, lc_bi, c_1, c_2, c_3]) (by simp [sp_tell, sp_tellN, lc_bi, c_1, c_2, c_3])
  · skip
    refine lc_aload_n 2 dX3_tell_8 rfl ?_
    refine lc_aload_n 1 dX3_tell_9 rfl ?_
    refine lc_aload_n 0 dX3_tell_10 rfl ?_
    refine lc_gWLim j (by omega) fl_X3_9 dX3_tell_11 ?_
    refine lc_iconst (v := 2) dX3_tell_14 (by decide) ?_
    refine lc_iald (6 + j) 2 (by omega) (lc_eLim j (by omega)) (rfl) (by omega) (by decide) dX3_tell_15 ?_
    refine lc_callV (lc_it j k) (c_X0_becomeCopy l G σ j x k i (by omega) (by omega) (by omega) (x.1 6 2)) hR.2.2.2.1 hR.2.2.2.2 mt_X0_becomeCopy (lc_it74 (by omega) (by omega)) (lc_ent_it G _ (by omega)) rfl ml_X3_67 rfl rfl (Nat.le_of_ble_eq_true rfl) ⟨⟨rfl, rfl⟩, Nat.le_of_ble_eq_true rfl, Nat.le_of_ble_eq_true rfl⟩ dX3_tell_16 ?_
    show lc_V _ _ _ _ _ 19 _ [] (lc_w σ j ((sp_copy x.1 k x.1 i (x.1 6 2), x.2)))
    refine lc_iconst (v := 1) dX3_tell_19 (by decide) ?_
    exact lc_iret hR dX3_tell_20 (by simp [sp_tell, sp_tellN, lc_bi, c_1]) (by simp [sp_tell, sp_tellN, lc_bi, c_1])

set_option maxRecDepth 100000 in
set_option maxHeartbeats 4000000 in
theorem c_X3_tellHot (l : Launch) (G : lc_G) (σ : lc_S) (j : Nat) (x : lc_X) (a b : Nat) (hj : j < 2) (ha : a < 6) (hb : b < 6) : lc_M l G yX3_tellHot cX3_tellHot 6 (some .int) { frames := 2, cells := 0, slots := 0, locals := 44 } [.ref (G.1 (4 + j)), .int (nI a), .int (nI b)] (lc_w σ j x) (some (.int ((sp_hots x a b).1))) (lc_w σ j ((sp_hots x a b).2)) := by
  refine lc_entry [(0, .ref (G.1 (4 + j))), (1, .int (nI a)), (2, .int (nI b))] (by decide) (Nat.le_of_ble_eq_true rfl) rfl rfl rfl ?_
  intro Γ hR
  refine lc_iconst (v := 0) dX3_tellHot_0 (by decide) ?_
  refine lc_istore_n [(3, .int (0)), (0, .ref (G.1 (4 + j))), (1, .int (nI a)), (2, .int (nI b))] dX3_tellHot_1 (by decide) rfl ?_
  refine lc_iconst (v := 0) dX3_tellHot_2 (by decide) ?_
  refine lc_istore [(4, .int (0)), (3, .int (0)), (0, .ref (G.1 (4 + j))), (1, .int (nI a)), (2, .int (nI b))] dX3_tellHot_3 (by decide) rfl ?_
  refine lc_lv (lv' := [(0, .ref (G.1 (4 + j))), (1, .int (nI a)), (2, .int (nI b)), (3, .int (0)), (4, .int (0))]) [2, 3, 4, 1, 0] rfl ?_
  refine lc_forI (α := Int32 × lc_X) (fun k z => lc_V G Γ _ _ _ 5 [(0, .ref (G.1 (4 + j))), (1, .int (nI a)), (2, .int (nI b)), (3, .int (z.1)), (4, .int (nI k))] [] (lc_w σ j z.2)) (fun _ _ => True) (sp_hot a b) 4 (fun _ _ _ _ => trivial) (fun k z hk hIk kk => ?_) ((0, x)) (trivial) (fun hIk => ?_)
  · skip
    show lc_V G Γ _ _ _ 5 [(0, .ref (G.1 (4 + j))), (1, .int (nI a)), (2, .int (nI b)), (3, .int (z.1)), (4, .int (nI k))] [] (lc_w σ j z.2)
    refine lc_iload 4 dX3_tellHot_5 rfl ?_
    refine lc_iconst (v := 4) dX3_tellHot_7 (by decide) ?_
    refine lc_icmp_ge 69 dX3_tellHot_8 (by decide) (fun h => absurd h.1 (by exact nI_ge (b := 4) hk (by omega))) (fun _ => ?_)
    refine lc_aload_n 0 dX3_tellHot_11 rfl ?_
    refine lc_iload_n 1 dX3_tellHot_12 rfl ?_
    refine lc_iload 4 dX3_tellHot_13 rfl ?_
    refine lc_callV (4 + j) (c_X3_itemAt l G (lc_w σ j z.2) j a k (by omega) (by omega) (by omega)) hR.2.2.2.1 hR.2.2.2.2 mt_X3_itemAt (by omega) (lc_eW j (by omega)) rfl ml_X3_75 rfl rfl (Nat.le_of_ble_eq_true rfl) ⟨⟨rfl, rfl⟩, Nat.le_of_ble_eq_true rfl, Nat.le_of_ble_eq_true rfl⟩ dX3_tellHot_15 ?_
    show lc_V _ _ _ _ _ 18 _ [.ref (G.1 (lc_it j (4 * a + k)))] (lc_w σ j z.2)
    refine lc_astore [(5, .ref (G.1 (lc_it j (4 * a + k)))), (0, .ref (G.1 (4 + j))), (1, .int (nI a)), (2, .int (nI b)), (3, .int (z.1)), (4, .int (nI k))] dX3_tellHot_18 (by decide) rfl ?_
    refine lc_aload 0 dX3_tellHot_20 rfl ?_
    refine lc_gIw j (4 * a + k) 5 (by omega) (by omega) (by decide) fl_X3_64 dX3_tellHot_22 ?_
    refine lc_if_le 63 dX3_tellHot_25 (by decide) (fun c_2 => ?_) (fun c_2 => ?_)
    · skip
      refine lc_iinc 5 (nI (k + 1)) [(4, .int (nI (k + 1))), (5, .ref (G.1 (lc_it j (4 * a + k)))), (0, .ref (G.1 (4 + j))), (1, .int (nI a)), (2, .int (nI b)), (3, .int (z.1))] dX3_tellHot_63 rfl (lc_inc1 k) (by decide) rfl ?_
      refine lc_goto 5 dX3_tellHot_66 (by decide) ?_
      refine lc_lv (lv' := [(0, .ref (G.1 (4 + j))), (1, .int (nI a)), (2, .int (nI b)), (3, .int (z.1)), (4, .int (nI (k + 1)))]) [2, 3, 4, 5, 0] rfl ?_
      rw [show (sp_hot a b) k z = (z.1, z.2) from by simp [sp_hot, sp_tr, c_2]] at kk
      exact kk
    · skip
      refine lc_aload_n 1 dX3_tellHot_28 rfl ?_
      refine lc_aload 0 dX3_tellHot_29 rfl ?_
      refine lc_callV (4 + j) (c_X3_isAwake l G σ j z.2 (4 * a + k) (by omega) (by omega)) hR.2.2.2.1 hR.2.2.2.2 mt_X3_isAwake (by omega) (lc_eW j (by omega)) rfl ml_X3_131 rfl rfl (Nat.le_of_ble_eq_true rfl) ⟨⟨rfl, rfl⟩, Nat.le_of_ble_eq_true rfl, Nat.le_of_ble_eq_true rfl⟩ dX3_tellHot_31 ?_
      show lc_V _ _ _ _ _ 34 _ [.int (lc_bi (sp_aw z.2.1 (4 * a + k)))] (lc_w σ j z.2)
      refine lc_ifb_eq 63 dX3_tellHot_34 (by decide) (fun c_3 => ?_) (fun c_3 => ?_)
      · skip
        refine lc_iinc 5 (nI (k + 1)) [(4, .int (nI (k + 1))), (5, .ref (G.1 (lc_it j (4 * a + k)))), (0, .ref (G.1 (4 + j))), (1, .int (nI a)), (2, .int (nI b)), (3, .int (z.1))] dX3_tellHot_63 rfl (lc_inc1 k) (by decide) rfl ?_
        refine lc_goto 5 dX3_tellHot_66 (by decide) ?_
        refine lc_lv (lv' := [(0, .ref (G.1 (4 + j))), (1, .int (nI a)), (2, .int (nI b)), (3, .int (z.1)), (4, .int (nI (k + 1)))]) [2, 3, 4, 5, 0] rfl ?_
        rw [show (sp_hot a b) k z = (z.1, z.2) from by simp [sp_hot, sp_tr, c_2, c_3]] at kk
        exact kk
      · skip
        refine lc_aload_n 1 dX3_tellHot_37 rfl ?_
        refine lc_dup dX3_tellHot_38 rfl ?_
        refine lc_gWTra j (by omega) fl_X3_43 dX3_tellHot_39 ?_
        refine lc_iconst (v := 1) dX3_tellHot_42 (by decide) ?_
        refine lc_iadd dX3_tellHot_43 ?_
        refine lc_pWTra j (z.2.2.1 + 1) (Int32.add_assoc _ _ _) (by omega) fl_X3_43 dX3_tellHot_44 ?_
        refine lc_eq (σ' := lc_w σ j ((z.2.1, z.2.2.1 + 1, z.2.2.2.1, z.2.2.2.2))) rfl ?_
        refine lc_iload_n 4 dX3_tellHot_47 rfl ?_
        refine lc_aload_n 1 dX3_tellHot_48 rfl ?_
        refine lc_aload 0 dX3_tellHot_49 rfl ?_
        refine lc_aload_n 1 dX3_tellHot_51 rfl ?_
        refine lc_iload_n 3 dX3_tellHot_52 rfl ?_
        refine lc_iload 5 dX3_tellHot_53 rfl ?_
        refine lc_callV (4 + j) (c_X3_itemAt l G (lc_w σ j ((z.2.1, z.2.2.1 + 1, z.2.2.2.1, z.2.2.2.2))) j b k (by omega) (by omega) (by omega)) hR.2.2.2.1 hR.2.2.2.2 mt_X3_itemAt (by omega) (lc_eW j (by omega)) rfl ml_X3_75 rfl rfl (Nat.le_of_ble_eq_true rfl) ⟨⟨rfl, rfl⟩, Nat.le_of_ble_eq_true rfl, Nat.le_of_ble_eq_true rfl⟩ dX3_tellHot_55 ?_
        show lc_V _ _ _ _ _ 58 _ [.ref (G.1 (lc_it j (4 * b + k))), .ref (G.1 (lc_it j (4 * a + k))), .ref (G.1 (4 + j)), .int (z.1)] (lc_w σ j ((z.2.1, z.2.2.1 + 1, z.2.2.2.1, z.2.2.2.2)))
        refine lc_callV (4 + j) (c_X3_tell l G σ j ((z.2.1, z.2.2.1 + 1, z.2.2.2.1, z.2.2.2.2)) (4 * a + k) (4 * b + k) (by omega) (by omega) (by omega)) hR.2.2.2.1 hR.2.2.2.2 mt_X3_tell (by omega) (lc_eW j (by omega)) rfl ml_X3_152 rfl rfl (Nat.le_of_ble_eq_true rfl) ⟨⟨rfl, rfl⟩, Nat.le_of_ble_eq_true rfl, Nat.le_of_ble_eq_true rfl⟩ dX3_tellHot_58 ?_
        show lc_V _ _ _ _ _ 61 _ [.int ((sp_tell ((z.2.1, z.2.2.1 + 1, z.2.2.2.1, z.2.2.2.2)) (4 * a + k) (4 * b + k)).1), .int (z.1)] (lc_w σ j ((sp_tell ((z.2.1, z.2.2.1 + 1, z.2.2.2.1, z.2.2.2.2)) (4 * a + k) (4 * b + k)).2))
        refine lc_iadd dX3_tellHot_61 ?_
        refine lc_istore_n [(3, .int ((z.1 + ((sp_tell ((z.2.1, z.2.2.1 + 1, z.2.2.2.1, z.2.2.2.2)) (4 * a + k) (4 * b + k)).1)))), (5, .ref (G.1 (lc_it j (4 * a + k)))), (0, .ref (G.1 (4 + j))), (1, .int (nI a)), (2, .int (nI b)), (4, .int (nI k))] dX3_tellHot_62 (by decide) rfl ?_
        refine lc_iinc 5 (nI (k + 1)) [(4, .int (nI (k + 1))), (3, .int ((z.1 + ((sp_tell ((z.2.1, z.2.2.1 + 1, z.2.2.2.1, z.2.2.2.2)) (4 * a + k) (4 * b + k)).1)))), (5, .ref (G.1 (lc_it j (4 * a + k)))), (0, .ref (G.1 (4 + j))), (1, .int (nI a)), (2, .int (nI b))] dX3_tellHot_63 rfl (lc_inc1 k) (by decide) rfl ?_
        refine lc_goto 5 dX3_tellHot_66 (by decide) ?_
        refine lc_lv (lv' := [(0, .ref (G.1 (4 + j))), (1, .int (nI a)), (2, .int (nI b)), (3, .int ((z.1 + ((sp_tell ((z.2.1, z.2.2.1 + 1, z.2.2.2.1, z.2.2.2.2)) (4 * a + k) (4 * b + k)).1)))), (4, .int (nI (k + 1)))]) [3, 4, 5, 1, 0] rfl ?_
        rw [show (sp_hot a b) k z = ((z.1 + ((sp_tell ((z.2.1, z.2.2.1 + 1, z.2.2.2.1, z.2.2.2.2)) (4 * a + k) (4 * b + k)).1)), (sp_tell ((z.2.1, z.2.2.1 + 1, z.2.2.2.1, z.2.2.2.2)) (4 * a + k) (4 * b + k)).2) from by simp [sp_hot, sp_tr, c_2, c_3]] at kk
        exact kk
  · skip
    show lc_V G Γ _ _ _ 5 [(0, .ref (G.1 (4 + j))), (1, .int (nI a)), (2, .int (nI b)), (3, .int ((sp_hots x a b).1)), (4, .int (nI 4))] [] (lc_w σ j ((sp_hots x a b).2))
    refine lc_iload 4 dX3_tellHot_5 rfl ?_
    refine lc_iconst (v := 4) dX3_tellHot_7 (by decide) ?_
    refine lc_icmp_ge 69 dX3_tellHot_8 (by decide) (fun _ => ?_) (fun h => absurd h.1 (by exact nI_nlt (a := 4) (b := 4) (Nat.le_refl _) (by omega)))
    refine lc_iload_n 3 dX3_tellHot_69 rfl ?_
    exact lc_iret hR dX3_tellHot_70 (rfl) (rfl)
end
section
def lc_cr (B : lc_C) (r : Nat) (f : Nat → Int32) : lc_C := fun a b => if a = r then f b else B a b
def lc_ro (σ : lc_S) (r : Nat) (f : Nat → Int32) : lc_S := (σ.1, fun a => if a = r then f else σ.2.1 a, σ.2.2)
theorem lc_ro_w (σ : lc_S) {j r : Nat} (f : Nat → Int32) (x : lc_X) (h : r ≠ j) : lc_ro (lc_w σ j x) r f = lc_w (lc_ro σ r f) j x := by
  unfold lc_ro lc_w
  refine Prod.ext rfl (Prod.ext ?_ rfl)
  funext a
  by_cases ha : a = j
  · subst ha
    have e : ¬ a = r := fun z => h z.symm
    simp [e]
  · simp [ha]
section LCR3
variable {G : lc_G} {Γ : lc_Γ} {cc : ByteArray} {nL : Nat} {own : String} {pc : Nat} {lv : List (Nat × Value)} {st : List Value} {σ : lc_S} {x : lc_X} {idx : Nat}

theorem lc_iushr {a b : Int32} (hd : decode cc pc = .ok (.iushr, 1)) (kk : lc_V G Γ cc nL own (pc + 1) lv (.int (a.toUInt32 >>> (b.toUInt32 &&& Int32.toUInt32 31)).toInt32 :: st) (σ)) : lc_V G Γ cc nL own (pc) lv (.int b :: .int a :: st) (σ) := fun C H locs ls hP hl => lv_iushr C.1 C.2.1 hd rfl (kk C H locs ls hP hl)
theorem lc_ldcw {v : Int32} (hw : Cond.constant own idx v ∈ lc_T) (hd : decode cc pc = .ok (.ldc_w idx, 3)) (kk : lc_V G Γ cc nL own (pc + 3) lv (.int v :: st) (σ)) : lc_V G Γ cc nL own (pc) lv (st) (σ) := fun C H locs ls hP hl => lv_ldcw C.1 C.2.1 C.2.2.2.1 (C.2.2.2.2.1.use _ hw) hd (kk C H locs ls hP hl)
theorem lc_look {dflt : Int} {ps : Array (Int × Int)} {len : Nat} {a : Int32} {off : Int} (tgt : Nat) (hd : decode cc pc = .ok (.lookupswitch dflt ps, len)) (hp : (ps.toList.zip (ps.toList.drop 1)).all (fun (a, next) => a.1 < next.1) = true) (ho : Op.lookupswitch.offset ps.toList dflt a.toInt = off) (ht : (pc : Int) + off = (tgt : Int)) (kk : lc_V G Γ cc nL own (tgt) lv (st) (σ)) : lc_V G Γ cc nL own (pc) lv (.int a :: st) (σ) := fun C H locs ls hP hl => lv_lookup C.1 C.2.1 hd hp ho ht (kk C H locs ls hP hl)
theorem lc_tabIn {dflt hi : Int} {offs : Array Int} {len : Nat} {off : Int} (tgt i : Nat) (hd : decode cc pc = .ok (.tableswitch dflt 0 hi offs, len)) (h2 : (i : Int) ≤ hi) (hs : i < 2 ^ 31) (ho : offs[i]? = some off) (ht : (pc : Int) + off = (tgt : Int)) (kk : lc_V G Γ cc nL own (tgt) lv (st) (σ)) : lc_V G Γ cc nL own (pc) lv (.int (nI i) :: st) (σ) := fun C H locs ls hP hl => lv_tableIn C.1 C.2.1 hd (by rw [nI_toInt hs]; omega) (by rw [nI_toInt hs]; omega) (by rw [nI_toInt hs]; simpa using ho) ht (kk C H locs ls hP hl)
theorem lc_tabOut {dflt hi : Int} {offs : Array Int} {len : Nat} {a : Int32} (tgt : Nat) (hd : decode cc pc = .ok (.tableswitch dflt 0 hi offs, len)) (h : a.toInt < 0 ∨ hi < a.toInt) (ht : (pc : Int) + dflt = (tgt : Int)) (kk : lc_V G Γ cc nL own (tgt) lv (st) (σ)) : lc_V G Γ cc nL own (pc) lv (.int a :: st) (σ) := fun C H locs ls hP hl => lv_tableOut C.1 C.2.1 hd h ht (kk C H locs ls hP hl)
theorem lc_eLatw (j : Nat) (hj : j < 2) : lc_ent G (lc_w σ j x) (12 + j) = lc_aE G 4 (σ.2.1 (3 + j)) := by rw [lc_eLat j hj, lc_w_on σ x (by omega)]
theorem lc_ePosw (j : Nat) (hj : j < 2) : lc_ent G (lc_w σ j x) (8 + j) = lc_aE G 6 (σ.2.1 (6 + j)) := by rw [lc_ePos j hj, lc_w_on σ x (by omega)]
theorem lc_arr_eq {cA : ClassId} {n : Nat} {f g : Nat → Int32} (h : ∀ i, i < n → f i = g i) : vp_cell cA (n, .inl f) = vp_cell cA (n, .inl g) := by
  rw [vp_cell_i, vp_cell_i]
  unfold arrV
  congr 1
  apply congrArg
  funext i
  show Value.int (f i.val) = Value.int (g i.val)
  rw [h i.val i.isLt]
/-- two states that no cell tells apart -/
def lc_sim (σ σ' : lc_S) : Prop := (∀ j f i, j < 3 → f < 6 → i < 24 → σ.1 j f i = σ'.1 j f i) ∧ (∀ j i, j < 3 → i < 4 → σ.1 j 6 i = σ'.1 j 6 i) ∧ (∀ j i, j < 3 → i < 3 → σ.1 j 7 i = σ'.1 j 7 i) ∧ (∀ r i, r < 3 → i < 3 → σ.2.1 r i = σ'.2.1 r i) ∧ (∀ r i, 3 ≤ r → r < 6 → i < 4 → σ.2.1 r i = σ'.2.1 r i) ∧ (∀ r i, 6 ≤ r → r < 10 → i < 6 → σ.2.1 r i = σ'.2.1 r i) ∧ (∀ i, i < 4 → σ.2.1 10 i = σ'.2.1 10 i) ∧ (∀ i, i < 6 → σ.2.1 11 i = σ'.2.1 11 i) ∧ (∀ i, i < 4 → σ.2.1 12 i = σ'.2.1 12 i) ∧ (∀ i, i < 148 → σ.2.1 13 i = σ'.2.1 13 i) ∧ σ.2.2 0 = σ'.2.2 0 ∧ σ.2.2 1 = σ'.2.2 1
theorem lc_P_sim {σ σ' : lc_S} {H : Heap} (h : lc_sim σ σ') (hP : lc_P G σ H) : lc_P G σ' H := by
  obtain ⟨h0, h6, h7, hc, hl, hp, h10, h11, h12, h13, hs0, hs1⟩ := h
  intro k q hq
  obtain ⟨hk, rfl⟩ := lc_ws_mem hq
  have hP1 := hP k _ (lc_ws_get G σ hk)
  by_cases h26 : k < 26
  · match k, h26 with
    | 0, _ => rw [show lc_ent G σ' 0 = lc_ent G σ 0 by simp only [lc_ent]; rw [h10 1 (by decide)]]; exact hP1
    | 1, _ => rw [show lc_ent G σ' 1 = lc_ent G σ 1 by simp only [lc_ent]; rw [h10 0 (by decide)]]; exact hP1
    | 2, _ => exact hP1.trans (congrArg some (lc_arr_eq (fun i hi => hp 9 i (by decide) (by decide) hi)))
    | 3, _ => rw [show lc_ent G σ' 3 = lc_ent G σ 3 by simp only [lc_ent]; rw [h10 2 (by decide), h10 3 (by decide)]]; exact hP1
    | 4, _ => rw [show lc_ent G σ' 4 = lc_ent G σ 4 by simp only [lc_ent, lc_wE]; rw [h7 0 0 (by decide) (by decide), h7 0 1 (by decide) (by decide), h7 0 2 (by decide) (by decide), hc 0 0 (by decide) (by decide), hc 0 1 (by decide) (by decide), hc 0 2 (by decide) (by decide)]]; exact hP1
    | 5, _ => rw [show lc_ent G σ' 5 = lc_ent G σ 5 by simp only [lc_ent, lc_wE]; rw [h7 1 0 (by decide) (by decide), h7 1 1 (by decide) (by decide), h7 1 2 (by decide) (by decide), hc 1 0 (by decide) (by decide), hc 1 1 (by decide) (by decide), hc 1 2 (by decide) (by decide)]]; exact hP1
    | 6, _ => exact hP1.trans (congrArg some (lc_arr_eq (fun i hi => h6 0 i (by decide) hi)))
    | 7, _ => exact hP1.trans (congrArg some (lc_arr_eq (fun i hi => h6 1 i (by decide) hi)))
    | 8, _ => exact hP1.trans (congrArg some (lc_arr_eq (fun i hi => hp 6 i (by decide) (by decide) hi)))
    | 9, _ => exact hP1.trans (congrArg some (lc_arr_eq (fun i hi => hp 7 i (by decide) (by decide) hi)))
    | 10, _ => exact hP1
    | 11, _ => exact hP1
    | 12, _ => exact hP1.trans (congrArg some (lc_arr_eq (fun i hi => hl 3 i (by decide) (by decide) hi)))
    | 13, _ => exact hP1.trans (congrArg some (lc_arr_eq (fun i hi => hl 4 i (by decide) (by decide) hi)))
    | 14, _ => rw [show lc_ent G σ' 14 = lc_ent G σ 14 by simp only [lc_ent, lc_mE]; rw [h7 2 0 (by decide) (by decide), h7 2 1 (by decide) (by decide), h7 2 2 (by decide) (by decide), hc 2 0 (by decide) (by decide), hc 2 1 (by decide) (by decide), hc 2 2 (by decide) (by decide), h12 0 (by decide), h12 1 (by decide), h12 2 (by decide), h12 3 (by decide), hs0, hs1]]; exact hP1
    | 15, _ => exact hP1.trans (congrArg some (lc_arr_eq (fun i hi => h11 i hi)))
    | 16, _ => exact hP1.trans (congrArg some (lc_arr_eq (fun i hi => hp 8 i (by decide) (by decide) hi)))
    | 17, _ => exact hP1.trans (congrArg some (lc_arr_eq (fun i hi => h6 2 i (by decide) hi)))
    | 18, _ => exact hP1.trans (congrArg some (lc_arr_eq (fun i hi => h0 2 0 i (by decide) (by decide) hi)))
    | 19, _ => exact hP1.trans (congrArg some (lc_arr_eq (fun i hi => h0 2 1 i (by decide) (by decide) hi)))
    | 20, _ => exact hP1.trans (congrArg some (lc_arr_eq (fun i hi => h0 2 2 i (by decide) (by decide) hi)))
    | 21, _ => exact hP1.trans (congrArg some (lc_arr_eq (fun i hi => h0 2 3 i (by decide) (by decide) hi)))
    | 22, _ => exact hP1.trans (congrArg some (lc_arr_eq (fun i hi => h0 2 4 i (by decide) (by decide) hi)))
    | 23, _ => exact hP1.trans (congrArg some (lc_arr_eq (fun i hi => h0 2 5 i (by decide) (by decide) hi)))
    | 24, _ => exact hP1.trans (congrArg some (lc_arr_eq (fun i hi => hl 5 i (by decide) (by decide) hi)))
    | 25, _ => exact hP1.trans (congrArg some (lc_arr_eq (fun i hi => h13 i hi)))
    | k + 26, h => exact absurd h (by omega)
  · have e : k = lc_it ((k - 26) / 24) ((k - 26) % 24) := by unfold lc_it; omega
    have hb : (k - 26) % 24 < 24 := Nat.mod_lt _ (by decide)
    have ha : (k - 26) / 24 < 2 := by omega
    rw [show lc_ent G σ' k = lc_ent G σ k by
      rw [e, lc_ent_it G σ' hb, lc_ent_it G σ hb]
      exact lc_iE_eq (fun f hf => (h0 _ f _ (by omega) hf hb).symm)]
    exact hP1
theorem lc_gh {σ' : lc_S} (h : lc_sim σ σ') (kk : lc_V G Γ cc nL own (pc) lv (st) (σ')) : lc_V G Γ cc nL own (pc) lv (st) (σ) := fun C H locs ls hP hl => kk C H locs ls ⟨lc_P_sim h hP.1, hP.2⟩ hl
theorem lc_copyLim (hw : own = RX3) (hf : 1 ≤ (lc_γR Γ).frames ∧ (st.map fun v => v.category).sum + 18 ≤ (lc_γR Γ).locals) (hd : decode cc pc = .ok (.invokestatic 58, 3)) (kk : lc_V G Γ cc nL own (pc + 3) lv (st) (lc_w σ 1 (lc_cr x.1 6 (va_cpy (σ.1 0 6) (x.1 6) 0 0 4), x.2))) : lc_V G Γ cc nL own (pc) lv (.int (nI 4) :: .int 0 :: .ref (G.1 7) :: .int 0 :: .ref (G.1 6) :: st) (lc_w σ 1 x) := by
  intro C H locs ls hP hl
  subst hw
  have hT := C.2.2.2.2.1
  have hD : va_D (lc_γA Γ) (lc_ws G (lc_w σ 1 x)) := lc_D C.2.2.2.2.2.2.1 C.2.2.2.2.2.2.2.1
  have hse := lc_ws_set G (lc_w σ 1 x) (lc_w σ 1 (lc_cr x.1 6 (va_cpy (σ.1 0 6) (x.1 6) 0 0 4), x.2)) (k := 7) (E := lc_aE G 4 (va_cpy (σ.1 0 6) (x.1 6) 0 0 4)) rfl (lc_h3 7 (fun k hk hne => by
    match k, hk, hne with
    | 0, _, hne => first | rfl | exact absurd rfl hne
    | 1, _, hne => first | rfl | exact absurd rfl hne
    | 2, _, hne => first | rfl | exact absurd rfl hne
    | 3, _, hne => first | rfl | exact absurd rfl hne
    | 4, _, hne => first | rfl | exact absurd rfl hne
    | 5, _, hne => first | rfl | exact absurd rfl hne
    | 6, _, hne => first | rfl | exact absurd rfl hne
    | 7, _, hne => first | rfl | exact absurd rfl hne
    | 8, _, hne => first | rfl | exact absurd rfl hne
    | 9, _, hne => first | rfl | exact absurd rfl hne
    | 10, _, hne => first | rfl | exact absurd rfl hne
    | 11, _, hne => first | rfl | exact absurd rfl hne
    | 12, _, hne => first | rfl | exact absurd rfl hne
    | 13, _, hne => first | rfl | exact absurd rfl hne
    | 14, _, hne => first | rfl | exact absurd rfl hne
    | 15, _, hne => first | rfl | exact absurd rfl hne
    | 16, _, hne => first | rfl | exact absurd rfl hne
    | 17, _, hne => first | rfl | exact absurd rfl hne
    | 18, _, hne => first | rfl | exact absurd rfl hne
    | 19, _, hne => first | rfl | exact absurd rfl hne
    | 20, _, hne => first | rfl | exact absurd rfl hne
    | 21, _, hne => first | rfl | exact absurd rfl hne
    | 22, _, hne => first | rfl | exact absurd rfl hne
    | 23, _, hne => first | rfl | exact absurd rfl hne
    | 24, _, hne => first | rfl | exact absurd rfl hne
    | 25, _, hne => first | rfl | exact absurd rfl hne
    | k + 26, hk, _ => exact absurd hk (by omega)) (fun a b _ _ g hg => by
    by_cases h : a = 1
    · subst h
      have e : ¬ g = 6 := by omega
      simp [lc_w, lc_cr, e]
    · simp [lc_w, h]))
  refine va_copyi (D := (G.2.1, G.2.2.1)) C.1 C.2.1 (C.2.2.1.trans hl.1.symm) C.2.2.2.1 (hT.use _ (lc_in 494 (by decide +kernel) rfl)) (hT.use _ (lc_in 496 (by decide +kernel) rfl)) (hT.use _ (lc_in 495 (by decide +kernel) rfl)) (hT.use _ (lc_in 89 (by decide +kernel) rfl)) C.2.2.2.2.2.1 hP.1 hD hP.2 6 7 0 0 (lc_ws_get G _ (by decide)) (lc_ws_get G _ (by decide)) rfl rfl (ty := .int) rfl (by decide) (by decide) (by decide) (Nat.le_of_ble_eq_true rfl) (Nat.le_of_ble_eq_true rfl) (fun _ _ => rfl) hf.1 hf.2 hd (fun H1 locs1 hP1 hD1 hS1 => ?_)
  have hP2 : lc_P G (lc_w σ 1 (lc_cr x.1 6 (va_cpy (σ.1 0 6) (x.1 6) 0 0 4), x.2)) H1 := by
    unfold lc_P
    rw [← hse]
    exact hP1
  exact kk C H1 locs1 ls ⟨hP2, hS1⟩ hl
theorem lc_copyPos (hw : own = RX3) (hf : 1 ≤ (lc_γR Γ).frames ∧ (st.map fun v => v.category).sum + 18 ≤ (lc_γR Γ).locals) (hd : decode cc pc = .ok (.invokestatic 58, 3)) (kk : lc_V G Γ cc nL own (pc + 3) lv (st) (lc_w (lc_ro σ 7 (va_cpy (σ.2.1 6) (σ.2.1 7) 0 0 6)) 1 x)) : lc_V G Γ cc nL own (pc) lv (.int 6 :: .int 0 :: .ref (G.1 9) :: .int 0 :: .ref (G.1 8) :: st) (lc_w σ 1 x) := by
  intro C H locs ls hP hl
  subst hw
  have hT := C.2.2.2.2.1
  have hD : va_D (lc_γA Γ) (lc_ws G (lc_w σ 1 x)) := lc_D C.2.2.2.2.2.2.1 C.2.2.2.2.2.2.2.1
  have hse := lc_ws_set G (lc_w σ 1 x) (lc_w (lc_ro σ 7 (va_cpy (σ.2.1 6) (σ.2.1 7) 0 0 6)) 1 x) (k := 9) (E := lc_aE G 6 (va_cpy (σ.2.1 6) (σ.2.1 7) 0 0 6)) rfl (lc_h3 9 (fun k hk hne => by
    match k, hk, hne with
    | 0, _, hne => first | rfl | exact absurd rfl hne
    | 1, _, hne => first | rfl | exact absurd rfl hne
    | 2, _, hne => first | rfl | exact absurd rfl hne
    | 3, _, hne => first | rfl | exact absurd rfl hne
    | 4, _, hne => first | rfl | exact absurd rfl hne
    | 5, _, hne => first | rfl | exact absurd rfl hne
    | 6, _, hne => first | rfl | exact absurd rfl hne
    | 7, _, hne => first | rfl | exact absurd rfl hne
    | 8, _, hne => first | rfl | exact absurd rfl hne
    | 9, _, hne => first | rfl | exact absurd rfl hne
    | 10, _, hne => first | rfl | exact absurd rfl hne
    | 11, _, hne => first | rfl | exact absurd rfl hne
    | 12, _, hne => first | rfl | exact absurd rfl hne
    | 13, _, hne => first | rfl | exact absurd rfl hne
    | 14, _, hne => first | rfl | exact absurd rfl hne
    | 15, _, hne => first | rfl | exact absurd rfl hne
    | 16, _, hne => first | rfl | exact absurd rfl hne
    | 17, _, hne => first | rfl | exact absurd rfl hne
    | 18, _, hne => first | rfl | exact absurd rfl hne
    | 19, _, hne => first | rfl | exact absurd rfl hne
    | 20, _, hne => first | rfl | exact absurd rfl hne
    | 21, _, hne => first | rfl | exact absurd rfl hne
    | 22, _, hne => first | rfl | exact absurd rfl hne
    | 23, _, hne => first | rfl | exact absurd rfl hne
    | 24, _, hne => first | rfl | exact absurd rfl hne
    | 25, _, hne => first | rfl | exact absurd rfl hne
    | k + 26, hk, _ => exact absurd hk (by omega)) (fun a b _ _ g hg => rfl))
  refine va_copyi (D := (G.2.1, G.2.2.1)) C.1 C.2.1 (C.2.2.1.trans hl.1.symm) C.2.2.2.1 (hT.use _ (lc_in 494 (by decide +kernel) rfl)) (hT.use _ (lc_in 496 (by decide +kernel) rfl)) (hT.use _ (lc_in 495 (by decide +kernel) rfl)) (hT.use _ (lc_in 89 (by decide +kernel) rfl)) C.2.2.2.2.2.1 hP.1 hD hP.2 8 9 0 0 (lc_ws_get G _ (by decide)) (lc_ws_get G _ (by decide)) rfl rfl (ty := .int) rfl (by decide) (by decide) (by decide) (Nat.le_of_ble_eq_true rfl) (Nat.le_of_ble_eq_true rfl) (fun _ _ => rfl) hf.1 hf.2 hd (fun H1 locs1 hP1 hD1 hS1 => ?_)
  have hP2 : lc_P G (lc_w (lc_ro σ 7 (va_cpy (σ.2.1 6) (σ.2.1 7) 0 0 6)) 1 x) H1 := by
    unfold lc_P
    rw [← hse]
    exact hP1
  exact kk C H1 locs1 ls ⟨hP2, hS1⟩ hl
theorem lc_gWoLim (hl : lc_fl own idx (TX3 0)) (hd : decode cc pc = .ok (.getfield idx, 3)) (kk : lc_V G Γ cc nL own (pc + 3) lv (.ref (G.1 6) :: st) (σ)) : lc_V G Γ cc nL own (pc) lv (.ref (G.1 4) :: st) (σ) := lc_get 4 3 0 (by decide) rfl lc_cX3 (by decide) rfl hl hd kk
theorem lc_gWoSites (hl : lc_fl own idx (TX3 4)) (hd : decode cc pc = .ok (.getfield idx, 3)) (kk : lc_V G Γ cc nL own (pc + 3) lv (.int (σ.1 0 7 0) :: st) (lc_w σ 1 x)) : lc_V G Γ cc nL own (pc) lv (.ref (G.1 4) :: st) (lc_w σ 1 x) := lc_get 4 3 4 (by decide) rfl lc_cX3 (by decide) rfl hl hd kk
theorem lc_gWoNow (hl : lc_fl own idx (TX3 5)) (hd : decode cc pc = .ok (.getfield idx, 3)) (kk : lc_V G Γ cc nL own (pc + 3) lv (.int (σ.1 0 7 1) :: st) (lc_w σ 1 x)) : lc_V G Γ cc nL own (pc) lv (.ref (G.1 4) :: st) (lc_w σ 1 x) := lc_get 4 3 5 (by decide) rfl lc_cX3 (by decide) rfl hl hd kk
theorem lc_gWoOff (hl : lc_fl own idx (TX3 6)) (hd : decode cc pc = .ok (.getfield idx, 3)) (kk : lc_V G Γ cc nL own (pc + 3) lv (.int (σ.1 0 7 2) :: st) (lc_w σ 1 x)) : lc_V G Γ cc nL own (pc) lv (.ref (G.1 4) :: st) (lc_w σ 1 x) := lc_get 4 3 6 (by decide) rfl lc_cX3 (by decide) rfl hl hd kk
theorem lc_gIo (i f : Nat) (hi : i < 24) (hf : f < 6) (hl : lc_fl own idx (TX0 f)) (hd : decode cc pc = .ok (.getfield idx, 3)) (kk : lc_V G Γ cc nL own (pc + 3) lv (.int (σ.1 0 f i) :: st) (lc_w σ 1 x)) : lc_V G Γ cc nL own (pc) lv (.ref (G.1 (lc_it 0 i)) :: st) (lc_w σ 1 x) := lc_gI 0 i f (by decide) hi hf hl hd (by rw [lc_w_cn σ x (by decide)]; exact kk)
end LCR3
theorem lc_nm1 {p : Nat} (h : p < 2 ^ 31) : ¬ nI p = -1 := by
  intro e
  have h1 := nI_toInt h
  rw [e] at h1
  have h2 : (-1 : Int32).toInt = -1 := by decide
  omega
/-- a loop that may be left early for its end -/
theorem sp_it_stop {α : Type} (f : Nat → α → α) (n : Nat) (stop : Nat → α → Bool) (hst : ∀ i z, i < n → stop i z = true → f i z = z ∧ stop (i + 1) z = true) (z : α) (i : Nat) (h : stop i (sp_it f i z) = true) : ∀ m, i + m ≤ n → sp_it f (i + m) z = sp_it f i z ∧ stop (i + m) (sp_it f (i + m) z) = true := by
  intro m
  induction m with
  | zero => intro _; exact ⟨rfl, h⟩
  | succ m ih =>
    intro hm
    have ih := ih (by omega)
    have h1 := hst (i + m) _ (by omega) ih.2
    have e : sp_it f (i + (m + 1)) z = sp_it f (i + m) z := h1.1
    refine ⟨e.trans ih.1, ?_⟩
    rw [e]
    exact h1.2
theorem lc_forS {α : Type} (P : Nat → α → Prop) (E : α → Prop) (f : Nat → α → α) (n : Nat) (stop : Nat → α → Bool) (hst : ∀ i z, i < n → stop i z = true → f i z = z ∧ stop (i + 1) z = true) (step : ∀ i z, i < n → (stop i z = false → P (i + 1) (f i z)) → (stop i z = true → E z) → P i z) (last : ∀ z, E z → P n z) (z : α) (hE : E (sp_it f n z)) : P 0 z := by
  have key : ∀ k i, i + k = n → P i (sp_it f i z) := by
    intro k
    induction k with
    | zero =>
      intro i hi
      have e : i = n := by omega
      rw [e]
      exact last _ hE
    | succ k ih =>
      intro i hi
      refine step i _ (by omega) (fun _ => ih (i + 1) (by omega)) (fun h => ?_)
      have h1 := (sp_it_stop f n stop hst z i h (n - i) (by omega)).1
      rw [show i + (n - i) = n by omega] at h1
      rw [← h1]
      exact hE
  exact key n 0 (by omega)
/-- a loop that may be left early with an answer -/
def sp_itE {α : Type} (g : Nat → α → Bool) (f : Nat → α → α) : Nat → α → Option α
  | 0, z => some z
  | n + 1, z => match sp_itE g f n z with
    | none => none
    | some y => if g n y = true then some (f n y) else none
theorem sp_itE_none {α : Type} {g : Nat → α → Bool} {f : Nat → α → α} {z0 z : α} {i n : Nat} (hi : i < n) (hz : sp_itE g f i z0 = some z) (hg : g i z = false) : sp_itE g f n z0 = none := by
  have key : ∀ m, sp_itE g f (i + 1 + m) z0 = none := by
    intro m
    induction m with
    | zero => show (match sp_itE g f i z0 with | none => none | some y => if g i y = true then some (f i y) else none) = none; rw [hz]; simp [hg]
    | succ m ih => show (match sp_itE g f (i + 1 + m) z0 with | none => none | some y => if g (i + 1 + m) y = true then some (f (i + 1 + m) y) else none) = none; rw [ih]
  have h := key (n - (i + 1))
  rw [show i + 1 + (n - (i + 1)) = n by omega] at h
  exact h
theorem sp_itE_I {α : Type} (I : Nat → α → Prop) (g : Nat → α → Bool) (f : Nat → α → α) (hI : ∀ i z, I i z → g i z = true → I (i + 1) (f i z)) (z0 : α) (h0 : I 0 z0) : ∀ n z, sp_itE g f n z0 = some z → I n z := by
  intro n
  induction n with
  | zero => intro z h; cases h; exact h0
  | succ n ih =>
    intro z h
    have h : (match sp_itE g f n z0 with | none => none | some y => if g n y = true then some (f n y) else none) = some z := h
    cases e : sp_itE g f n z0 with
    | none => rw [e] at h; cases h
    | some y =>
      rw [e] at h
      by_cases hg : g n y = true
      · simp only [hg, if_true] at h
        cases h
        exact hI n y (ih y e) hg
      · simp only [hg, if_false] at h
        cases h
theorem lc_forE {α : Type} (P : Nat → α → Prop) (g : Nat → α → Bool) (f : Nat → α → α) (n : Nat) (z0 : α) (step : ∀ i z, i < n → sp_itE g f i z0 = some z → (g i z = true → P (i + 1) (f i z)) → P i z) (done : ∀ z, sp_itE g f n z0 = some z → P n z) : P 0 z0 := by
  have key : ∀ m, m ≤ n → (∀ z, sp_itE g f m z0 = some z → P m z) → P 0 z0 := by
    intro m
    induction m with
    | zero => intro _ h; exact h z0 rfl
    | succ m ih =>
      intro hm h
      refine ih (by omega) (fun z hz => step m z (by omega) hz (fun hg => h _ ?_))
      show (match sp_itE g f m z0 with | none => none | some y => if g m y = true then some (f m y) else none) = _
      rw [hz]
      simp [hg]
  exact key n (Nat.le_refl n) done
theorem lc_cz (b : Int32) : 0 = b + (0 - b) := by
  rw [Int32.zero_sub, Int32.add_neg_eq_sub, Int32.sub_self]
end
section
/-! pure words of a world: who is near, partners, putting, removing, a line's start -/
def sp_near (pos : Nat → Int32) (a : Nat) (among : Int32) (s : Nat) (z : Option Nat × Int32) : Option Nat × Int32 := if (sp_bit among (nI s) && (z.1.isNone || decide (sp_abs (pos s - pos a) < z.2))) = true then (some s, sp_abs (pos s - pos a)) else z
def sp_nears (pos : Nat → Int32) (a : Nat) (among : Int32) (n : Nat) : Option Nat × Int32 := sp_it (sp_near pos a among) n (none, 0)
theorem sp_near_I (pos : Nat → Int32) (a : Nat) (among : Int32) (i : Nat) (z : Option Nat × Int32) (h : ∀ b, z.1 = some b → b < i) : ∀ b, (sp_near pos a among i z).1 = some b → b < i + 1 := by
  intro b hb
  unfold sp_near at hb
  split at hb
  · cases hb; omega
  · have := h b hb; omega
theorem sp_near_lt (pos : Nat → Int32) (a : Nat) (among : Int32) (n : Nat) : ∀ b, (sp_nears pos a among n).1 = some b → b < n := sp_it_I (fun i z => ∀ b, z.1 = some b → b < i) (sp_near pos a among) n (fun i z _ h => sp_near_I pos a among i z h) (none, 0) (fun b h => by cases h)
def sp_kp (pos : Nat → Int32) (a n : Nat) (z : Int32 × Int32) : Int32 × Int32 := if z.2 = 0 then z else (z.1 ||| ((1 : Int32) <<< (sp_on (sp_nears pos a z.2 n).1 &&& 31)), z.2 &&& (((1 : Int32) <<< (sp_on (sp_nears pos a z.2 n).1 &&& 31)) ^^^ (-1)))
def sp_keepC (pos : Nat → Int32) (a n m : Nat) (o : Int32) : Int32 := (sp_it (fun _ => sp_kp pos a n) (m - 1) ((1 : Int32) <<< (nI a &&& 31), o)).1
def sp_ush (v k : Int32) : Int32 := (v.toUInt32 >>> (k.toUInt32 &&& Int32.toUInt32 31)).toInt32
def sp_b1 (v : Int32) : Int32 := v - (sp_ush v 1 &&& 1431655765)
def sp_b2 (v : Int32) : Int32 := (v &&& 858993459) + (sp_ush v 2 &&& 858993459)
def sp_b3 (v : Int32) : Int32 := (v + sp_ush v 4) &&& 252645135
def sp_b4 (v : Int32) : Int32 := v + sp_ush v 8
def sp_b5 (v : Int32) : Int32 := v + sp_ush v 16
def sp_bc (v : Int32) : Int32 := sp_b5 (sp_b4 (sp_b3 (sp_b2 (sp_b1 v)))) &&& 63
def sp_wt1 (v : Int32) (i : Nat) (z : Int32) : Int32 := if v ≤ nI i then z else z + lc_wei i
def sp_wt (v : Int32) : Int32 := sp_it (sp_wt1 v) 5 0
def sp_pbr (pos : Nat → Int32) (a n : Nat) (draw : Int32) : Nat → Nat → Int32 → Int32 → Int32
  | 0, _, _, _ => -1
  | k + 1, r, o, s => if o = 0 then -1 else if draw < s + lc_wei r then sp_on (sp_nears pos a o n).1 else sp_pbr pos a n draw k (r + 1) (o &&& (((1 : Int32) <<< (sp_on (sp_nears pos a o n).1 &&& 31)) ^^^ (-1))) (s + lc_wei r)
def sp_rem (a b : Int32) : Int32 := a - a / b * b
def sp_partC (B : lc_C) (pos : Nat → Int32) (a n : Nat) (seed : Int32) : Int32 := if sp_wt (sp_bc (sp_othOn B (nI a))) ≤ 0 then -1 else sp_pbr pos a n (sp_rem (seed / 65536) (sp_wt (sp_bc (sp_othOn B (nI a))))) 5 0 (sp_othOn B (nI a)) 0
def sp_aag (B : lc_C) (s : Nat) (z : Option Nat) : Bool := sp_bit (B 7 2) (nI s) || (match z with | none => true | some p => sp_alike B p s)
def sp_aaf (B : lc_C) (s : Nat) (z : Option Nat) : Option Nat := if sp_bit (B 7 2) (nI s) = true then z else some s
def sp_aaC (B : lc_C) (n : Nat) : Bool := (sp_itE (sp_aag B) (sp_aaf B) n none).isSome
theorem sp_aa_lt (B : lc_C) (n : Nat) (z : Option Nat) (h : sp_itE (sp_aag B) (sp_aaf B) n none = some z) : ∀ p, z = some p → p < n := by
  refine sp_itE_I (fun i z => ∀ p, z = some p → p < i) (sp_aag B) (sp_aaf B) (fun i z hz _ p hp => ?_) none (fun p hp => by cases hp) n z h
  unfold sp_aaf at hp
  split at hp
  · have := hz p hp; omega
  · cases hp; omega
def sp_putV (n : Nat) (x : lc_X) (a k : Nat) (v : Int32) : Int32 × lc_X := ((sp_adv n x 1).2.1 7 1, (sp_val (sp_adv n x 1).2.1 (4 * a + k) v ((sp_adv n x 1).2.1 7 1) ((sp_adv n x 1).2.1 6 2), (sp_adv n x 1).2.2))
def sp_remV (n : Nat) (x : lc_X) (a k : Nat) (kp : Int32) : Int32 × lc_X := ((sp_adv n x 1).2.1 7 1, (sp_cer (sp_adv n x 1).2.1 (4 * a + k) kp ((sp_adv n x 1).2.1 7 1) ((sp_adv n x 1).2.1 6 2), (sp_adv n x 1).2.2))
theorem sp_adv_70 (n : Nat) (x : lc_X) (d : Int32) : (sp_adv n x d).2.1 7 0 = x.1 7 0 := by
  unfold sp_adv
  rw [sp_drop_7]
  rfl
theorem sp_adv_71 (n : Nat) (x : lc_X) (d : Int32) : (sp_adv n x d).2.1 7 1 = x.1 7 1 + d := by
  unfold sp_adv
  rw [sp_drop_7]
  rfl
theorem sp_adv_72 (n : Nat) (x : lc_X) (d : Int32) : (sp_adv n x d).2.1 7 2 = x.1 7 2 := by
  unfold sp_adv
  rw [sp_drop_7]
  rfl
theorem sp_adv_6 (n : Nat) (x : lc_X) (d : Int32) : (sp_adv n x d).2.1 6 = x.1 6 := by
  unfold sp_adv
  rw [sp_drop_6]
  rfl
def sp_fresh (lim : Nat → Int32) (len : Int32) : lc_C := fun r k => match r with
  | 0 => 0
  | 1 => -1
  | 2 => -1
  | 3 => -1
  | 4 => -1
  | 5 => 0
  | 6 => lim k
  | 7 => if k = 0 then len else 0
  | _ => 0
theorem lc_mabs {G : lc_G} {Γ : lc_Γ} {cc : ByteArray} {nL : Nat} {own : String} {pc : Nat} {lv : List (Nat × Value)} {st : List Value} {σ : lc_S} {v : Int32} (hw : own = RX3) (hf : 1 ≤ (lc_γR Γ).frames ∧ (st.map fun v => v.category).sum + 13 ≤ (lc_γR Γ).locals) (hd : decode cc pc = .ok (.invokestatic 162, 3)) (kk : lc_V G Γ cc nL own (pc + 3) lv (.int (sp_abs v) :: st) σ) : lc_V G Γ cc nL own pc lv (.int v :: st) σ := by
  intro C H locs ls hP hl
  subst hw
  have hT := C.2.2.2.2.1
  refine va_mabs C.1 C.2.1 (C.2.2.1.trans hl.1.symm) C.2.2.2.1 (hT.use _ (lc_in 341 (by decide +kernel) rfl)) (hT.use _ (lc_in 342 (by decide +kernel) rfl)) (hT.use _ (lc_in 87 (by decide +kernel) rfl)) (hT.use _ (lc_in 343 (by decide +kernel) rfl)) hf.1 hf.2 C.2.2.2.2.2.2.2.2.2.2.1 C.2.2.2.2.2.2.2.2.2.2.2 hd ?_
  have e : (if 0 ≤ v then v else 0 - v) = sp_abs v := by
    unfold sp_abs
    by_cases h : v < 0
    · rw [if_pos h, if_neg (fun z => absurd h (Int32.not_lt.mpr z)), Int32.zero_sub]
    · rw [if_neg h, if_pos (Int32.not_lt.mp h)]
  rw [e]
  exact kk C H locs ls hP hl
theorem lc_nm1b {b : Nat} (hb : b < 2 ^ 31) (h : nI b = -1) : False := lc_nm1 hb h
end
section
set_option maxRecDepth 100000 in
set_option maxHeartbeats 4000000 in
theorem c_X3_othersOf (l : Launch) (G : lc_G) (σ : lc_S) (j : Nat) (x : lc_X) (s : Int32) (hj : j < 2) : lc_M l G yX3_othersOf cX3_othersOf 2 (some .int) { frames := 0, cells := 0, slots := 0, locals := 0 } [.ref (G.1 (4 + j)), .int (s)] (lc_w σ j x) (some (.int (sp_oth s (x.1 7 0)))) (lc_w σ j x) := by
  refine lc_entry [(0, .ref (G.1 (4 + j))), (1, .int (s))] (by decide) (Nat.le_of_ble_eq_true rfl) rfl rfl rfl ?_
  intro Γ hR
  refine lc_iconst (v := 1) dX3_othersOf_0 (by decide) ?_
  refine lc_aload_n 0 dX3_othersOf_1 rfl ?_
  refine lc_gWSites j (by omega) fl_X3_34 dX3_othersOf_2 ?_
  refine lc_ishl dX3_othersOf_5 ?_
  refine lc_iconst (v := 1) dX3_othersOf_6 (by decide) ?_
  refine lc_isub dX3_othersOf_7 ?_
  refine lc_iconst (v := 1) dX3_othersOf_8 (by decide) ?_
  refine lc_iload_n 1 dX3_othersOf_9 rfl ?_
  refine lc_ishl dX3_othersOf_10 ?_
  refine lc_iconst (v := (-1)) dX3_othersOf_11 (by decide) ?_
  refine lc_ixor dX3_othersOf_12 ?_
  refine lc_iand dX3_othersOf_13 ?_
  exact lc_iret hR dX3_othersOf_14 (rfl) (rfl)

set_option maxRecDepth 100000 in
set_option maxHeartbeats 4000000 in
theorem c_X3_othersOn (l : Launch) (G : lc_G) (σ : lc_S) (j : Nat) (x : lc_X) (s : Int32) (hj : j < 2) : lc_M l G yX3_othersOn cX3_othersOn 2 (some .int) { frames := 1, cells := 0, slots := 0, locals := 21 } [.ref (G.1 (4 + j)), .int (s)] (lc_w σ j x) (some (.int (sp_othOn x.1 s))) (lc_w σ j x) := by
  refine lc_entry [(0, .ref (G.1 (4 + j))), (1, .int (s))] (by decide) (Nat.le_of_ble_eq_true rfl) rfl rfl rfl ?_
  intro Γ hR
  refine lc_aload_n 0 dX3_othersOn_0 rfl ?_
  refine lc_iload_n 1 dX3_othersOn_1 rfl ?_
  refine lc_callV (4 + j) (c_X3_othersOf l G σ j x s (by omega)) hR.2.2.2.1 hR.2.2.2.2 mt_X3_othersOf (by omega) (lc_eW j (by omega)) rfl ml_X3_111 rfl rfl (Nat.le_of_ble_eq_true rfl) ⟨⟨rfl, rfl⟩, Nat.le_of_ble_eq_true rfl, Nat.le_of_ble_eq_true rfl⟩ dX3_othersOn_2 ?_
  show lc_V _ _ _ _ _ 5 _ [.int (sp_oth s (x.1 7 0))] (lc_w σ j x)
  refine lc_aload_n 0 dX3_othersOn_5 rfl ?_
  refine lc_gWOff j (by omega) fl_X3_40 dX3_othersOn_6 ?_
  refine lc_iconst (v := (-1)) dX3_othersOn_9 (by decide) ?_
  refine lc_ixor dX3_othersOn_10 ?_
  refine lc_iand dX3_othersOn_11 ?_
  exact lc_iret hR dX3_othersOn_12 (rfl) (rfl)

set_option maxRecDepth 100000 in
set_option maxHeartbeats 4000000 in
theorem c_J6_bitCount_0f7a4 (l : Launch) (G : lc_G) (σ : lc_S) (v : Int32) : lc_M l G yJ6_bitCount_0f7a4 cJ6_bitCount_0f7a4 1 (some .int) { frames := 0, cells := 0, slots := 0, locals := 0 } [.int (v)] (σ) (some (.int (sp_bc v))) (σ) := by
  refine lc_entry [(0, .int (v))] (by decide) (Nat.le_of_ble_eq_true rfl) rfl rfl rfl ?_
  intro Γ hR
  refine lc_iload_n 0 dJ6_bitCount_0f7a4_0 rfl ?_
  refine lc_iload_n 0 dJ6_bitCount_0f7a4_1 rfl ?_
  refine lc_iconst (v := 1) dJ6_bitCount_0f7a4_2 (by decide) ?_
  refine lc_iushr dJ6_bitCount_0f7a4_3 ?_
  refine lc_ldcw kc_J6_265 dJ6_bitCount_0f7a4_4 ?_
  refine lc_iand dJ6_bitCount_0f7a4_7 ?_
  refine lc_isub dJ6_bitCount_0f7a4_8 ?_
  refine lc_topi (sp_b1 v) rfl ?_
  refine lc_istore_n [(0, .int (sp_b1 v))] dJ6_bitCount_0f7a4_9 (by decide) rfl ?_
  refine lc_iload_n 0 dJ6_bitCount_0f7a4_10 rfl ?_
  refine lc_ldcw kc_J6_266 dJ6_bitCount_0f7a4_11 ?_
  refine lc_iand dJ6_bitCount_0f7a4_14 ?_
  refine lc_iload_n 0 dJ6_bitCount_0f7a4_15 rfl ?_
  refine lc_iconst (v := 2) dJ6_bitCount_0f7a4_16 (by decide) ?_
  refine lc_iushr dJ6_bitCount_0f7a4_17 ?_
  refine lc_ldcw kc_J6_266 dJ6_bitCount_0f7a4_18 ?_
  refine lc_iand dJ6_bitCount_0f7a4_21 ?_
  refine lc_iadd dJ6_bitCount_0f7a4_22 ?_
  refine lc_topi (sp_b2 (sp_b1 v)) rfl ?_
  refine lc_istore_n [(0, .int (sp_b2 (sp_b1 v)))] dJ6_bitCount_0f7a4_23 (by decide) rfl ?_
  refine lc_iload_n 0 dJ6_bitCount_0f7a4_24 rfl ?_
  refine lc_iload_n 0 dJ6_bitCount_0f7a4_25 rfl ?_
  refine lc_iconst (v := 4) dJ6_bitCount_0f7a4_26 (by decide) ?_
  refine lc_iushr dJ6_bitCount_0f7a4_27 ?_
  refine lc_iadd dJ6_bitCount_0f7a4_28 ?_
  refine lc_ldcw kc_J6_267 dJ6_bitCount_0f7a4_29 ?_
  refine lc_iand dJ6_bitCount_0f7a4_32 ?_
  refine lc_topi (sp_b3 (sp_b2 (sp_b1 v))) rfl ?_
  refine lc_istore_n [(0, .int (sp_b3 (sp_b2 (sp_b1 v))))] dJ6_bitCount_0f7a4_33 (by decide) rfl ?_
  refine lc_iload_n 0 dJ6_bitCount_0f7a4_34 rfl ?_
  refine lc_iload_n 0 dJ6_bitCount_0f7a4_35 rfl ?_
  refine lc_bipush (v := 8) dJ6_bitCount_0f7a4_36 (by decide) ?_
  refine lc_iushr dJ6_bitCount_0f7a4_38 ?_
  refine lc_iadd dJ6_bitCount_0f7a4_39 ?_
  refine lc_topi (sp_b4 (sp_b3 (sp_b2 (sp_b1 v)))) rfl ?_
  refine lc_istore_n [(0, .int (sp_b4 (sp_b3 (sp_b2 (sp_b1 v)))))] dJ6_bitCount_0f7a4_40 (by decide) rfl ?_
  refine lc_iload_n 0 dJ6_bitCount_0f7a4_41 rfl ?_
  refine lc_iload_n 0 dJ6_bitCount_0f7a4_42 rfl ?_
  refine lc_bipush (v := 16) dJ6_bitCount_0f7a4_43 (by decide) ?_
  refine lc_iushr dJ6_bitCount_0f7a4_45 ?_
  refine lc_iadd dJ6_bitCount_0f7a4_46 ?_
  refine lc_topi (sp_b5 (sp_b4 (sp_b3 (sp_b2 (sp_b1 v))))) rfl ?_
  refine lc_istore_n [(0, .int (sp_b5 (sp_b4 (sp_b3 (sp_b2 (sp_b1 v))))))] dJ6_bitCount_0f7a4_47 (by decide) rfl ?_
  refine lc_iload_n 0 dJ6_bitCount_0f7a4_48 rfl ?_
  refine lc_bipush (v := 63) dJ6_bitCount_0f7a4_49 (by decide) ?_
  refine lc_iand dJ6_bitCount_0f7a4_51 ?_
  exact lc_iret hR dJ6_bitCount_0f7a4_52 (rfl) (rfl)

set_option maxRecDepth 100000 in
set_option maxHeartbeats 4000000 in
theorem c_X3_weightOf (l : Launch) (G : lc_G) (σ : lc_S) (v : Int32) : lc_M l G yX3_weightOf cX3_weightOf 3 (some .int) { frames := 0, cells := 0, slots := 0, locals := 0 } [.int (v)] (σ) (some (.int (sp_wt v))) (σ) := by
  refine lc_entry [(0, .int (v))] (by decide) (Nat.le_of_ble_eq_true rfl) rfl rfl rfl ?_
  intro Γ hR
  refine lc_iconst (v := 0) dX3_weightOf_0 (by decide) ?_
  refine lc_istore_n [(1, .int (0)), (0, .int (v))] dX3_weightOf_1 (by decide) rfl ?_
  refine lc_iconst (v := 0) dX3_weightOf_2 (by decide) ?_
  refine lc_istore_n [(2, .int (0)), (1, .int (0)), (0, .int (v))] dX3_weightOf_3 (by decide) rfl ?_
  refine lc_lv (lv' := [(0, .int (v)), (1, .int (0)), (2, .int (0))]) [2, 1, 0] rfl ?_
  refine lc_forS (α := Int32) (fun i z => lc_V G Γ cX3_weightOf 3 RX3 4 [(0, .int (v)), (1, .int (z)), (2, .int (nI i))] [] (σ)) (fun z => lc_V G Γ cX3_weightOf 3 RX3 31 [(1, .int (z))] [] (σ)) (sp_wt1 v) 5 (fun i _ => decide (v ≤ nI i)) (fun i z hi h => ⟨by simp only [sp_wt1, if_pos (of_decide_eq_true h)], by rw [decide_eq_true_eq] at h ⊢; exact Int32.le_trans h (nI_le (by omega) (by omega))⟩) (fun i z hi ki ei => ?_) (fun z ei => ?_) 0 ?_
  · skip
    show lc_V G Γ cX3_weightOf 3 RX3 4 [(0, .int (v)), (1, .int (z)), (2, .int (nI i))] [] (σ)
    refine lc_iload_n 2 dX3_weightOf_4 rfl ?_
    refine lc_gsWEI fl_X3_179 dX3_weightOf_5 ?_
    refine lc_slWEI dX3_weightOf_8 ?_
    refine lc_icmp_ge 31 dX3_weightOf_9 (by decide) (fun h => absurd h.1 (by exact nI_ge (b := 5) hi (by omega))) (fun _ => ?_)
    refine lc_iload_n 2 dX3_weightOf_12 rfl ?_
    refine lc_iload_n 0 dX3_weightOf_13 rfl ?_
    refine lc_icmp_ge 31 dX3_weightOf_14 (by decide) (fun c_2 => ?_) (fun c_2 => ?_)
    · skip
      refine lc_lv (lv' := [(1, .int (z))]) [1] rfl ?_
      exact ei (decide_eq_true c_2.1)
    · skip
      refine lc_iload_n 1 dX3_weightOf_17 rfl ?_
      refine lc_gsWEI fl_X3_179 dX3_weightOf_18 ?_
      refine lc_iload_n 2 dX3_weightOf_21 rfl ?_
      refine lc_saWEI i (rfl) (by omega) dX3_weightOf_22 ?_
      refine lc_iadd dX3_weightOf_23 ?_
      refine lc_istore_n [(1, .int ((z + (lc_wei i)))), (0, .int (v)), (2, .int (nI i))] dX3_weightOf_24 (by decide) rfl ?_
      refine lc_iinc 2 (nI (i + 1)) [(2, .int (nI (i + 1))), (1, .int ((z + (lc_wei i)))), (0, .int (v))] dX3_weightOf_25 rfl (lc_inc1 i) (by decide) rfl ?_
      refine lc_goto 4 dX3_weightOf_28 (by decide) ?_
      refine lc_lv (lv' := [(0, .int (v)), (1, .int ((z + (lc_wei i)))), (2, .int (nI (i + 1)))]) [2, 1, 0] rfl ?_
      have ki := ki (decide_eq_false c_2.2)
      rw [show (sp_wt1 v) i z = (z + (lc_wei i)) from by simp only [sp_wt1, if_neg c_2.2]] at ki
      exact ki
  · skip
    show lc_V G Γ cX3_weightOf 3 RX3 4 [(0, .int (v)), (1, .int (z)), (2, .int (nI 5))] [] (σ)
    refine lc_iload_n 2 dX3_weightOf_4 rfl ?_
    refine lc_gsWEI fl_X3_179 dX3_weightOf_5 ?_
    refine lc_slWEI dX3_weightOf_8 ?_
    refine lc_icmp_ge 31 dX3_weightOf_9 (by decide) (fun _ => ?_) (fun h => absurd h.1 (by exact nI_nlt (a := 5) (b := 5) (Nat.le_refl _) (by omega)))
    refine lc_lv (lv' := [(1, .int (z))]) [1] rfl ?_
    exact ei
  · skip
    show lc_V G Γ _ _ _ 31 [(1, .int (sp_wt v))] [] (σ)
    refine lc_iload_n 0 dX3_weightOf_31 rfl ?_
    exact lc_iret hR dX3_weightOf_32 (rfl) (rfl)

set_option maxRecDepth 100000 in
set_option maxHeartbeats 4000000 in
theorem c_X3_nearest (l : Launch) (G : lc_G) (σ : lc_S) (j : Nat) (x : lc_X) (n a : Nat) (m : Int32) (hj : j < 2) (hn : n ≤ 6) (ha : a < 6) (hs : x.1 7 0 = nI n) : lc_M l G yX3_nearest cX3_nearest 8 (some .int) { frames := 1, cells := 0, slots := 0, locals := 13 } [.ref (G.1 (4 + j)), .int (nI a), .int (m)] (lc_w σ j x) (some (.int (sp_on (sp_nears (σ.2.1 (6 + j)) a m n).1))) (lc_w σ j x) := by
  refine lc_entry [(0, .ref (G.1 (4 + j))), (1, .int (nI a)), (2, .int (m))] (by decide) (Nat.le_of_ble_eq_true rfl) rfl rfl rfl ?_
  intro Γ hR
  refine lc_iconst (v := (-1)) dX3_nearest_0 (by decide) ?_
  refine lc_istore_n [(3, .int ((-1))), (0, .ref (G.1 (4 + j))), (1, .int (nI a)), (2, .int (m))] dX3_nearest_1 (by decide) rfl ?_
  refine lc_iconst (v := 0) dX3_nearest_2 (by decide) ?_
  refine lc_istore [(4, .int (0)), (3, .int ((-1))), (0, .ref (G.1 (4 + j))), (1, .int (nI a)), (2, .int (m))] dX3_nearest_3 (by decide) rfl ?_
  refine lc_iconst (v := 0) dX3_nearest_5 (by decide) ?_
  refine lc_istore [(5, .int (0)), (4, .int (0)), (3, .int ((-1))), (0, .ref (G.1 (4 + j))), (1, .int (nI a)), (2, .int (m))] dX3_nearest_6 (by decide) rfl ?_
  refine lc_lv (lv' := [(0, .ref (G.1 (4 + j))), (1, .int (nI a)), (2, .int (m)), (3, .int ((-1))), (4, .int (0)), (5, .int (0))]) [3, 4, 5, 2, 1, 0] rfl ?_
  refine lc_forI (α := Option Nat × Int32) (fun i z => lc_V G Γ _ _ _ 8 [(0, .ref (G.1 (4 + j))), (1, .int (nI a)), (2, .int (m)), (3, .int (sp_on z.1)), (4, .int z.2), (5, .int (nI i))] [] (lc_w σ j x)) (fun i z => ∀ b, z.1 = some b → b < i) (sp_near (σ.2.1 (6 + j)) a m) n (fun i z _ h => sp_near_I _ _ _ _ _ h) (fun i z hi hIi ki => ?_) (none, 0) (fun b h => by cases h) (fun _ => ?_)
  · skip
    rcases z with ⟨_ | b, d⟩
    · skip
      show lc_V G Γ _ _ _ 8 [(0, .ref (G.1 (4 + j))), (1, .int (nI a)), (2, .int (m)), (3, .int ((-1))), (4, .int (d)), (5, .int (nI i))] [] (lc_w σ j x)
      refine lc_iload 5 dX3_nearest_8 rfl ?_
      refine lc_aload_n 0 dX3_nearest_10 rfl ?_
      refine lc_gWSites j (by omega) fl_X3_34 dX3_nearest_11 ?_
      refine lc_icmp_ge 83 dX3_nearest_14 (by decide) (fun h => absurd h.1 (by rw [hs]; exact nI_ge (b := n) hi (by omega))) (fun _ => ?_)
      refine lc_aload_n 0 dX3_nearest_17 rfl ?_
      refine lc_gWPos j (by omega) fl_X3_15 dX3_nearest_18 ?_
      refine lc_iload 5 dX3_nearest_21 rfl ?_
      refine lc_iald (8 + j) i (by omega) (lc_ePosw j (by omega)) (rfl) (by omega) (by decide) dX3_nearest_23 ?_
      refine lc_aload_n 0 dX3_nearest_24 rfl ?_
      refine lc_gWPos j (by omega) fl_X3_15 dX3_nearest_25 ?_
      refine lc_iload_n 1 dX3_nearest_28 rfl ?_
      refine lc_iald (8 + j) a (by omega) (lc_ePosw j (by omega)) (rfl) (by omega) (by decide) dX3_nearest_29 ?_
      refine lc_isub dX3_nearest_30 ?_
      refine lc_mabs rfl (by rw [hR.2.2.2.2]; exact ⟨Nat.le_of_ble_eq_true rfl, Nat.le_of_ble_eq_true rfl⟩) dX3_nearest_31 ?_
      refine lc_istore [(6, .int (sp_abs (((σ.2.1 (6 + j) i) - (σ.2.1 (6 + j) a))))), (0, .ref (G.1 (4 + j))), (1, .int (nI a)), (2, .int (m)), (3, .int ((-1))), (4, .int (d)), (5, .int (nI i))] dX3_nearest_34 (by decide) rfl ?_
      refine lc_iload_n 3 dX3_nearest_36 rfl ?_
      refine lc_iload 6 dX3_nearest_37 rfl ?_
      refine lc_ishr dX3_nearest_39 ?_
      refine lc_iconst (v := 1) dX3_nearest_40 (by decide) ?_
      refine lc_iand dX3_nearest_41 ?_
      refine lc_iconst (v := 1) dX3_nearest_42 (by decide) ?_
      refine lc_icmp_ne 50 dX3_nearest_43 (by decide) (fun c_2 => ?_) (fun c_2 => ?_)
      · skip
        refine lc_iconst (v := 0) dX3_nearest_50 (by decide) ?_
        refine lc_istore [(7, .int (0)), (6, .int (sp_abs (((σ.2.1 (6 + j) i) - (σ.2.1 (6 + j) a))))), (0, .ref (G.1 (4 + j))), (1, .int (nI a)), (2, .int (m)), (3, .int ((-1))), (4, .int (d)), (5, .int (nI i))] dX3_nearest_51 (by decide) rfl ?_
        refine lc_iload 0 dX3_nearest_53 rfl ?_
        refine lc_if_eq 77 dX3_nearest_55 (by decide) (fun _ => ?_) (fun h => absurd h (by decide))
        refine lc_iinc 7 (nI (i + 1)) [(5, .int (nI (i + 1))), (7, .int (0)), (6, .int (sp_abs (((σ.2.1 (6 + j) i) - (σ.2.1 (6 + j) a))))), (0, .ref (G.1 (4 + j))), (1, .int (nI a)), (2, .int (m)), (3, .int ((-1))), (4, .int (d))] dX3_nearest_77 rfl (lc_inc1 i) (by decide) rfl ?_
        refine lc_goto 8 dX3_nearest_80 (by decide) ?_
        refine lc_lv (lv' := [(0, .ref (G.1 (4 + j))), (1, .int (nI a)), (2, .int (m)), (3, .int ((-1))), (4, .int (d)), (5, .int (nI (i + 1)))]) [3, 4, 5, 6, 7, 0] rfl ?_
        rw [show sp_near (σ.2.1 (6 + j)) a m i (none, d) = (none, d) from by simp [sp_near, sp_bit, c_2]] at ki
        exact ki
      · skip
        refine lc_iconst (v := 1) dX3_nearest_46 (by decide) ?_
        refine lc_goto 51 dX3_nearest_47 (by decide) ?_
        refine lc_istore [(7, .int (1)), (6, .int (sp_abs (((σ.2.1 (6 + j) i) - (σ.2.1 (6 + j) a))))), (0, .ref (G.1 (4 + j))), (1, .int (nI a)), (2, .int (m)), (3, .int ((-1))), (4, .int (d)), (5, .int (nI i))] dX3_nearest_51 (by decide) rfl ?_
        refine lc_iload 0 dX3_nearest_53 rfl ?_
        refine lc_if_eq 77 dX3_nearest_55 (by decide) (fun h => absurd h (by decide)) (fun _ => ?_)
        refine lc_iload_n 5 dX3_nearest_58 rfl ?_
        refine lc_iconst (v := (-1)) dX3_nearest_59 (by decide) ?_
        refine lc_icmp_eq 70 dX3_nearest_60 (by decide) (fun _ => ?_) (fun h => absurd h (by decide))
        refine lc_iload 7 dX3_nearest_70 rfl ?_
        refine lc_istore_n [(3, .int (nI i)), (7, .int (1)), (6, .int (sp_abs (((σ.2.1 (6 + j) i) - (σ.2.1 (6 + j) a))))), (0, .ref (G.1 (4 + j))), (1, .int (nI a)), (2, .int (m)), (4, .int (d)), (5, .int (nI i))] dX3_nearest_72 (by decide) rfl ?_
        refine lc_iload 2 dX3_nearest_73 rfl ?_
        refine lc_istore [(4, .int (sp_abs (((σ.2.1 (6 + j) i) - (σ.2.1 (6 + j) a))))), (3, .int (nI i)), (7, .int (1)), (6, .int (sp_abs (((σ.2.1 (6 + j) i) - (σ.2.1 (6 + j) a))))), (0, .ref (G.1 (4 + j))), (1, .int (nI a)), (2, .int (m)), (5, .int (nI i))] dX3_nearest_75 (by decide) rfl ?_
        refine lc_iinc 7 (nI (i + 1)) [(5, .int (nI (i + 1))), (4, .int (sp_abs (((σ.2.1 (6 + j) i) - (σ.2.1 (6 + j) a))))), (3, .int (nI i)), (7, .int (1)), (6, .int (sp_abs (((σ.2.1 (6 + j) i) - (σ.2.1 (6 + j) a))))), (0, .ref (G.1 (4 + j))), (1, .int (nI a)), (2, .int (m))] dX3_nearest_77 rfl (lc_inc1 i) (by decide) rfl ?_
        refine lc_goto 8 dX3_nearest_80 (by decide) ?_
        refine lc_lv (lv' := [(0, .ref (G.1 (4 + j))), (1, .int (nI a)), (2, .int (m)), (3, .int (nI i)), (4, .int (sp_abs (((σ.2.1 (6 + j) i) - (σ.2.1 (6 + j) a))))), (5, .int (nI (i + 1)))]) [5, 6, 7, 2, 1, 0] rfl ?_
        rw [show sp_near (σ.2.1 (6 + j)) a m i (none, d) = (some i, sp_abs (((σ.2.1 (6 + j) i) - (σ.2.1 (6 + j) a)))) from by simp [sp_near, sp_bit, c_2]] at ki
        exact ki
    · skip
      have hbb : b < 2 ^ 31 := by have := hIi b rfl; omega
      show lc_V G Γ _ _ _ 8 [(0, .ref (G.1 (4 + j))), (1, .int (nI a)), (2, .int (m)), (3, .int (nI b)), (4, .int (d)), (5, .int (nI i))] [] (lc_w σ j x)
      refine lc_iload 5 dX3_nearest_8 rfl ?_
      refine lc_aload_n 0 dX3_nearest_10 rfl ?_
      refine lc_gWSites j (by omega) fl_X3_34 dX3_nearest_11 ?_
      refine lc_icmp_ge 83 dX3_nearest_14 (by decide) (fun h => absurd h.1 (by rw [hs]; exact nI_ge (b := n) hi (by omega))) (fun _ => ?_)
      refine lc_aload_n 0 dX3_nearest_17 rfl ?_
      refine lc_gWPos j (by omega) fl_X3_15 dX3_nearest_18 ?_
      refine lc_iload 5 dX3_nearest_21 rfl ?_
      refine lc_iald (8 + j) i (by omega) (lc_ePosw j (by omega)) (rfl) (by omega) (by decide) dX3_nearest_23 ?_
      refine lc_aload_n 0 dX3_nearest_24 rfl ?_
      refine lc_gWPos j (by omega) fl_X3_15 dX3_nearest_25 ?_
      refine lc_iload_n 1 dX3_nearest_28 rfl ?_
      refine lc_iald (8 + j) a (by omega) (lc_ePosw j (by omega)) (rfl) (by omega) (by decide) dX3_nearest_29 ?_
      refine lc_isub dX3_nearest_30 ?_
      refine lc_mabs rfl (by rw [hR.2.2.2.2]; exact ⟨Nat.le_of_ble_eq_true rfl, Nat.le_of_ble_eq_true rfl⟩) dX3_nearest_31 ?_
      refine lc_istore [(6, .int (sp_abs (((σ.2.1 (6 + j) i) - (σ.2.1 (6 + j) a))))), (0, .ref (G.1 (4 + j))), (1, .int (nI a)), (2, .int (m)), (3, .int (nI b)), (4, .int (d)), (5, .int (nI i))] dX3_nearest_34 (by decide) rfl ?_
      refine lc_iload_n 3 dX3_nearest_36 rfl ?_
      refine lc_iload 6 dX3_nearest_37 rfl ?_
      refine lc_ishr dX3_nearest_39 ?_
      refine lc_iconst (v := 1) dX3_nearest_40 (by decide) ?_
      refine lc_iand dX3_nearest_41 ?_
      refine lc_iconst (v := 1) dX3_nearest_42 (by decide) ?_
      refine lc_icmp_ne 50 dX3_nearest_43 (by decide) (fun c_7 => ?_) (fun c_7 => ?_)
      · skip
        refine lc_iconst (v := 0) dX3_nearest_50 (by decide) ?_
        refine lc_istore [(7, .int (0)), (6, .int (sp_abs (((σ.2.1 (6 + j) i) - (σ.2.1 (6 + j) a))))), (0, .ref (G.1 (4 + j))), (1, .int (nI a)), (2, .int (m)), (3, .int (nI b)), (4, .int (d)), (5, .int (nI i))] dX3_nearest_51 (by decide) rfl ?_
        refine lc_iload 0 dX3_nearest_53 rfl ?_
        refine lc_if_eq 77 dX3_nearest_55 (by decide) (fun _ => ?_) (fun h => absurd h (by decide))
        refine lc_iinc 7 (nI (i + 1)) [(5, .int (nI (i + 1))), (7, .int (0)), (6, .int (sp_abs (((σ.2.1 (6 + j) i) - (σ.2.1 (6 + j) a))))), (0, .ref (G.1 (4 + j))), (1, .int (nI a)), (2, .int (m)), (3, .int (nI b)), (4, .int (d))] dX3_nearest_77 rfl (lc_inc1 i) (by decide) rfl ?_
        refine lc_goto 8 dX3_nearest_80 (by decide) ?_
        refine lc_lv (lv' := [(0, .ref (G.1 (4 + j))), (1, .int (nI a)), (2, .int (m)), (3, .int (nI b)), (4, .int (d)), (5, .int (nI (i + 1)))]) [3, 4, 5, 6, 7, 0] rfl ?_
        rw [show sp_near (σ.2.1 (6 + j)) a m i (some b, d) = (some b, d) from by simp [sp_near, sp_bit, c_7]] at ki
        exact ki
      · skip
        refine lc_iconst (v := 1) dX3_nearest_46 (by decide) ?_
        refine lc_goto 51 dX3_nearest_47 (by decide) ?_
        refine lc_istore [(7, .int (1)), (6, .int (sp_abs (((σ.2.1 (6 + j) i) - (σ.2.1 (6 + j) a))))), (0, .ref (G.1 (4 + j))), (1, .int (nI a)), (2, .int (m)), (3, .int (nI b)), (4, .int (d)), (5, .int (nI i))] dX3_nearest_51 (by decide) rfl ?_
        refine lc_iload 0 dX3_nearest_53 rfl ?_
        refine lc_if_eq 77 dX3_nearest_55 (by decide) (fun h => absurd h (by decide)) (fun _ => ?_)
        refine lc_iload_n 5 dX3_nearest_58 rfl ?_
        refine lc_iconst (v := (-1)) dX3_nearest_59 (by decide) ?_
        refine lc_icmp_eq 70 dX3_nearest_60 (by decide) (fun h => (lc_nm1b hbb h).elim) (fun _ => ?_)
        refine lc_iload 1 dX3_nearest_63 rfl ?_
        refine lc_iload 6 dX3_nearest_65 rfl ?_
        refine lc_icmp_ge 77 dX3_nearest_67 (by decide) (fun c_11 => ?_) (fun c_11 => ?_)
        · skip
          refine lc_iinc 7 (nI (i + 1)) [(5, .int (nI (i + 1))), (7, .int (1)), (6, .int (sp_abs (((σ.2.1 (6 + j) i) - (σ.2.1 (6 + j) a))))), (0, .ref (G.1 (4 + j))), (1, .int (nI a)), (2, .int (m)), (3, .int (nI b)), (4, .int (d))] dX3_nearest_77 rfl (lc_inc1 i) (by decide) rfl ?_
          refine lc_goto 8 dX3_nearest_80 (by decide) ?_
          refine lc_lv (lv' := [(0, .ref (G.1 (4 + j))), (1, .int (nI a)), (2, .int (m)), (3, .int (nI b)), (4, .int (d)), (5, .int (nI (i + 1)))]) [3, 4, 5, 6, 7, 0] rfl ?_
          rw [show sp_near (σ.2.1 (6 + j)) a m i (some b, d) = (some b, d) from by simp [sp_near, sp_bit, c_7, c_11]] at ki
          exact ki
        · skip
          refine lc_iload 7 dX3_nearest_70 rfl ?_
          refine lc_istore_n [(3, .int (nI i)), (7, .int (1)), (6, .int (sp_abs (((σ.2.1 (6 + j) i) - (σ.2.1 (6 + j) a))))), (0, .ref (G.1 (4 + j))), (1, .int (nI a)), (2, .int (m)), (4, .int (d)), (5, .int (nI i))] dX3_nearest_72 (by decide) rfl ?_
          refine lc_iload 2 dX3_nearest_73 rfl ?_
          refine lc_istore [(4, .int (sp_abs (((σ.2.1 (6 + j) i) - (σ.2.1 (6 + j) a))))), (3, .int (nI i)), (7, .int (1)), (6, .int (sp_abs (((σ.2.1 (6 + j) i) - (σ.2.1 (6 + j) a))))), (0, .ref (G.1 (4 + j))), (1, .int (nI a)), (2, .int (m)), (5, .int (nI i))] dX3_nearest_75 (by decide) rfl ?_
          refine lc_iinc 7 (nI (i + 1)) [(5, .int (nI (i + 1))), (4, .int (sp_abs (((σ.2.1 (6 + j) i) - (σ.2.1 (6 + j) a))))), (3, .int (nI i)), (7, .int (1)), (6, .int (sp_abs (((σ.2.1 (6 + j) i) - (σ.2.1 (6 + j) a))))), (0, .ref (G.1 (4 + j))), (1, .int (nI a)), (2, .int (m))] dX3_nearest_77 rfl (lc_inc1 i) (by decide) rfl ?_
          refine lc_goto 8 dX3_nearest_80 (by decide) ?_
          refine lc_lv (lv' := [(0, .ref (G.1 (4 + j))), (1, .int (nI a)), (2, .int (m)), (3, .int (nI i)), (4, .int (sp_abs (((σ.2.1 (6 + j) i) - (σ.2.1 (6 + j) a))))), (5, .int (nI (i + 1)))]) [5, 6, 7, 2, 1, 0] rfl ?_
          rw [show sp_near (σ.2.1 (6 + j)) a m i (some b, d) = (some i, sp_abs (((σ.2.1 (6 + j) i) - (σ.2.1 (6 + j) a)))) from by simp [sp_near, sp_bit, c_7, c_11]] at ki
          exact ki
  · skip
    show lc_V G Γ _ _ _ 8 [(0, .ref (G.1 (4 + j))), (1, .int (nI a)), (2, .int (m)), (3, .int (sp_on (sp_nears (σ.2.1 (6 + j)) a m n).1)), (4, .int (sp_nears (σ.2.1 (6 + j)) a m n).2), (5, .int (nI n))] [] (lc_w σ j x)
    refine lc_iload 5 dX3_nearest_8 rfl ?_
    refine lc_aload_n 0 dX3_nearest_10 rfl ?_
    refine lc_gWSites j (by omega) fl_X3_34 dX3_nearest_11 ?_
    refine lc_icmp_ge 83 dX3_nearest_14 (by decide) (fun _ => ?_) (fun h => absurd h.1 (by rw [hs]; exact nI_nlt (a := n) (b := n) (Nat.le_refl _) (by omega)))
    refine lc_iload_n 3 dX3_nearest_83 rfl ?_
    exact lc_iret hR dX3_nearest_84 (rfl) (rfl)

set_option maxRecDepth 100000 in
set_option maxHeartbeats 4000000 in
theorem c_X3_keepersOf (l : Launch) (G : lc_G) (σ : lc_S) (j : Nat) (x : lc_X) (n a m : Nat) (hj : j < 2) (hn : n ≤ 6) (ha : a < 6) (hm : 1 ≤ m) (hm3 : m ≤ 3) (hs : x.1 7 0 = nI n) : lc_M l G yX3_keepersOf cX3_keepersOf 7 (some .int) { frames := 2, cells := 0, slots := 0, locals := 40 } [.ref (G.1 (4 + j)), .int (nI a), .int (nI m)] (lc_w σ j x) (some (.int (sp_keepC (σ.2.1 (6 + j)) a n m (sp_oth (nI a) (x.1 7 0))))) (lc_w σ j x) := by
  refine lc_entry [(0, .ref (G.1 (4 + j))), (1, .int (nI a)), (2, .int (nI m))] (by decide) (Nat.le_of_ble_eq_true rfl) rfl rfl rfl ?_
  intro Γ hR
  refine lc_iconst (v := 1) dX3_keepersOf_0 (by decide) ?_
  refine lc_iload_n 1 dX3_keepersOf_1 rfl ?_
  refine lc_ishl dX3_keepersOf_2 ?_
  refine lc_istore_n [(3, .int (((1 : Int32) <<< ((nI a) &&& 31)))), (0, .ref (G.1 (4 + j))), (1, .int (nI a)), (2, .int (nI m))] dX3_keepersOf_3 (by decide) rfl ?_
  refine lc_aload_n 1 dX3_keepersOf_4 rfl ?_
  refine lc_iload_n 2 dX3_keepersOf_5 rfl ?_
  refine lc_callV (4 + j) (c_X3_othersOf l G σ j x (nI a) (by omega)) hR.2.2.2.1 hR.2.2.2.2 mt_X3_othersOf (by omega) (lc_eW j (by omega)) rfl ml_X3_111 rfl rfl (Nat.le_of_ble_eq_true rfl) ⟨⟨rfl, rfl⟩, Nat.le_of_ble_eq_true rfl, Nat.le_of_ble_eq_true rfl⟩ dX3_keepersOf_6 ?_
  show lc_V _ _ _ _ _ 9 _ [.int (sp_oth (nI a) (x.1 7 0))] (lc_w σ j x)
  refine lc_istore [(4, .int (sp_oth (nI a) (x.1 7 0))), (3, .int (((1 : Int32) <<< ((nI a) &&& 31)))), (0, .ref (G.1 (4 + j))), (1, .int (nI a)), (2, .int (nI m))] dX3_keepersOf_9 (by decide) rfl ?_
  refine lc_iconst (v := 1) dX3_keepersOf_11 (by decide) ?_
  refine lc_istore [(5, .int (1)), (4, .int (sp_oth (nI a) (x.1 7 0))), (3, .int (((1 : Int32) <<< ((nI a) &&& 31)))), (0, .ref (G.1 (4 + j))), (1, .int (nI a)), (2, .int (nI m))] dX3_keepersOf_12 (by decide) rfl ?_
  refine lc_lv (lv' := [(0, .ref (G.1 (4 + j))), (1, .int (nI a)), (2, .int (nI m)), (3, .int (((1 : Int32) <<< ((nI a) &&& 31)))), (4, .int (sp_oth (nI a) (x.1 7 0))), (5, .int (1))]) [3, 4, 5, 2, 1, 0] rfl ?_
  refine lc_forS (α := Int32 × Int32) (fun i z => lc_V G Γ cX3_keepersOf 7 RX3 14 [(0, .ref (G.1 (4 + j))), (1, .int (nI a)), (2, .int (nI m)), (3, .int (z.1)), (4, .int (z.2)), (5, .int (nI (i + 1)))] [] (lc_w σ j x)) (fun z => lc_V G Γ cX3_keepersOf 7 RX3 56 [(3, .int (z.1)), (4, .int (z.2))] [] (lc_w σ j x)) (fun _ => sp_kp (σ.2.1 (6 + j)) a n) (m - 1) (fun _ z => decide (z.2 = 0)) (fun i z _ h => ⟨by simp only [sp_kp, if_pos (of_decide_eq_true h)], h⟩) (fun i z hi ki ei => ?_) (fun z ei => ?_) (((1 : Int32) <<< (nI a &&& 31), sp_oth (nI a) (x.1 7 0))) ?_
  · skip
    show lc_V G Γ cX3_keepersOf 7 RX3 14 [(0, .ref (G.1 (4 + j))), (1, .int (nI a)), (2, .int (nI m)), (3, .int (z.1)), (4, .int (z.2)), (5, .int (nI (i + 1)))] [] (lc_w σ j x)
    refine lc_iload 5 dX3_keepersOf_14 rfl ?_
    refine lc_iload_n 2 dX3_keepersOf_16 rfl ?_
    refine lc_icmp_ge 56 dX3_keepersOf_17 (by decide) (fun h => absurd h.1 (by exact nI_ge (b := m) (show i + 1 < m by omega) (by omega))) (fun _ => ?_)
    refine lc_iload 4 dX3_keepersOf_20 rfl ?_
    refine lc_if_eq 56 dX3_keepersOf_22 (by decide) (fun c_2 => ?_) (fun c_2 => ?_)
    · skip
      refine lc_lv (lv' := [(3, .int (z.1)), (4, .int (z.2))]) [3, 4] rfl ?_
      exact ei (decide_eq_true c_2)
    · skip
      refine lc_iconst (v := 1) dX3_keepersOf_25 (by decide) ?_
      refine lc_aload_n 0 dX3_keepersOf_26 rfl ?_
      refine lc_iload_n 1 dX3_keepersOf_27 rfl ?_
      refine lc_iload 4 dX3_keepersOf_28 rfl ?_
      refine lc_callV (4 + j) (c_X3_nearest l G σ j x n a z.2 (by omega) (by omega) (by omega) (hs)) hR.2.2.2.1 hR.2.2.2.2 mt_X3_nearest (by omega) (lc_eW j (by omega)) rfl ml_X3_114 rfl rfl (Nat.le_of_ble_eq_true rfl) ⟨⟨rfl, rfl⟩, Nat.le_of_ble_eq_true rfl, Nat.le_of_ble_eq_true rfl⟩ dX3_keepersOf_30 ?_
      show lc_V _ _ _ _ _ 33 _ [.int (sp_on (sp_nears (σ.2.1 (6 + j)) a z.2 n).1), .int (1)] (lc_w σ j x)
      refine lc_ishl dX3_keepersOf_33 ?_
      refine lc_istore [(6, .int (((1 : Int32) <<< ((sp_on (sp_nears (σ.2.1 (6 + j)) a z.2 n).1) &&& 31)))), (0, .ref (G.1 (4 + j))), (1, .int (nI a)), (2, .int (nI m)), (3, .int (z.1)), (4, .int (z.2)), (5, .int (nI (i + 1)))] dX3_keepersOf_34 (by decide) rfl ?_
      refine lc_iload_n 4 dX3_keepersOf_36 rfl ?_
      refine lc_iload 0 dX3_keepersOf_37 rfl ?_
      refine lc_ior dX3_keepersOf_39 ?_
      refine lc_istore_n [(3, .int ((z.1 ||| (((1 : Int32) <<< ((sp_on (sp_nears (σ.2.1 (6 + j)) a z.2 n).1) &&& 31)))))), (6, .int (((1 : Int32) <<< ((sp_on (sp_nears (σ.2.1 (6 + j)) a z.2 n).1) &&& 31)))), (0, .ref (G.1 (4 + j))), (1, .int (nI a)), (2, .int (nI m)), (4, .int (z.2)), (5, .int (nI (i + 1)))] dX3_keepersOf_40 (by decide) rfl ?_
      refine lc_iload 5 dX3_keepersOf_41 rfl ?_
      refine lc_iload 1 dX3_keepersOf_43 rfl ?_
      refine lc_iconst (v := (-1)) dX3_keepersOf_45 (by decide) ?_
      refine lc_ixor dX3_keepersOf_46 ?_
      refine lc_iand dX3_keepersOf_47 ?_
      refine lc_istore [(4, .int ((z.2 &&& (((((1 : Int32) <<< ((sp_on (sp_nears (σ.2.1 (6 + j)) a z.2 n).1) &&& 31))) ^^^ ((-1))))))), (3, .int ((z.1 ||| (((1 : Int32) <<< ((sp_on (sp_nears (σ.2.1 (6 + j)) a z.2 n).1) &&& 31)))))), (6, .int (((1 : Int32) <<< ((sp_on (sp_nears (σ.2.1 (6 + j)) a z.2 n).1) &&& 31)))), (0, .ref (G.1 (4 + j))), (1, .int (nI a)), (2, .int (nI m)), (5, .int (nI (i + 1)))] dX3_keepersOf_48 (by decide) rfl ?_
      refine lc_iinc 6 (nI (i + 1 + 1)) [(5, .int (nI (i + 1 + 1))), (4, .int ((z.2 &&& (((((1 : Int32) <<< ((sp_on (sp_nears (σ.2.1 (6 + j)) a z.2 n).1) &&& 31))) ^^^ ((-1))))))), (3, .int ((z.1 ||| (((1 : Int32) <<< ((sp_on (sp_nears (σ.2.1 (6 + j)) a z.2 n).1) &&& 31)))))), (6, .int (((1 : Int32) <<< ((sp_on (sp_nears (σ.2.1 (6 + j)) a z.2 n).1) &&& 31)))), (0, .ref (G.1 (4 + j))), (1, .int (nI a)), (2, .int (nI m))] dX3_keepersOf_50 rfl (lc_inc1 (i + 1)) (by decide) rfl ?_
      refine lc_goto 14 dX3_keepersOf_53 (by decide) ?_
      refine lc_lv (lv' := [(0, .ref (G.1 (4 + j))), (1, .int (nI a)), (2, .int (nI m)), (3, .int ((z.1 ||| (((1 : Int32) <<< ((sp_on (sp_nears (σ.2.1 (6 + j)) a z.2 n).1) &&& 31)))))), (4, .int ((z.2 &&& (((((1 : Int32) <<< ((sp_on (sp_nears (σ.2.1 (6 + j)) a z.2 n).1) &&& 31))) ^^^ ((-1))))))), (5, .int (nI (i + 1 + 1)))]) [4, 5, 6, 2, 1, 0] rfl ?_
      have ki := ki (decide_eq_false c_2.1)
      rw [show sp_kp (σ.2.1 (6 + j)) a n z = ((z.1 ||| (((1 : Int32) <<< ((sp_on (sp_nears (σ.2.1 (6 + j)) a z.2 n).1) &&& 31)))), (z.2 &&& (((((1 : Int32) <<< ((sp_on (sp_nears (σ.2.1 (6 + j)) a z.2 n).1) &&& 31))) ^^^ ((-1)))))) from by simp only [sp_kp, if_neg c_2.1]] at ki
      exact ki
  · skip
    show lc_V G Γ cX3_keepersOf 7 RX3 14 [(0, .ref (G.1 (4 + j))), (1, .int (nI a)), (2, .int (nI m)), (3, .int (z.1)), (4, .int (z.2)), (5, .int (nI (m - 1 + 1)))] [] (lc_w σ j x)
    refine lc_iload 5 dX3_keepersOf_14 rfl ?_
    refine lc_iload_n 2 dX3_keepersOf_16 rfl ?_
    refine lc_icmp_ge 56 dX3_keepersOf_17 (by decide) (fun _ => ?_) (fun h => absurd h.1 (by rw [show m - 1 + 1 = m by omega]; exact nI_nlt (a := m) (b := m) (Nat.le_refl _) (by omega)))
    refine lc_lv (lv' := [(3, .int (z.1)), (4, .int (z.2))]) [3, 4] rfl ?_
    exact ei
  · skip
    show lc_V G Γ _ _ _ 56 [(3, .int (((sp_it (fun _ => sp_kp (σ.2.1 (6 + j)) a n) (m - 1) ((1 : Int32) <<< (nI a &&& 31), sp_oth (nI a) (x.1 7 0)))).1)), (4, .int (((sp_it (fun _ => sp_kp (σ.2.1 (6 + j)) a n) (m - 1) ((1 : Int32) <<< (nI a &&& 31), sp_oth (nI a) (x.1 7 0)))).2))] [] (lc_w σ j x)
    refine lc_iload_n 0 dX3_keepersOf_56 rfl ?_
    exact lc_iret hR dX3_keepersOf_57 (rfl) (rfl)

set_option maxRecDepth 100000 in
set_option maxHeartbeats 4000000 in
theorem c_X3_partnerBy (l : Launch) (G : lc_G) (σ : lc_S) (j : Nat) (x : lc_X) (n a : Nat) (seed : Int32) (hj : j < 2) (hn : n ≤ 6) (ha : a < 6) (hs : x.1 7 0 = nI n) : lc_M l G yX3_partnerBy cX3_partnerBy 9 (some .int) { frames := 2, cells := 0, slots := 0, locals := 42 } [.ref (G.1 (4 + j)), .int (nI a), .int (seed)] (lc_w σ j x) (some (.int (sp_partC x.1 (σ.2.1 (6 + j)) a n seed))) (lc_w σ j x) := by
  refine lc_entry [(0, .ref (G.1 (4 + j))), (1, .int (nI a)), (2, .int (seed))] (by decide) (Nat.le_of_ble_eq_true rfl) rfl rfl rfl ?_
  intro Γ hR
  refine lc_aload_n 0 dX3_partnerBy_0 rfl ?_
  refine lc_iload_n 1 dX3_partnerBy_1 rfl ?_
  refine lc_callV (4 + j) (c_X3_othersOn l G σ j x (nI a) (by omega)) hR.2.2.2.1 hR.2.2.2.2 mt_X3_othersOn (by omega) (lc_eW j (by omega)) rfl ml_X3_167 rfl rfl (Nat.le_of_ble_eq_true rfl) ⟨⟨rfl, rfl⟩, Nat.le_of_ble_eq_true rfl, Nat.le_of_ble_eq_true rfl⟩ dX3_partnerBy_2 ?_
  show lc_V _ _ _ _ _ 5 _ [.int (sp_othOn x.1 (nI a))] (lc_w σ j x)
  refine lc_istore_n [(3, .int (sp_othOn x.1 (nI a))), (0, .ref (G.1 (4 + j))), (1, .int (nI a)), (2, .int (seed))] dX3_partnerBy_5 (by decide) rfl ?_
  refine lc_iload_n 0 dX3_partnerBy_6 rfl ?_
  refine lc_callS (c_J6_bitCount_0f7a4 l G (lc_w σ j x) (sp_othOn x.1 (nI a))) hR.2.2.2.1 hR.2.2.2.2 mt_J6_bitCount_0f7a4 ml_X3_170 rfl rfl (Nat.le_of_ble_eq_true rfl) ⟨⟨rfl, rfl⟩, Nat.le_of_ble_eq_true rfl, Nat.le_of_ble_eq_true rfl⟩ dX3_partnerBy_7 ?_
  show lc_V _ _ _ _ _ 10 _ [.int (sp_bc (sp_othOn x.1 (nI a)))] (lc_w σ j x)
  refine lc_callS (c_X3_weightOf l G (lc_w σ j x) (sp_bc (sp_othOn x.1 (nI a)))) hR.2.2.2.1 hR.2.2.2.2 mt_X3_weightOf ml_X3_175 rfl rfl (Nat.le_of_ble_eq_true rfl) ⟨⟨rfl, rfl⟩, Nat.le_of_ble_eq_true rfl, Nat.le_of_ble_eq_true rfl⟩ dX3_partnerBy_10 ?_
  show lc_V _ _ _ _ _ 13 _ [.int (sp_wt (sp_bc (sp_othOn x.1 (nI a))))] (lc_w σ j x)
  refine lc_istore [(4, .int (sp_wt (sp_bc (sp_othOn x.1 (nI a))))), (3, .int (sp_othOn x.1 (nI a))), (0, .ref (G.1 (4 + j))), (1, .int (nI a)), (2, .int (seed))] dX3_partnerBy_13 (by decide) rfl ?_
  refine lc_iload 0 dX3_partnerBy_15 rfl ?_
  refine lc_if_gt 22 dX3_partnerBy_17 (by decide) (fun c_1 => ?_) (fun c_1 => ?_)
  · skip
    refine lc_iload_n 4 dX3_partnerBy_22 rfl ?_
    refine lc_ldc kc_X3_178 dX3_partnerBy_23 ?_
    refine lc_idiv dX3_partnerBy_25 (by decide) ?_
    refine lc_iload 0 dX3_partnerBy_26 rfl ?_
    refine lc_irem dX3_partnerBy_28 (fun e0 => c_1.2 (by rw [e0]; decide)) ?_
    refine lc_topi ((sp_rem (seed / 65536) (sp_wt (sp_bc (sp_othOn x.1 (nI a)))))) rfl ?_
    refine lc_istore [(5, .int ((sp_rem (seed / 65536) (sp_wt (sp_bc (sp_othOn x.1 (nI a))))))), (4, .int (sp_wt (sp_bc (sp_othOn x.1 (nI a))))), (3, .int (sp_othOn x.1 (nI a))), (0, .ref (G.1 (4 + j))), (1, .int (nI a)), (2, .int (seed))] dX3_partnerBy_29 (by decide) rfl ?_
    have hres : sp_partC x.1 (σ.2.1 (6 + j)) a n seed = sp_pbr (σ.2.1 (6 + j)) a n (sp_rem (seed / 65536) (sp_wt (sp_bc (sp_othOn x.1 (nI a))))) 5 0 (sp_othOn x.1 (nI a)) 0 := by simp [sp_partC, c_1]
    rw [hres] at hR
    refine lc_iconst (v := 0) dX3_partnerBy_31 (by decide) ?_
    refine lc_istore [(6, .int (0)), (5, .int ((sp_rem (seed / 65536) (sp_wt (sp_bc (sp_othOn x.1 (nI a))))))), (4, .int (sp_wt (sp_bc (sp_othOn x.1 (nI a))))), (3, .int (sp_othOn x.1 (nI a))), (0, .ref (G.1 (4 + j))), (1, .int (nI a)), (2, .int (seed))] dX3_partnerBy_32 (by decide) rfl ?_
    refine lc_iconst (v := 0) dX3_partnerBy_34 (by decide) ?_
    refine lc_istore [(7, .int (0)), (6, .int (0)), (5, .int ((sp_rem (seed / 65536) (sp_wt (sp_bc (sp_othOn x.1 (nI a))))))), (4, .int (sp_wt (sp_bc (sp_othOn x.1 (nI a))))), (3, .int (sp_othOn x.1 (nI a))), (0, .ref (G.1 (4 + j))), (1, .int (nI a)), (2, .int (seed))] dX3_partnerBy_35 (by decide) rfl ?_
    refine lc_lv (lv' := [(0, .ref (G.1 (4 + j))), (1, .int (nI a)), (2, .int (seed)), (3, .int (sp_othOn x.1 (nI a))), (4, .int (sp_wt (sp_bc (sp_othOn x.1 (nI a))))), (5, .int ((sp_rem (seed / 65536) (sp_wt (sp_bc (sp_othOn x.1 (nI a))))))), (6, .int (0)), (7, .int (0))]) [5, 6, 7, 4, 3, 2, 1, 0] rfl ?_
    have KL : ∀ (f rk : Nat) (o t : Int32), rk + f = 5 → sp_pbr (σ.2.1 (6 + j)) a n (sp_rem (seed / 65536) (sp_wt (sp_bc (sp_othOn x.1 (nI a))))) f rk o t = sp_pbr (σ.2.1 (6 + j)) a n (sp_rem (seed / 65536) (sp_wt (sp_bc (sp_othOn x.1 (nI a))))) 5 0 (sp_othOn x.1 (nI a)) 0 → lc_V G Γ cX3_partnerBy 9 RX3 37 [(0, .ref (G.1 (4 + j))), (1, .int (nI a)), (2, .int (seed)), (3, .int (o)), (4, .int (sp_wt (sp_bc (sp_othOn x.1 (nI a))))), (5, .int ((sp_rem (seed / 65536) (sp_wt (sp_bc (sp_othOn x.1 (nI a))))))), (6, .int (t)), (7, .int (nI rk))] [] (lc_w σ j x) := by
      intro f
      induction f with
      | zero =>
        intro rk o t hf hr 
        have hrk : rk = 5 := by omega
        refine lc_iload 7 dX3_partnerBy_37 rfl ?_
        refine lc_gsWEI fl_X3_179 dX3_partnerBy_39 ?_
        refine lc_slWEI dX3_partnerBy_42 ?_
        refine lc_icmp_ge 94 dX3_partnerBy_43 (by decide) (fun _ => ?_) (fun h => absurd h.1 (by rw [hrk]; exact nI_nlt (a := 5) (b := 5) (Nat.le_refl _) (by omega)))
        refine lc_iconst (v := (-1)) dX3_partnerBy_94 (by decide) ?_
        exact lc_iret hR dX3_partnerBy_95 (by rw [← hr]; simp [sp_pbr, ]) (rfl)
      | succ f ih =>
        intro rk o t hf hr 
        have hrk : rk < 5 := by omega
        refine lc_iload 7 dX3_partnerBy_37 rfl ?_
        refine lc_gsWEI fl_X3_179 dX3_partnerBy_39 ?_
        refine lc_slWEI dX3_partnerBy_42 ?_
        refine lc_icmp_ge 94 dX3_partnerBy_43 (by decide) (fun h => absurd h.1 (by exact nI_ge (b := 5) hrk (by omega))) (fun _ => ?_)
        refine lc_iload_n 3 dX3_partnerBy_46 rfl ?_
        refine lc_if_eq 94 dX3_partnerBy_47 (by decide) (fun c_4 => ?_) (fun c_4 => ?_)
        · skip
          refine lc_iconst (v := (-1)) dX3_partnerBy_94 (by decide) ?_
          exact lc_iret hR dX3_partnerBy_95 (by rw [← hr]; simp [sp_pbr, c_4]) (rfl)
        · skip
          refine lc_aload_n 0 dX3_partnerBy_50 rfl ?_
          refine lc_iload_n 1 dX3_partnerBy_51 rfl ?_
          refine lc_iload_n 3 dX3_partnerBy_52 rfl ?_
          refine lc_callV (4 + j) (c_X3_nearest l G σ j x n a o (by omega) (by omega) (by omega) (hs)) hR.2.2.2.1 hR.2.2.2.2 mt_X3_nearest (by omega) (lc_eW j (by omega)) rfl ml_X3_114 rfl rfl (Nat.le_of_ble_eq_true rfl) ⟨⟨rfl, rfl⟩, Nat.le_of_ble_eq_true rfl, Nat.le_of_ble_eq_true rfl⟩ dX3_partnerBy_53 ?_
          show lc_V _ _ _ _ _ 56 _ [.int (sp_on (sp_nears (σ.2.1 (6 + j)) a o n).1)] (lc_w σ j x)
          refine lc_istore [(8, .int (sp_on (sp_nears (σ.2.1 (6 + j)) a o n).1)), (0, .ref (G.1 (4 + j))), (1, .int (nI a)), (2, .int (seed)), (3, .int (o)), (4, .int (sp_wt (sp_bc (sp_othOn x.1 (nI a))))), (5, .int ((sp_rem (seed / 65536) (sp_wt (sp_bc (sp_othOn x.1 (nI a))))))), (6, .int (t)), (7, .int (nI rk))] dX3_partnerBy_56 (by decide) rfl ?_
          refine lc_iload 7 dX3_partnerBy_58 rfl ?_
          refine lc_gsWEI fl_X3_179 dX3_partnerBy_60 ?_
          refine lc_iload 8 dX3_partnerBy_63 rfl ?_
          refine lc_saWEI rk (rfl) (by omega) dX3_partnerBy_65 ?_
          refine lc_iadd dX3_partnerBy_66 ?_
          refine lc_istore [(6, .int ((t + (lc_wei rk)))), (8, .int (sp_on (sp_nears (σ.2.1 (6 + j)) a o n).1)), (0, .ref (G.1 (4 + j))), (1, .int (nI a)), (2, .int (seed)), (3, .int (o)), (4, .int (sp_wt (sp_bc (sp_othOn x.1 (nI a))))), (5, .int ((sp_rem (seed / 65536) (sp_wt (sp_bc (sp_othOn x.1 (nI a))))))), (7, .int (nI rk))] dX3_partnerBy_67 (by decide) rfl ?_
          refine lc_iload 0 dX3_partnerBy_69 rfl ?_
          refine lc_iload 7 dX3_partnerBy_71 rfl ?_
          refine lc_icmp_le 79 dX3_partnerBy_73 (by decide) (fun c_5 => ?_) (fun c_5 => ?_)
          · skip
            refine lc_iload_n 5 dX3_partnerBy_79 rfl ?_
            refine lc_iconst (v := 1) dX3_partnerBy_80 (by decide) ?_
            refine lc_iload 1 dX3_partnerBy_81 rfl ?_
            refine lc_ishl dX3_partnerBy_83 ?_
            refine lc_iconst (v := (-1)) dX3_partnerBy_84 (by decide) ?_
            refine lc_ixor dX3_partnerBy_85 ?_
            refine lc_iand dX3_partnerBy_86 ?_
            refine lc_istore_n [(3, .int ((o &&& (((((1 : Int32) <<< ((sp_on (sp_nears (σ.2.1 (6 + j)) a o n).1) &&& 31))) ^^^ ((-1))))))), (6, .int ((t + (lc_wei rk)))), (8, .int (sp_on (sp_nears (σ.2.1 (6 + j)) a o n).1)), (0, .ref (G.1 (4 + j))), (1, .int (nI a)), (2, .int (seed)), (4, .int (sp_wt (sp_bc (sp_othOn x.1 (nI a))))), (5, .int ((sp_rem (seed / 65536) (sp_wt (sp_bc (sp_othOn x.1 (nI a))))))), (7, .int (nI rk))] dX3_partnerBy_87 (by decide) rfl ?_
            refine lc_iinc 8 (nI (rk + 1)) [(7, .int (nI (rk + 1))), (3, .int ((o &&& (((((1 : Int32) <<< ((sp_on (sp_nears (σ.2.1 (6 + j)) a o n).1) &&& 31))) ^^^ ((-1))))))), (6, .int ((t + (lc_wei rk)))), (8, .int (sp_on (sp_nears (σ.2.1 (6 + j)) a o n).1)), (0, .ref (G.1 (4 + j))), (1, .int (nI a)), (2, .int (seed)), (4, .int (sp_wt (sp_bc (sp_othOn x.1 (nI a))))), (5, .int ((sp_rem (seed / 65536) (sp_wt (sp_bc (sp_othOn x.1 (nI a)))))))] dX3_partnerBy_88 rfl (lc_inc1 rk) (by decide) rfl ?_
            refine lc_goto 37 dX3_partnerBy_91 (by decide) ?_
            refine lc_lv (lv' := [(0, .ref (G.1 (4 + j))), (1, .int (nI a)), (2, .int (seed)), (3, .int ((o &&& (((((1 : Int32) <<< ((sp_on (sp_nears (σ.2.1 (6 + j)) a o n).1) &&& 31))) ^^^ ((-1))))))), (4, .int (sp_wt (sp_bc (sp_othOn x.1 (nI a))))), (5, .int ((sp_rem (seed / 65536) (sp_wt (sp_bc (sp_othOn x.1 (nI a))))))), (6, .int ((t + (lc_wei rk)))), (7, .int (nI (rk + 1)))]) [4, 5, 6, 1, 7, 8, 2, 0] rfl ?_
            exact ih (rk + 1) ((o &&& (((((1 : Int32) <<< ((sp_on (sp_nears (σ.2.1 (6 + j)) a o n).1) &&& 31))) ^^^ ((-1)))))) ((t + (lc_wei rk))) (by omega) (by rw [← hr]; simp [sp_pbr, c_4, c_5]) 
          · skip
            refine lc_iload 1 dX3_partnerBy_76 rfl ?_
            exact lc_iret hR dX3_partnerBy_78 (by rw [← hr]; simp [sp_pbr, c_4, c_5]) (rfl)
    exact KL 5 0 ((sp_othOn x.1 (nI a))) 0 (by omega) rfl 
  · skip
    refine lc_iconst (v := (-1)) dX3_partnerBy_20 (by decide) ?_
    exact lc_iret hR dX3_partnerBy_21 (by simp [sp_partC, c_1]) (rfl)

set_option maxRecDepth 100000 in
set_option maxHeartbeats 4000000 in
theorem c_X3_allOnAlike (l : Launch) (G : lc_G) (σ : lc_S) (j : Nat) (x : lc_X) (n : Nat) (hj : j < 2) (hn : n ≤ 6) (hs : x.1 7 0 = nI n) : lc_M l G yX3_allOnAlike cX3_allOnAlike 3 (some .boolean) { frames := 3, cells := 0, slots := 0, locals := 66 } [.ref (G.1 (4 + j))] (lc_w σ j x) (some (.int (lc_bi (sp_aaC x.1 n)))) (lc_w σ j x) := by
  refine lc_entry [(0, .ref (G.1 (4 + j)))] (by decide) (Nat.le_of_ble_eq_true rfl) rfl rfl rfl ?_
  intro Γ hR
  refine lc_iconst (v := (-1)) dX3_allOnAlike_0 (by decide) ?_
  refine lc_istore_n [(1, .int ((-1))), (0, .ref (G.1 (4 + j)))] dX3_allOnAlike_1 (by decide) rfl ?_
  refine lc_iconst (v := 0) dX3_allOnAlike_2 (by decide) ?_
  refine lc_istore_n [(2, .int (0)), (1, .int ((-1))), (0, .ref (G.1 (4 + j)))] dX3_allOnAlike_3 (by decide) rfl ?_
  refine lc_lv (lv' := [(0, .ref (G.1 (4 + j))), (1, .int ((-1))), (2, .int (0))]) [2, 1, 0] rfl ?_
  refine lc_forE (α := Option Nat) (fun i z => lc_V G Γ cX3_allOnAlike 3 RX3 4 [(0, .ref (G.1 (4 + j))), (1, .int (sp_on z)), (2, .int (nI i))] [] (lc_w σ j x)) (sp_aag x.1) (sp_aaf x.1) n none (fun i z hi hzi ki => ?_) (fun z hzi => ?_)
  · skip
    have hlt := sp_aa_lt x.1 _ z hzi
    rcases z with _ | p
    · skip
      show lc_V G Γ cX3_allOnAlike 3 RX3 4 [(0, .ref (G.1 (4 + j))), (1, .int ((-1))), (2, .int (nI i))] [] (lc_w σ j x)
      refine lc_iload_n 2 dX3_allOnAlike_4 rfl ?_
      refine lc_aload_n 0 dX3_allOnAlike_5 rfl ?_
      refine lc_gWSites j (by omega) fl_X3_34 dX3_allOnAlike_6 ?_
      refine lc_icmp_ge 44 dX3_allOnAlike_9 (by decide) (fun h => absurd h.1 (by rw [hs]; exact nI_ge (b := n) hi (by omega))) (fun _ => ?_)
      refine lc_aload_n 0 dX3_allOnAlike_12 rfl ?_
      refine lc_iload_n 2 dX3_allOnAlike_13 rfl ?_
      refine lc_callV (4 + j) (c_X3_isOff l G σ j x (nI i) (by omega)) hR.2.2.2.1 hR.2.2.2.2 mt_X3_isOff (by omega) (lc_eW j (by omega)) rfl ml_X3_159 rfl rfl (Nat.le_of_ble_eq_true rfl) ⟨⟨rfl, rfl⟩, Nat.le_of_ble_eq_true rfl, Nat.le_of_ble_eq_true rfl⟩ dX3_allOnAlike_14 ?_
      show lc_V _ _ _ _ _ 17 _ [.int (lc_bi (sp_bit (x.1 7 2) (nI i)))] (lc_w σ j x)
      refine lc_ifb_ne 38 dX3_allOnAlike_17 (by decide) (fun c_2 => ?_) (fun c_2 => ?_)
      · skip
        refine lc_iinc 2 (nI (i + 1)) [(2, .int (nI (i + 1))), (0, .ref (G.1 (4 + j))), (1, .int ((-1)))] dX3_allOnAlike_38 rfl (lc_inc1 i) (by decide) rfl ?_
        refine lc_goto 4 dX3_allOnAlike_41 (by decide) ?_
        refine lc_lv (lv' := [(0, .ref (G.1 (4 + j))), (1, .int ((-1))), (2, .int (nI (i + 1)))]) [1, 2, 0] rfl ?_
        have ki := ki (by simp [sp_aag, c_2])
        rw [show sp_aaf x.1 i none = none from by simp [sp_aaf, c_2]] at ki
        exact ki
      · skip
        refine lc_iload_n 1 dX3_allOnAlike_20 rfl ?_
        refine lc_iconst (v := (-1)) dX3_allOnAlike_21 (by decide) ?_
        refine lc_icmp_eq 36 dX3_allOnAlike_22 (by decide) (fun _ => ?_) (fun h => absurd h (by decide))
        refine lc_iload_n 2 dX3_allOnAlike_36 rfl ?_
        refine lc_istore_n [(1, .int (nI i)), (0, .ref (G.1 (4 + j))), (2, .int (nI i))] dX3_allOnAlike_37 (by decide) rfl ?_
        refine lc_iinc 2 (nI (i + 1)) [(2, .int (nI (i + 1))), (1, .int (nI i)), (0, .ref (G.1 (4 + j)))] dX3_allOnAlike_38 rfl (lc_inc1 i) (by decide) rfl ?_
        refine lc_goto 4 dX3_allOnAlike_41 (by decide) ?_
        refine lc_lv (lv' := [(0, .ref (G.1 (4 + j))), (1, .int (nI i)), (2, .int (nI (i + 1)))]) [2, 1, 0] rfl ?_
        have ki := ki (by simp [sp_aag, c_2])
        rw [show sp_aaf x.1 i none = some i from by simp [sp_aaf, c_2]] at ki
        exact ki
    · skip
      have hp := hlt p rfl
      show lc_V G Γ cX3_allOnAlike 3 RX3 4 [(0, .ref (G.1 (4 + j))), (1, .int (nI p)), (2, .int (nI i))] [] (lc_w σ j x)
      refine lc_iload_n 2 dX3_allOnAlike_4 rfl ?_
      refine lc_aload_n 0 dX3_allOnAlike_5 rfl ?_
      refine lc_gWSites j (by omega) fl_X3_34 dX3_allOnAlike_6 ?_
      refine lc_icmp_ge 44 dX3_allOnAlike_9 (by decide) (fun h => absurd h.1 (by rw [hs]; exact nI_ge (b := n) hi (by omega))) (fun _ => ?_)
      refine lc_aload_n 0 dX3_allOnAlike_12 rfl ?_
      refine lc_iload_n 2 dX3_allOnAlike_13 rfl ?_
      refine lc_callV (4 + j) (c_X3_isOff l G σ j x (nI i) (by omega)) hR.2.2.2.1 hR.2.2.2.2 mt_X3_isOff (by omega) (lc_eW j (by omega)) rfl ml_X3_159 rfl rfl (Nat.le_of_ble_eq_true rfl) ⟨⟨rfl, rfl⟩, Nat.le_of_ble_eq_true rfl, Nat.le_of_ble_eq_true rfl⟩ dX3_allOnAlike_14 ?_
      show lc_V _ _ _ _ _ 17 _ [.int (lc_bi (sp_bit (x.1 7 2) (nI i)))] (lc_w σ j x)
      refine lc_ifb_ne 38 dX3_allOnAlike_17 (by decide) (fun c_5 => ?_) (fun c_5 => ?_)
      · skip
        refine lc_iinc 2 (nI (i + 1)) [(2, .int (nI (i + 1))), (0, .ref (G.1 (4 + j))), (1, .int (nI p))] dX3_allOnAlike_38 rfl (lc_inc1 i) (by decide) rfl ?_
        refine lc_goto 4 dX3_allOnAlike_41 (by decide) ?_
        refine lc_lv (lv' := [(0, .ref (G.1 (4 + j))), (1, .int (nI p)), (2, .int (nI (i + 1)))]) [1, 2, 0] rfl ?_
        have ki := ki (by simp [sp_aag, c_5])
        rw [show sp_aaf x.1 i (some p) = (some p) from by simp [sp_aaf, c_5]] at ki
        exact ki
      · skip
        refine lc_iload_n 1 dX3_allOnAlike_20 rfl ?_
        refine lc_iconst (v := (-1)) dX3_allOnAlike_21 (by decide) ?_
        refine lc_icmp_eq 36 dX3_allOnAlike_22 (by decide) (fun h => absurd h (lc_nm1 (by omega))) (fun _ => ?_)
        refine lc_aload_n 0 dX3_allOnAlike_25 rfl ?_
        refine lc_iload_n 1 dX3_allOnAlike_26 rfl ?_
        refine lc_iload_n 2 dX3_allOnAlike_27 rfl ?_
        refine lc_callV (4 + j) (c_X3_areAlike l G σ j x p i (by omega) (by omega) (by omega)) hR.2.2.2.1 hR.2.2.2.2 mt_X3_areAlike (by omega) (lc_eW j (by omega)) rfl ml_X3_124 rfl rfl (Nat.le_of_ble_eq_true rfl) ⟨⟨rfl, rfl⟩, Nat.le_of_ble_eq_true rfl, Nat.le_of_ble_eq_true rfl⟩ dX3_allOnAlike_28 ?_
        show lc_V _ _ _ _ _ 31 _ [.int (lc_bi (sp_alike x.1 p i))] (lc_w σ j x)
        refine lc_ifb_ne 36 dX3_allOnAlike_31 (by decide) (fun c_7 => ?_) (fun c_7 => ?_)
        · skip
          refine lc_iload_n 2 dX3_allOnAlike_36 rfl ?_
          refine lc_istore_n [(1, .int (nI i)), (0, .ref (G.1 (4 + j))), (2, .int (nI i))] dX3_allOnAlike_37 (by decide) rfl ?_
          refine lc_iinc 2 (nI (i + 1)) [(2, .int (nI (i + 1))), (1, .int (nI i)), (0, .ref (G.1 (4 + j)))] dX3_allOnAlike_38 rfl (lc_inc1 i) (by decide) rfl ?_
          refine lc_goto 4 dX3_allOnAlike_41 (by decide) ?_
          refine lc_lv (lv' := [(0, .ref (G.1 (4 + j))), (1, .int (nI i)), (2, .int (nI (i + 1)))]) [2, 1, 0] rfl ?_
          have ki := ki (by simp [sp_aag, c_5, c_7])
          rw [show sp_aaf x.1 i (some p) = some i from by simp [sp_aaf, c_5, c_7]] at ki
          exact ki
        · skip
          refine lc_iconst (v := 0) dX3_allOnAlike_34 (by decide) ?_
          exact lc_zret hR dX3_allOnAlike_35 (by rw [show sp_aaC x.1 n = false by simp [sp_aaC, sp_itE_none hi hzi (show sp_aag x.1 i _ = false by simp [sp_aag, c_5, c_7])]]; rfl) (rfl)
  · skip
    have hlt := sp_aa_lt x.1 _ z hzi
    rcases z with _ | p
    · skip
      show lc_V G Γ cX3_allOnAlike 3 RX3 4 [(0, .ref (G.1 (4 + j))), (1, .int ((-1))), (2, .int (nI n))] [] (lc_w σ j x)
      refine lc_iload_n 2 dX3_allOnAlike_4 rfl ?_
      refine lc_aload_n 0 dX3_allOnAlike_5 rfl ?_
      refine lc_gWSites j (by omega) fl_X3_34 dX3_allOnAlike_6 ?_
      refine lc_icmp_ge 44 dX3_allOnAlike_9 (by decide) (fun _ => ?_) (fun h => absurd h.1 (by rw [hs]; exact nI_nlt (a := n) (b := n) (Nat.le_refl _) (by omega)))
      refine lc_iconst (v := 1) dX3_allOnAlike_44 (by decide) ?_
      exact lc_zret hR dX3_allOnAlike_45 (by rw [show sp_aaC x.1 n = true by simp [sp_aaC, hzi]]; rfl) (rfl)
    · skip
      have hp := hlt p rfl
      show lc_V G Γ cX3_allOnAlike 3 RX3 4 [(0, .ref (G.1 (4 + j))), (1, .int (nI p)), (2, .int (nI n))] [] (lc_w σ j x)
      refine lc_iload_n 2 dX3_allOnAlike_4 rfl ?_
      refine lc_aload_n 0 dX3_allOnAlike_5 rfl ?_
      refine lc_gWSites j (by omega) fl_X3_34 dX3_allOnAlike_6 ?_
      refine lc_icmp_ge 44 dX3_allOnAlike_9 (by decide) (fun _ => ?_) (fun h => absurd h.1 (by rw [hs]; exact nI_nlt (a := n) (b := n) (Nat.le_refl _) (by omega)))
      refine lc_iconst (v := 1) dX3_allOnAlike_44 (by decide) ?_
      exact lc_zret hR dX3_allOnAlike_45 (by rw [show sp_aaC x.1 n = true by simp [sp_aaC, hzi]]; rfl) (rfl)

set_option maxRecDepth 100000 in
set_option maxHeartbeats 4000000 in
theorem c_X3_risenSites (l : Launch) (G : lc_G) (σ : lc_S) (j : Nat) (x : lc_X) (n k : Nat) (hj : j < 2) (hn : n ≤ 6) (hs : x.1 7 0 = nI n) (hk : k < 4) : lc_M l G yX3_risenSites cX3_risenSites 5 (some .int) { frames := 1, cells := 0, slots := 0, locals := 22 } [.ref (G.1 (4 + j)), .int (nI k)] (lc_w σ j x) (some (.int (sp_rss x.1 (σ.2.1 (3 + j)) k n))) (lc_w σ j x) := by
  refine lc_entry [(0, .ref (G.1 (4 + j))), (1, .int (nI k))] (by decide) (Nat.le_of_ble_eq_true rfl) rfl rfl rfl ?_
  intro Γ hR
  refine lc_iconst (v := 0) dX3_risenSites_0 (by decide) ?_
  refine lc_istore_n [(2, .int (0)), (0, .ref (G.1 (4 + j))), (1, .int (nI k))] dX3_risenSites_1 (by decide) rfl ?_
  refine lc_iconst (v := 0) dX3_risenSites_2 (by decide) ?_
  refine lc_istore_n [(3, .int (0)), (2, .int (0)), (0, .ref (G.1 (4 + j))), (1, .int (nI k))] dX3_risenSites_3 (by decide) rfl ?_
  refine lc_lv (lv' := [(0, .ref (G.1 (4 + j))), (1, .int (nI k)), (2, .int (0)), (3, .int (0))]) [2, 3, 1, 0] rfl ?_
  refine lc_forI (α := Int32) (fun i z => lc_V G Γ cX3_risenSites 5 RX3 4 [(0, .ref (G.1 (4 + j))), (1, .int (nI k)), (2, .int (z)), (3, .int (nI i))] [] (lc_w σ j x)) (fun _ _ => True) (sp_rs x.1 (σ.2.1 (3 + j)) k) n (fun _ _ _ _ => trivial) (fun i z hi hIi ki => ?_) 0 (trivial) (fun hIi => ?_)
  · skip
    show lc_V G Γ cX3_risenSites 5 RX3 4 [(0, .ref (G.1 (4 + j))), (1, .int (nI k)), (2, .int (z)), (3, .int (nI i))] [] (lc_w σ j x)
    refine lc_iload_n 3 dX3_risenSites_4 rfl ?_
    refine lc_aload_n 0 dX3_risenSites_5 rfl ?_
    refine lc_gWSites j (by omega) fl_X3_34 dX3_risenSites_6 ?_
    refine lc_icmp_ge 55 dX3_risenSites_9 (by decide) (fun h => absurd h.1 (by rw [hs]; exact nI_ge (b := n) hi (by omega))) (fun _ => ?_)
    refine lc_aload_n 0 dX3_risenSites_12 rfl ?_
    refine lc_iload_n 3 dX3_risenSites_13 rfl ?_
    refine lc_iload_n 1 dX3_risenSites_14 rfl ?_
    refine lc_callV (4 + j) (c_X3_itemAt l G (lc_w σ j x) j i k (by omega) (by omega) (by omega)) hR.2.2.2.1 hR.2.2.2.2 mt_X3_itemAt (by omega) (lc_eW j (by omega)) rfl ml_X3_75 rfl rfl (Nat.le_of_ble_eq_true rfl) ⟨⟨rfl, rfl⟩, Nat.le_of_ble_eq_true rfl, Nat.le_of_ble_eq_true rfl⟩ dX3_risenSites_15 ?_
    show lc_V _ _ _ _ _ 18 _ [.ref (G.1 (lc_it j (4 * i + k)))] (lc_w σ j x)
    refine lc_astore [(4, .ref (G.1 (lc_it j (4 * i + k)))), (0, .ref (G.1 (4 + j))), (1, .int (nI k)), (2, .int (z)), (3, .int (nI i))] dX3_risenSites_18 (by decide) rfl ?_
    refine lc_aload 0 dX3_risenSites_20 rfl ?_
    refine lc_gIw j (4 * i + k) 0 (by omega) (by omega) (by decide) fl_X3_87 dX3_risenSites_22 ?_
    refine lc_iconst (v := 1) dX3_risenSites_25 (by decide) ?_
    refine lc_icmp_ne 49 dX3_risenSites_26 (by decide) (fun c_2 => ?_) (fun c_2 => ?_)
    · skip
      refine lc_iinc 4 (nI (i + 1)) [(3, .int (nI (i + 1))), (4, .ref (G.1 (lc_it j (4 * i + k)))), (0, .ref (G.1 (4 + j))), (1, .int (nI k)), (2, .int (z))] dX3_risenSites_49 rfl (lc_inc1 i) (by decide) rfl ?_
      refine lc_goto 4 dX3_risenSites_52 (by decide) ?_
      refine lc_lv (lv' := [(0, .ref (G.1 (4 + j))), (1, .int (nI k)), (2, .int (z)), (3, .int (nI (i + 1)))]) [2, 3, 4, 0] rfl ?_
      rw [show (sp_rs x.1 (σ.2.1 (3 + j)) k) i z = z from by simp [sp_rs, c_2]] at ki
      exact ki
    · skip
      refine lc_aload 0 dX3_risenSites_29 rfl ?_
      refine lc_gIw j (4 * i + k) 2 (by omega) (by omega) (by decide) fl_X3_138 dX3_risenSites_31 ?_
      refine lc_aload_n 1 dX3_risenSites_34 rfl ?_
      refine lc_gWLat j (by omega) fl_X3_24 dX3_risenSites_35 ?_
      refine lc_iload_n 2 dX3_risenSites_38 rfl ?_
      refine lc_iald (12 + j) k (by omega) (lc_eLatw j (by omega)) (rfl) (by omega) (by decide) dX3_risenSites_39 ?_
      refine lc_icmp_ge 49 dX3_risenSites_40 (by decide) (fun c_3 => ?_) (fun c_3 => ?_)
      · skip
        refine lc_iinc 4 (nI (i + 1)) [(3, .int (nI (i + 1))), (4, .ref (G.1 (lc_it j (4 * i + k)))), (0, .ref (G.1 (4 + j))), (1, .int (nI k)), (2, .int (z))] dX3_risenSites_49 rfl (lc_inc1 i) (by decide) rfl ?_
        refine lc_goto 4 dX3_risenSites_52 (by decide) ?_
        refine lc_lv (lv' := [(0, .ref (G.1 (4 + j))), (1, .int (nI k)), (2, .int (z)), (3, .int (nI (i + 1)))]) [2, 3, 4, 0] rfl ?_
        rw [show (sp_rs x.1 (σ.2.1 (3 + j)) k) i z = z from by simp [sp_rs, c_2, c_3]] at ki
        exact ki
      · skip
        refine lc_iload_n 3 dX3_risenSites_43 rfl ?_
        refine lc_iconst (v := 1) dX3_risenSites_44 (by decide) ?_
        refine lc_iload_n 4 dX3_risenSites_45 rfl ?_
        refine lc_ishl dX3_risenSites_46 ?_
        refine lc_ior dX3_risenSites_47 ?_
        refine lc_istore_n [(2, .int ((z ||| (((1 : Int32) <<< ((nI i) &&& 31)))))), (4, .ref (G.1 (lc_it j (4 * i + k)))), (0, .ref (G.1 (4 + j))), (1, .int (nI k)), (3, .int (nI i))] dX3_risenSites_48 (by decide) rfl ?_
        refine lc_iinc 4 (nI (i + 1)) [(3, .int (nI (i + 1))), (2, .int ((z ||| (((1 : Int32) <<< ((nI i) &&& 31)))))), (4, .ref (G.1 (lc_it j (4 * i + k)))), (0, .ref (G.1 (4 + j))), (1, .int (nI k))] dX3_risenSites_49 rfl (lc_inc1 i) (by decide) rfl ?_
        refine lc_goto 4 dX3_risenSites_52 (by decide) ?_
        refine lc_lv (lv' := [(0, .ref (G.1 (4 + j))), (1, .int (nI k)), (2, .int ((z ||| (((1 : Int32) <<< ((nI i) &&& 31)))))), (3, .int (nI (i + 1)))]) [3, 4, 1, 0] rfl ?_
        rw [show (sp_rs x.1 (σ.2.1 (3 + j)) k) i z = (z ||| (((1 : Int32) <<< ((nI i) &&& 31)))) from by simp [sp_rs, c_2, c_3]] at ki
        exact ki
  · skip
    show lc_V G Γ cX3_risenSites 5 RX3 4 [(0, .ref (G.1 (4 + j))), (1, .int (nI k)), (2, .int ((sp_rss x.1 (σ.2.1 (3 + j)) k n))), (3, .int (nI n))] [] (lc_w σ j x)
    refine lc_iload_n 3 dX3_risenSites_4 rfl ?_
    refine lc_aload_n 0 dX3_risenSites_5 rfl ?_
    refine lc_gWSites j (by omega) fl_X3_34 dX3_risenSites_6 ?_
    refine lc_icmp_ge 55 dX3_risenSites_9 (by decide) (fun _ => ?_) (fun h => absurd h.1 (by rw [hs]; exact nI_nlt (a := n) (b := n) (Nat.le_refl _) (by omega)))
    refine lc_iload_n 2 dX3_risenSites_55 rfl ?_
    exact lc_iret hR dX3_risenSites_56 (rfl) (rfl)

set_option maxRecDepth 100000 in
set_option maxHeartbeats 4000000 in
theorem c_X3_putValue (l : Launch) (G : lc_G) (σ : lc_S) (j : Nat) (x : lc_X) (n a k : Nat) (hj : j < 2) (hn : n ≤ 6) (hs : x.1 7 0 = nI n) (ha : a < 6) (hk : k < 4) (v : Int32) : lc_M l G yX3_putValue cX3_putValue 4 (some .int) { frames := 3, cells := 0, slots := 0, locals := 68 } [.ref (G.1 (4 + j)), .int (nI a), .int (nI k), .int (v)] (lc_w σ j x) (some (.int ((sp_putV n x a k v).1))) (lc_w σ j ((sp_putV n x a k v).2)) := by
  refine lc_entry [(0, .ref (G.1 (4 + j))), (1, .int (nI a)), (2, .int (nI k)), (3, .int (v))] (by decide) (Nat.le_of_ble_eq_true rfl) rfl rfl rfl ?_
  intro Γ hR
  refine lc_aload_n 0 dX3_putValue_0 rfl ?_
  refine lc_iconst (v := 1) dX3_putValue_1 (by decide) ?_
  refine lc_callV (4 + j) (c_X3_advance l G σ j x n (by omega) (by omega) (hs) 1) hR.2.2.2.1 hR.2.2.2.2 mt_X3_advance (by omega) (lc_eW j (by omega)) rfl ml_X3_96 rfl rfl (Nat.le_of_ble_eq_true rfl) ⟨⟨rfl, rfl⟩, Nat.le_of_ble_eq_true rfl, Nat.le_of_ble_eq_true rfl⟩ dX3_putValue_2 ?_
  show lc_V _ _ _ _ _ 5 _ [.int ((sp_adv n x 1).1)] (lc_w σ j ((sp_adv n x 1).2))
  refine lc_pop dX3_putValue_5 rfl ?_
  refine lc_aload_n 0 dX3_putValue_6 rfl ?_
  refine lc_iload_n 1 dX3_putValue_7 rfl ?_
  refine lc_iload_n 2 dX3_putValue_8 rfl ?_
  refine lc_callV (4 + j) (c_X3_itemAt l G (lc_w σ j ((sp_adv n x 1).2)) j a k (by omega) (by omega) (by omega)) hR.2.2.2.1 hR.2.2.2.2 mt_X3_itemAt (by omega) (lc_eW j (by omega)) rfl ml_X3_75 rfl rfl (Nat.le_of_ble_eq_true rfl) ⟨⟨rfl, rfl⟩, Nat.le_of_ble_eq_true rfl, Nat.le_of_ble_eq_true rfl⟩ dX3_putValue_9 ?_
  show lc_V _ _ _ _ _ 12 _ [.ref (G.1 (lc_it j (4 * a + k)))] (lc_w σ j ((sp_adv n x 1).2))
  refine lc_iload_n 3 dX3_putValue_12 rfl ?_
  refine lc_aload_n 0 dX3_putValue_13 rfl ?_
  refine lc_gWNow j (by omega) fl_X3_37 dX3_putValue_14 ?_
  refine lc_aload_n 0 dX3_putValue_17 rfl ?_
  refine lc_gWLim j (by omega) fl_X3_9 dX3_putValue_18 ?_
  refine lc_iconst (v := 2) dX3_putValue_21 (by decide) ?_
  refine lc_iald (6 + j) 2 (by omega) (lc_eLim j (by omega)) (rfl) (by omega) (by decide) dX3_putValue_22 ?_
  refine lc_callV (lc_it j (4 * a + k)) (c_X0_becomeValue l G σ j ((sp_adv n x 1).2) (4 * a + k) (by omega) (by omega) v ((((sp_adv n x 1).2).1) 7 1) ((((sp_adv n x 1).2).1) 6 2)) hR.2.2.2.1 hR.2.2.2.2 mt_X0_becomeValue (lc_it74 (by omega) (by omega)) (lc_ent_it G _ (by omega)) rfl ml_X3_100 rfl rfl (Nat.le_of_ble_eq_true rfl) ⟨⟨rfl, rfl⟩, Nat.le_of_ble_eq_true rfl, Nat.le_of_ble_eq_true rfl⟩ dX3_putValue_23 ?_
  show lc_V _ _ _ _ _ 26 _ [] (lc_w σ j ((sp_val (((sp_adv n x 1).2).1) (4 * a + k) v ((((sp_adv n x 1).2).1) 7 1) ((((sp_adv n x 1).2).1) 6 2), ((sp_adv n x 1).2).2)))
  refine lc_aload_n 0 dX3_putValue_26 rfl ?_
  refine lc_gWNow j (by omega) fl_X3_37 dX3_putValue_27 ?_
  exact lc_iret hR dX3_putValue_30 (rfl) (rfl)

set_option maxRecDepth 100000 in
set_option maxHeartbeats 4000000 in
theorem c_X3_removeValue (l : Launch) (G : lc_G) (σ : lc_S) (j : Nat) (x : lc_X) (n a k m : Nat) (hj : j < 2) (hn : n ≤ 6) (hs : x.1 7 0 = nI n) (ha : a < 6) (hk : k < 4) (hm : 1 ≤ m) (hm3 : m ≤ 3) : lc_M l G yX3_removeValue cX3_removeValue 4 (some .int) { frames := 3, cells := 0, slots := 0, locals := 68 } [.ref (G.1 (4 + j)), .int (nI a), .int (nI k), .int (nI m)] (lc_w σ j x) (some (.int ((sp_remV n x a k (sp_keepC (σ.2.1 (6 + j)) a n m (sp_oth (nI a) ((sp_adv n x 1).2.1 7 0)))).1))) (lc_w ((lc_uo σ (3 + j) k ((sp_adv n x 1).2.1 7 1))) j ((sp_remV n x a k (sp_keepC (σ.2.1 (6 + j)) a n m (sp_oth (nI a) ((sp_adv n x 1).2.1 7 0)))).2)) := by
  refine lc_entry [(0, .ref (G.1 (4 + j))), (1, .int (nI a)), (2, .int (nI k)), (3, .int (nI m))] (by decide) (Nat.le_of_ble_eq_true rfl) rfl rfl rfl ?_
  intro Γ hR
  refine lc_aload_n 0 dX3_removeValue_0 rfl ?_
  refine lc_iconst (v := 1) dX3_removeValue_1 (by decide) ?_
  refine lc_callV (4 + j) (c_X3_advance l G σ j x n (by omega) (by omega) (hs) 1) hR.2.2.2.1 hR.2.2.2.2 mt_X3_advance (by omega) (lc_eW j (by omega)) rfl ml_X3_96 rfl rfl (Nat.le_of_ble_eq_true rfl) ⟨⟨rfl, rfl⟩, Nat.le_of_ble_eq_true rfl, Nat.le_of_ble_eq_true rfl⟩ dX3_removeValue_2 ?_
  show lc_V _ _ _ _ _ 5 _ [.int ((sp_adv n x 1).1)] (lc_w σ j ((sp_adv n x 1).2))
  refine lc_pop dX3_removeValue_5 rfl ?_
  refine lc_aload_n 0 dX3_removeValue_6 rfl ?_
  refine lc_iload_n 1 dX3_removeValue_7 rfl ?_
  refine lc_iload_n 2 dX3_removeValue_8 rfl ?_
  refine lc_callV (4 + j) (c_X3_itemAt l G (lc_w σ j ((sp_adv n x 1).2)) j a k (by omega) (by omega) (by omega)) hR.2.2.2.1 hR.2.2.2.2 mt_X3_itemAt (by omega) (lc_eW j (by omega)) rfl ml_X3_75 rfl rfl (Nat.le_of_ble_eq_true rfl) ⟨⟨rfl, rfl⟩, Nat.le_of_ble_eq_true rfl, Nat.le_of_ble_eq_true rfl⟩ dX3_removeValue_9 ?_
  show lc_V _ _ _ _ _ 12 _ [.ref (G.1 (lc_it j (4 * a + k)))] (lc_w σ j ((sp_adv n x 1).2))
  refine lc_aload_n 0 dX3_removeValue_12 rfl ?_
  refine lc_iload_n 1 dX3_removeValue_13 rfl ?_
  refine lc_iload_n 3 dX3_removeValue_14 rfl ?_
  refine lc_callV (4 + j) (c_X3_keepersOf l G σ j ((sp_adv n x 1).2) n a m (by omega) (by omega) (by omega) (by omega) (by omega) (by rw [sp_adv_70]; exact hs)) hR.2.2.2.1 hR.2.2.2.2 mt_X3_keepersOf (by omega) (lc_eW j (by omega)) rfl ml_X3_104 rfl rfl (Nat.le_of_ble_eq_true rfl) ⟨⟨rfl, rfl⟩, Nat.le_of_ble_eq_true rfl, Nat.le_of_ble_eq_true rfl⟩ dX3_removeValue_15 ?_
  show lc_V _ _ _ _ _ 18 _ [.int (sp_keepC (σ.2.1 (6 + j)) a n m (sp_oth (nI a) ((((sp_adv n x 1).2).1) 7 0))), .ref (G.1 (lc_it j (4 * a + k)))] (lc_w σ j ((sp_adv n x 1).2))
  refine lc_aload_n 0 dX3_removeValue_18 rfl ?_
  refine lc_gWNow j (by omega) fl_X3_37 dX3_removeValue_19 ?_
  refine lc_aload_n 0 dX3_removeValue_22 rfl ?_
  refine lc_gWLim j (by omega) fl_X3_9 dX3_removeValue_23 ?_
  refine lc_iconst (v := 2) dX3_removeValue_26 (by decide) ?_
  refine lc_iald (6 + j) 2 (by omega) (lc_eLim j (by omega)) (rfl) (by omega) (by decide) dX3_removeValue_27 ?_
  refine lc_callV (lc_it j (4 * a + k)) (c_X0_becomeCertificate l G σ j ((sp_adv n x 1).2) (4 * a + k) (by omega) (by omega) (sp_keepC (σ.2.1 (6 + j)) a n m (sp_oth (nI a) ((((sp_adv n x 1).2).1) 7 0))) ((((sp_adv n x 1).2).1) 7 1) ((((sp_adv n x 1).2).1) 6 2)) hR.2.2.2.1 hR.2.2.2.2 mt_X0_becomeCertificate (lc_it74 (by omega) (by omega)) (lc_ent_it G _ (by omega)) rfl ml_X3_108 rfl rfl (Nat.le_of_ble_eq_true rfl) ⟨⟨rfl, rfl⟩, Nat.le_of_ble_eq_true rfl, Nat.le_of_ble_eq_true rfl⟩ dX3_removeValue_28 ?_
  show lc_V _ _ _ _ _ 31 _ [] (lc_w σ j ((sp_cer (((sp_adv n x 1).2).1) (4 * a + k) (sp_keepC (σ.2.1 (6 + j)) a n m (sp_oth (nI a) ((((sp_adv n x 1).2).1) 7 0))) ((((sp_adv n x 1).2).1) 7 1) ((((sp_adv n x 1).2).1) 6 2), ((sp_adv n x 1).2).2)))
  refine lc_aload_n 0 dX3_removeValue_31 rfl ?_
  refine lc_gWLat j (by omega) fl_X3_24 dX3_removeValue_32 ?_
  refine lc_iload_n 2 dX3_removeValue_35 rfl ?_
  refine lc_aload_n 0 dX3_removeValue_36 rfl ?_
  refine lc_gWNow j (by omega) fl_X3_37 dX3_removeValue_37 ?_
  refine lc_swLat j k (by omega) (rfl) (by omega) dX3_removeValue_40 ?_
  refine lc_aload_n 0 dX3_removeValue_41 rfl ?_
  refine lc_gWNow j (by omega) fl_X3_37 dX3_removeValue_42 ?_
  exact lc_iret hR dX3_removeValue_45 (rfl) (rfl)
end
section
/-! pure words: a line's start, a trial's start, the page, rounds -/
def sp_cpo (dst src : Nat) (g : Int32 → Int32) (i : Nat) (s : lc_S) : lc_S := lc_uo s dst i (g (s.2.1 src i))
def sp_zr (r : Nat) (i : Nat) (s : lc_S) : lc_S := lc_uo s r i 0
def sp_nn (i : Nat) (y : lc_X) : lc_X := (sp_none y.1 i, y.2)
def sp_cpt (E : lc_C) (i : Nat) (y : lc_X) : lc_X := (sp_copy y.1 i E i (E 5 i), y.2)
theorem sp_cpo_it (dst src : Nat) (g : Int32 → Int32) (hd : dst ≠ src) (σ : lc_S) (n : Nat) : (sp_it (sp_cpo dst src g) n σ).1 = σ.1 ∧ (sp_it (sp_cpo dst src g) n σ).2.2 = σ.2.2 ∧ ∀ r k, (sp_it (sp_cpo dst src g) n σ).2.1 r k = if r = dst ∧ k < n then g (σ.2.1 src k) else σ.2.1 r k := by
  induction n with
  | zero => exact ⟨rfl, rfl, fun r k => by simp [sp_it]⟩
  | succ n ih =>
    obtain ⟨h1, h2, h3⟩ := ih
    refine ⟨h1, h2, fun r k => ?_⟩
    show (if r = dst ∧ k = n then g ((sp_it (sp_cpo dst src g) n σ).2.1 src n) else (sp_it (sp_cpo dst src g) n σ).2.1 r k) = _
    rw [h3, h3]
    by_cases hr : r = dst
    · by_cases hk : k = n
      · subst hk
        have e : ¬ src = dst := fun z => hd z.symm
        simp [hr, e]
      · by_cases hl : k < n
        · have h' : k < n + 1 := by omega
          simp [hr, hk, hl, h']
        · have h' : ¬ k < n + 1 := by omega
          simp [hr, hk, hl, h']
    · simp [hr]
theorem sp_zr_it (q : Nat) (σ : lc_S) (n : Nat) : (sp_it (sp_zr q) n σ).1 = σ.1 ∧ (sp_it (sp_zr q) n σ).2.2 = σ.2.2 ∧ ∀ r k, (sp_it (sp_zr q) n σ).2.1 r k = if r = q ∧ k < n then 0 else σ.2.1 r k := by
  induction n with
  | zero => exact ⟨rfl, rfl, fun r k => by simp [sp_it]⟩
  | succ n ih =>
    obtain ⟨h1, h2, h3⟩ := ih
    refine ⟨h1, h2, fun r k => ?_⟩
    show (if r = q ∧ k = n then 0 else (sp_it (sp_zr q) n σ).2.1 r k) = _
    rw [h3]
    by_cases hr : r = q
    · by_cases hk : k = n
      · have h' : k < n + 1 := by omega
        simp [hr, hk]
      · by_cases hl : k < n
        · have h' : k < n + 1 := by omega
          simp [hr, hk, hl, h']
        · have h' : ¬ k < n + 1 := by omega
          simp [hr, hk, hl, h']
    · simp [hr]
theorem sp_none_at (B : lc_C) (i f k : Nat) : sp_none B i f k = if k = i ∧ f < 6 then sp_fresh (fun _ => 0) 0 f 0 else B f k := by
  by_cases hk : k = i
  · subst hk
    match f with
    | 0 => simp [sp_none, lc_cu, sp_fresh]
    | 1 => simp [sp_none, lc_cu, sp_fresh]
    | 2 => simp [sp_none, lc_cu, sp_fresh]
    | 3 => simp [sp_none, lc_cu, sp_fresh]
    | 4 => simp [sp_none, lc_cu, sp_fresh]
    | 5 => simp [sp_none, lc_cu, sp_fresh]
    | f + 6 =>
      have h6 : ¬ f + 6 < 6 := by omega
      simp [sp_none, lc_cu, h6]
  · simp [sp_none, lc_cu, hk]
theorem sp_nn_it (y : lc_X) (n : Nat) : (sp_it sp_nn n y).2 = y.2 ∧ ∀ f k, (sp_it sp_nn n y).1 f k = if k < n ∧ f < 6 then sp_fresh (fun _ => 0) 0 f 0 else y.1 f k := by
  induction n with
  | zero => exact ⟨rfl, fun f k => by simp [sp_it]⟩
  | succ n ih =>
    obtain ⟨h1, h2⟩ := ih
    refine ⟨h1, fun f k => ?_⟩
    show sp_none (sp_it sp_nn n y).1 n f k = _
    rw [sp_none_at, h2]
    by_cases hk : k = n
    · have h' : k < n + 1 := by omega
      by_cases hf : f < 6 <;> simp [hk, hf]
    · by_cases hl : k < n
      · have h' : k < n + 1 := by omega
        simp [hk, hl, h']
      · have h' : ¬ k < n + 1 := by omega
        simp [hk, hl, h']
theorem sp_copy_at (B E : lc_C) (i f k : Nat) : sp_copy B i E i (E 5 i) f k = if k = i ∧ f < 6 then E f i else B f k := by
  by_cases hk : k = i
  · subst hk
    match f with
    | 0 => simp [sp_copy, lc_cu]
    | 1 => simp [sp_copy, lc_cu]
    | 2 => simp [sp_copy, lc_cu]
    | 3 => simp [sp_copy, lc_cu]
    | 4 => simp [sp_copy, lc_cu]
    | 5 => simp [sp_copy, lc_cu]
    | f + 6 =>
      have h6 : ¬ f + 6 < 6 := by omega
      simp [sp_copy, lc_cu, h6]
  · simp [sp_copy, lc_cu, hk]
theorem sp_cpt_it (E : lc_C) (y : lc_X) (n : Nat) : (sp_it (sp_cpt E) n y).2 = y.2 ∧ ∀ f k, (sp_it (sp_cpt E) n y).1 f k = if k < n ∧ f < 6 then E f k else y.1 f k := by
  induction n with
  | zero => exact ⟨rfl, fun f k => by simp [sp_it]⟩
  | succ n ih =>
    obtain ⟨h1, h2⟩ := ih
    refine ⟨h1, fun f k => ?_⟩
    show sp_copy (sp_it (sp_cpt E) n y).1 n E n (E 5 n) f k = _
    rw [sp_copy_at, h2]
    by_cases hk : k = n
    · have h' : k < n + 1 := by omega
      by_cases hf : f < 6 <;> simp [hk, hf]
    · by_cases hl : k < n
      · have h' : k < n + 1 := by omega
        simp [hk, hl, h']
      · have h' : ¬ k < n + 1 := by omega
        simp [hk, hl, h']
theorem sp_fresh_f (lim : Nat → Int32) (len : Int32) (f k : Nat) (hf : f < 6) : sp_fresh lim len f k = sp_fresh (fun _ => 0) 0 f 0 := by
  match f, hf with
  | 0, _ => rfl
  | 1, _ => rfl
  | 2, _ => rfl
  | 3, _ => rfl
  | 4, _ => rfl
  | 5, _ => rfl
/-- the state behind a line's start: world j, its latest in row rl, its positions (row rp) as told -/
def sp_line (σ : lc_S) (j rl rp : Nat) (pos : Nat → Int32) (lim : Nat → Int32) (len : Int32) : lc_S := lc_w (lc_ro (lc_ro (lc_ro σ j (fun _ => 0)) rl (fun _ => 0)) rp pos) j (sp_fresh lim len, 0, 0, 0)
/-- the state behind a trial's start -/
def sp_trial (σ : lc_S) : lc_S := lc_ro (lc_ro σ 1 (fun k => if k = 0 then 0 else σ.2.1 1 k)) 7 (σ.2.1 6)
def sp_fw (codes : Nat → Int32) : Nat → Nat → Int32 → Int32
  | 0, i, _ => nI i
  | f + 1, i, least => if (decide (least ≤ codes i) && decide (codes i ≤ 57)) = true then sp_fw codes f (i + 1) (codes i) else nI i
def sp_isl (codes : Nat → Int32) (p : Nat) : Bool := decide (2 ≤ p) && decide (sp_fw codes p 0 48 = nI p)
def sp_next (s : Int32) : Int32 := ((1103515245 * s.toInt64 + 12345) &&& 2147483647).toInt32
theorem lc_uo_uo (σ : lc_S) (r k : Nat) (v w : Int32) : lc_uo (lc_uo σ r k v) r k w = lc_uo σ r k w := by
  unfold lc_uo
  refine Prod.ext rfl (Prod.ext ?_ rfl)
  funext a b
  by_cases h : a = r ∧ b = k <;> simp [h]
theorem lc_uo_id (σ : lc_S) (r k : Nat) : lc_uo σ r k (σ.2.1 r k) = σ := by
  unfold lc_uo
  refine Prod.ext rfl (Prod.ext ?_ rfl)
  funext a b
  by_cases h : a = r ∧ b = k
  · simp [h]
  · simp [h]
/-- one site's turn, a round, rounds till all are alike -/
def sp_trC (pos : Nat → Int32) (n : Nat) (rum : Bool) (s : Nat) (z : Int32 × lc_X) : Int32 × lc_X :=
  if sp_bit (z.2.1 7 2) (nI s) = true then z else if sp_othOn z.2.1 (nI s) = 0 then z
  else if sp_partC z.2.1 pos s n (sp_next z.1) = -1 then (sp_next z.1, z.2)
  else (sp_next z.1, if rum = true then (sp_hots z.2 s (sp_partC z.2.1 pos s n (sp_next z.1)).toNatClampNeg).2 else (sp_cmp z.2 s (sp_partC z.2.1 pos s n (sp_next z.1)).toNatClampNeg).2)
def sp_rdC (pos : Nat → Int32) (n : Nat) (rum : Bool) (z : Int32 × lc_X) : Int32 × lc_X := sp_it (sp_trC pos n rum) n (z.1, (sp_adv n z.2 1).2)
def sp_run {α : Type} (aa : lc_C → Bool) (rd : α × lc_X → α × lc_X) : Nat → Nat → α × lc_X → Int32 × α × lc_X
  | 0, i, z => (if aa z.2.1 = true then nI i else -1, z)
  | f + 1, i, z => if aa z.2.1 = true then (nI i, z) else sp_run aa rd f (i + 1) (rd z)
theorem sp_pbr_cases (pos : Nat → Int32) (a n : Nat) (draw : Int32) : ∀ (k r : Nat) (o s : Int32), sp_pbr pos a n draw k r o s = -1 ∨ ∃ q, q < n ∧ sp_pbr pos a n draw k r o s = nI q := by
  intro k
  induction k with
  | zero => intro r o s; exact Or.inl rfl
  | succ k ih =>
    intro r o s
    unfold sp_pbr
    split
    · exact Or.inl rfl
    · split
      · cases h : (sp_nears pos a o n).1 with
        | none => exact Or.inl rfl
        | some b => exact Or.inr ⟨b, sp_near_lt pos a o n b h, rfl⟩
      · exact ih _ _ _
theorem sp_partC_cases (B : lc_C) (pos : Nat → Int32) (a n : Nat) (seed : Int32) : sp_partC B pos a n seed = -1 ∨ ∃ q, q < n ∧ sp_partC B pos a n seed = nI q := by
  unfold sp_partC
  split
  · exact Or.inl rfl
  · exact sp_pbr_cases _ _ _ _ _ _ _ _
/-- rows 6 and 7 (the limits; sites, now, off) are kept by what meets and tells -/
theorem sp_wake_r (x : lc_X) (i : Nat) : (sp_wake x i).1 6 = x.1 6 ∧ (sp_wake x i).1 7 = x.1 7 := ⟨rfl, rfl⟩
theorem sp_meet_r (x : lc_X) (p q : Nat) : (sp_meet x p q).2.1 6 = x.1 6 ∧ (sp_meet x p q).2.1 7 = x.1 7 := by
  have hw : (sp_meetW x p q).1 6 = x.1 6 ∧ (sp_meetW x p q).1 7 = x.1 7 := by
    unfold sp_meetW
    split
    · exact ⟨rfl, rfl⟩
    · split <;> exact ⟨rfl, rfl⟩
  unfold sp_meet sp_meetC
  split
  · exact hw
  · split <;> exact hw
theorem sp_mks_r (x : lc_X) (a b : Nat) (keys : Int32) : (sp_mks x a b keys).2.1 6 = x.1 6 ∧ (sp_mks x a b keys).2.1 7 = x.1 7 := by
  refine sp_it_I (fun _ z => z.2.1 6 = x.1 6 ∧ z.2.1 7 = x.1 7) (sp_mk a b keys) 4 (fun i z _ h => ?_) (0, x) ⟨rfl, rfl⟩
  unfold sp_mk
  split
  · obtain ⟨h1, h2⟩ := sp_meet_r (sp_tr z.2 (lc_bi (sp_aw z.2.1 (4 * a + i)) + lc_bi (sp_aw z.2.1 (4 * b + i)))) (4 * a + i) (4 * b + i)
    exact ⟨h1.trans h.1, h2.trans h.2⟩
  · exact h
theorem sp_cmp_r (x : lc_X) (a b : Nat) : (sp_cmp x a b).2.1 6 = x.1 6 ∧ (sp_cmp x a b).2.1 7 = x.1 7 := by
  unfold sp_cmp
  have h1 := sp_mks_r x a b (sp_rks x.1 a b)
  split
  · exact h1
  · have h2 := sp_mks_r (sp_mks x a b (sp_rks x.1 a b)).2 a b (15 &&& (sp_rks x.1 a b ^^^ (-1)))
    exact ⟨h2.1.trans h1.1, h2.2.trans h1.2⟩
theorem sp_tell_r (x : lc_X) (p q : Nat) : (sp_tell x p q).2.1 6 = x.1 6 ∧ (sp_tell x p q).2.1 7 = x.1 7 := by
  unfold sp_tell
  split
  · exact ⟨rfl, rfl⟩
  · show (sp_tellN x p q).1 6 = _ ∧ (sp_tellN x p q).1 7 = _
    unfold sp_tellN
    split <;> exact ⟨rfl, rfl⟩
theorem sp_hots_r (x : lc_X) (a b : Nat) : (sp_hots x a b).2.1 6 = x.1 6 ∧ (sp_hots x a b).2.1 7 = x.1 7 := by
  refine sp_it_I (fun _ z => z.2.1 6 = x.1 6 ∧ z.2.1 7 = x.1 7) (sp_hot a b) 4 (fun i z _ h => ?_) (0, x) ⟨rfl, rfl⟩
  unfold sp_hot
  split
  · obtain ⟨h1, h2⟩ := sp_tell_r (sp_tr z.2 1) (4 * a + i) (4 * b + i)
    exact ⟨h1.trans h.1, h2.trans h.2⟩
  · exact h
theorem sp_trC_r (pos : Nat → Int32) (n : Nat) (rum : Bool) (s : Nat) (z : Int32 × lc_X) : (sp_trC pos n rum s z).2.1 6 = z.2.1 6 ∧ (sp_trC pos n rum s z).2.1 7 = z.2.1 7 := by
  unfold sp_trC
  generalize (sp_partC z.2.1 pos s n (sp_next z.1)).toNatClampNeg = q
  split
  · exact ⟨rfl, rfl⟩
  · split
    · exact ⟨rfl, rfl⟩
    · split
      · exact ⟨rfl, rfl⟩
      · by_cases hr : rum = true
        · rw [if_pos hr]; dsimp only; exact sp_hots_r z.2 s q
        · rw [if_neg hr]; dsimp only; exact sp_cmp_r z.2 s q
theorem sp_rdC_r (pos : Nat → Int32) (n : Nat) (rum : Bool) (z : Int32 × lc_X) : (sp_rdC pos n rum z).2.1 7 0 = z.2.1 7 0 := by
  have h : (sp_rdC pos n rum z).2.1 7 = (sp_adv n z.2 1).2.1 7 := by
    refine sp_it_I (fun _ w => w.2.1 7 = (sp_adv n z.2 1).2.1 7) (sp_trC pos n rum) n (fun i w _ h => ?_) (z.1, (sp_adv n z.2 1).2) rfl
    rw [(sp_trC_r pos n rum i w).2]; exact h
  rw [h, sp_adv_70]
theorem sp_nk_I (B : lc_C) (a : Nat) (kind : Int32) (i : Nat) (z : Option Nat) (h : ∀ b, z = some b → b < i) : ∀ b, sp_nk B a kind i z = some b → b < i + 1 := by
  intro b hb
  have key : ∀ c : Bool, (if c = true then some i else z) = some b → b < i + 1 := by
    intro c hc
    cases c
    · have := h b (by simpa using hc)
      omega
    · have := Option.some.inj (by simpa using hc : some i = some b)
      omega
  exact key _ hb
end
section
set_option maxRecDepth 100000 in
set_option maxHeartbeats 4000000 in
theorem c_X3_newestKey (l : Launch) (G : lc_G) (σ : lc_S) (j : Nat) (x : lc_X) (a : Nat) (kind : Int32) (hj : j < 2) (ha : a < 6) : lc_M l G yX3_newestKey cX3_newestKey 7 (some .int) { frames := 1, cells := 0, slots := 0, locals := 22 } [.ref (G.1 (4 + j)), .int (nI a), .int (kind)] (lc_w σ j x) (some (.int (sp_on (sp_nks x.1 a kind)))) (lc_w σ j x) := by
  refine lc_entry [(0, .ref (G.1 (4 + j))), (1, .int (nI a)), (2, .int (kind))] (by decide) (Nat.le_of_ble_eq_true rfl) rfl rfl rfl ?_
  intro Γ hR
  refine lc_iconst (v := (-1)) dX3_newestKey_0 (by decide) ?_
  refine lc_istore_n [(3, .int ((-1))), (0, .ref (G.1 (4 + j))), (1, .int (nI a)), (2, .int (kind))] dX3_newestKey_1 (by decide) rfl ?_
  refine lc_iconst (v := 0) dX3_newestKey_2 (by decide) ?_
  refine lc_istore [(4, .int (0)), (3, .int ((-1))), (0, .ref (G.1 (4 + j))), (1, .int (nI a)), (2, .int (kind))] dX3_newestKey_3 (by decide) rfl ?_
  refine lc_lv (lv' := [(0, .ref (G.1 (4 + j))), (1, .int (nI a)), (2, .int (kind)), (3, .int ((-1))), (4, .int (0))]) [2, 3, 4, 1, 0] rfl ?_
  refine lc_forI (α := Option Nat) (fun i z => lc_V G Γ _ _ _ 5 [(0, .ref (G.1 (4 + j))), (1, .int (nI a)), (2, .int (kind)), (3, .int (sp_on z)), (4, .int (nI i))] [] (lc_w σ j x)) (fun i z => ∀ b, z = some b → b < i) (sp_nk x.1 a kind) 4 (fun i z _ h => sp_nk_I _ _ _ _ _ h) (fun i z hi hIi ki => ?_) none (fun b h => by cases h) (fun _ => ?_)
  · skip
    rcases z with _ | b
    · skip
      show lc_V G Γ _ _ _ 5 [(0, .ref (G.1 (4 + j))), (1, .int (nI a)), (2, .int (kind)), (3, .int ((-1))), (4, .int (nI i))] [] (lc_w σ j x)
      refine lc_iload 4 dX3_newestKey_5 rfl ?_
      refine lc_iconst (v := 4) dX3_newestKey_7 (by decide) ?_
      refine lc_icmp_ge 89 dX3_newestKey_8 (by decide) (fun h => absurd h.1 (by exact nI_ge (b := 4) hi (by omega))) (fun _ => ?_)
      refine lc_aload_n 0 dX3_newestKey_11 rfl ?_
      refine lc_iload_n 1 dX3_newestKey_12 rfl ?_
      refine lc_iload 4 dX3_newestKey_13 rfl ?_
      refine lc_callV (4 + j) (c_X3_itemAt l G (lc_w σ j x) j a i (by omega) (by omega) (by omega)) hR.2.2.2.1 hR.2.2.2.2 mt_X3_itemAt (by omega) (lc_eW j (by omega)) rfl ml_X3_75 rfl rfl (Nat.le_of_ble_eq_true rfl) ⟨⟨rfl, rfl⟩, Nat.le_of_ble_eq_true rfl, Nat.le_of_ble_eq_true rfl⟩ dX3_newestKey_15 ?_
      show lc_V _ _ _ _ _ 18 _ [.ref (G.1 (lc_it j (4 * a + i)))] (lc_w σ j x)
      refine lc_astore [(5, .ref (G.1 (lc_it j (4 * a + i)))), (0, .ref (G.1 (4 + j))), (1, .int (nI a)), (2, .int (kind)), (3, .int ((-1))), (4, .int (nI i))] dX3_newestKey_18 (by decide) rfl ?_
      refine lc_iload_n 3 dX3_newestKey_20 rfl ?_
      refine lc_if_ne 40 dX3_newestKey_21 (by decide) (fun c_2 => ?_) (fun c_2 => ?_)
      · skip
        refine lc_aload 0 dX3_newestKey_40 rfl ?_
        refine lc_gIw j (4 * a + i) 0 (by omega) (by omega) (by decide) fl_X3_87 dX3_newestKey_42 ?_
        refine lc_iload_n 3 dX3_newestKey_45 rfl ?_
        refine lc_icmp_ne 53 dX3_newestKey_46 (by decide) (fun c_3 => ?_) (fun c_3 => ?_)
        · skip
          refine lc_iconst (v := 0) dX3_newestKey_53 (by decide) ?_
          refine lc_istore [(6, .int (0)), (5, .ref (G.1 (lc_it j (4 * a + i)))), (0, .ref (G.1 (4 + j))), (1, .int (nI a)), (2, .int (kind)), (3, .int ((-1))), (4, .int (nI i))] dX3_newestKey_54 (by decide) rfl ?_
          refine lc_iload 0 dX3_newestKey_56 rfl ?_
          refine lc_if_eq 83 dX3_newestKey_58 (by decide) (fun _ => ?_) (fun h => absurd h (by decide))
          refine lc_iinc 6 (nI (i + 1)) [(4, .int (nI (i + 1))), (6, .int (0)), (5, .ref (G.1 (lc_it j (4 * a + i)))), (0, .ref (G.1 (4 + j))), (1, .int (nI a)), (2, .int (kind)), (3, .int ((-1)))] dX3_newestKey_83 rfl (lc_inc1 i) (by decide) rfl ?_
          refine lc_goto 5 dX3_newestKey_86 (by decide) ?_
          refine lc_lv (lv' := [(0, .ref (G.1 (4 + j))), (1, .int (nI a)), (2, .int (kind)), (3, .int ((-1))), (4, .int (nI (i + 1)))]) [3, 4, 5, 6, 0] rfl ?_
          rw [show sp_nk x.1 a kind i (none) = none from by simp [sp_nk, c_2, c_3]] at ki
          exact ki
        · skip
          refine lc_iconst (v := 1) dX3_newestKey_49 (by decide) ?_
          refine lc_goto 54 dX3_newestKey_50 (by decide) ?_
          refine lc_istore [(6, .int (1)), (5, .ref (G.1 (lc_it j (4 * a + i)))), (0, .ref (G.1 (4 + j))), (1, .int (nI a)), (2, .int (kind)), (3, .int ((-1))), (4, .int (nI i))] dX3_newestKey_54 (by decide) rfl ?_
          refine lc_iload 0 dX3_newestKey_56 rfl ?_
          refine lc_if_eq 83 dX3_newestKey_58 (by decide) (fun h => absurd h (by decide)) (fun _ => ?_)
          refine lc_iload_n 5 dX3_newestKey_61 rfl ?_
          refine lc_iconst (v := (-1)) dX3_newestKey_62 (by decide) ?_
          refine lc_icmp_eq 80 dX3_newestKey_63 (by decide) (fun _ => ?_) (fun h => absurd h (by decide))
          refine lc_iload 6 dX3_newestKey_80 rfl ?_
          refine lc_istore_n [(3, .int (nI i)), (6, .int (1)), (5, .ref (G.1 (lc_it j (4 * a + i)))), (0, .ref (G.1 (4 + j))), (1, .int (nI a)), (2, .int (kind)), (4, .int (nI i))] dX3_newestKey_82 (by decide) rfl ?_
          refine lc_iinc 6 (nI (i + 1)) [(4, .int (nI (i + 1))), (3, .int (nI i)), (6, .int (1)), (5, .ref (G.1 (lc_it j (4 * a + i)))), (0, .ref (G.1 (4 + j))), (1, .int (nI a)), (2, .int (kind))] dX3_newestKey_83 rfl (lc_inc1 i) (by decide) rfl ?_
          refine lc_goto 5 dX3_newestKey_86 (by decide) ?_
          refine lc_lv (lv' := [(0, .ref (G.1 (4 + j))), (1, .int (nI a)), (2, .int (kind)), (3, .int (nI i)), (4, .int (nI (i + 1)))]) [4, 5, 6, 1, 0] rfl ?_
          rw [show sp_nk x.1 a kind i (none) = some i from by simp [sp_nk, c_2, c_3]] at ki
          exact ki
      · skip
        refine lc_aload 0 dX3_newestKey_24 rfl ?_
        refine lc_gIw j (4 * a + i) 0 (by omega) (by omega) (by decide) fl_X3_87 dX3_newestKey_26 ?_
        refine lc_if_eq 36 dX3_newestKey_29 (by decide) (fun c_7 => ?_) (fun c_7 => ?_)
        · skip
          refine lc_iconst (v := 0) dX3_newestKey_36 (by decide) ?_
          refine lc_goto 54 dX3_newestKey_37 (by decide) ?_
          refine lc_istore [(6, .int (0)), (5, .ref (G.1 (lc_it j (4 * a + i)))), (0, .ref (G.1 (4 + j))), (1, .int (nI a)), (2, .int (kind)), (3, .int ((-1))), (4, .int (nI i))] dX3_newestKey_54 (by decide) rfl ?_
          refine lc_iload 0 dX3_newestKey_56 rfl ?_
          refine lc_if_eq 83 dX3_newestKey_58 (by decide) (fun _ => ?_) (fun h => absurd h (by decide))
          refine lc_iinc 6 (nI (i + 1)) [(4, .int (nI (i + 1))), (6, .int (0)), (5, .ref (G.1 (lc_it j (4 * a + i)))), (0, .ref (G.1 (4 + j))), (1, .int (nI a)), (2, .int (kind)), (3, .int ((-1)))] dX3_newestKey_83 rfl (lc_inc1 i) (by decide) rfl ?_
          refine lc_goto 5 dX3_newestKey_86 (by decide) ?_
          refine lc_lv (lv' := [(0, .ref (G.1 (4 + j))), (1, .int (nI a)), (2, .int (kind)), (3, .int ((-1))), (4, .int (nI (i + 1)))]) [3, 4, 5, 6, 0] rfl ?_
          rw [show sp_nk x.1 a kind i (none) = none from by simp [sp_nk, c_2, c_7]] at ki
          exact ki
        · skip
          refine lc_iconst (v := 1) dX3_newestKey_32 (by decide) ?_
          refine lc_goto 54 dX3_newestKey_33 (by decide) ?_
          refine lc_istore [(6, .int (1)), (5, .ref (G.1 (lc_it j (4 * a + i)))), (0, .ref (G.1 (4 + j))), (1, .int (nI a)), (2, .int (kind)), (3, .int ((-1))), (4, .int (nI i))] dX3_newestKey_54 (by decide) rfl ?_
          refine lc_iload 0 dX3_newestKey_56 rfl ?_
          refine lc_if_eq 83 dX3_newestKey_58 (by decide) (fun h => absurd h (by decide)) (fun _ => ?_)
          refine lc_iload_n 5 dX3_newestKey_61 rfl ?_
          refine lc_iconst (v := (-1)) dX3_newestKey_62 (by decide) ?_
          refine lc_icmp_eq 80 dX3_newestKey_63 (by decide) (fun _ => ?_) (fun h => absurd h (by decide))
          refine lc_iload 6 dX3_newestKey_80 rfl ?_
          refine lc_istore_n [(3, .int (nI i)), (6, .int (1)), (5, .ref (G.1 (lc_it j (4 * a + i)))), (0, .ref (G.1 (4 + j))), (1, .int (nI a)), (2, .int (kind)), (4, .int (nI i))] dX3_newestKey_82 (by decide) rfl ?_
          refine lc_iinc 6 (nI (i + 1)) [(4, .int (nI (i + 1))), (3, .int (nI i)), (6, .int (1)), (5, .ref (G.1 (lc_it j (4 * a + i)))), (0, .ref (G.1 (4 + j))), (1, .int (nI a)), (2, .int (kind))] dX3_newestKey_83 rfl (lc_inc1 i) (by decide) rfl ?_
          refine lc_goto 5 dX3_newestKey_86 (by decide) ?_
          refine lc_lv (lv' := [(0, .ref (G.1 (4 + j))), (1, .int (nI a)), (2, .int (kind)), (3, .int (nI i)), (4, .int (nI (i + 1)))]) [4, 5, 6, 1, 0] rfl ?_
          rw [show sp_nk x.1 a kind i (none) = some i from by simp [sp_nk, c_2, c_7]] at ki
          exact ki
    · skip
      have hb4 : b < 4 := by have := hIi b rfl; omega
      have hbb : b < 2 ^ 31 := by omega
      show lc_V G Γ _ _ _ 5 [(0, .ref (G.1 (4 + j))), (1, .int (nI a)), (2, .int (kind)), (3, .int (nI b)), (4, .int (nI i))] [] (lc_w σ j x)
      refine lc_iload 4 dX3_newestKey_5 rfl ?_
      refine lc_iconst (v := 4) dX3_newestKey_7 (by decide) ?_
      refine lc_icmp_ge 89 dX3_newestKey_8 (by decide) (fun h => absurd h.1 (by exact nI_ge (b := 4) hi (by omega))) (fun _ => ?_)
      refine lc_aload_n 0 dX3_newestKey_11 rfl ?_
      refine lc_iload_n 1 dX3_newestKey_12 rfl ?_
      refine lc_iload 4 dX3_newestKey_13 rfl ?_
      refine lc_callV (4 + j) (c_X3_itemAt l G (lc_w σ j x) j a i (by omega) (by omega) (by omega)) hR.2.2.2.1 hR.2.2.2.2 mt_X3_itemAt (by omega) (lc_eW j (by omega)) rfl ml_X3_75 rfl rfl (Nat.le_of_ble_eq_true rfl) ⟨⟨rfl, rfl⟩, Nat.le_of_ble_eq_true rfl, Nat.le_of_ble_eq_true rfl⟩ dX3_newestKey_15 ?_
      show lc_V _ _ _ _ _ 18 _ [.ref (G.1 (lc_it j (4 * a + i)))] (lc_w σ j x)
      refine lc_astore [(5, .ref (G.1 (lc_it j (4 * a + i)))), (0, .ref (G.1 (4 + j))), (1, .int (nI a)), (2, .int (kind)), (3, .int (nI b)), (4, .int (nI i))] dX3_newestKey_18 (by decide) rfl ?_
      refine lc_iload_n 3 dX3_newestKey_20 rfl ?_
      refine lc_if_ne 40 dX3_newestKey_21 (by decide) (fun c_12 => ?_) (fun c_12 => ?_)
      · skip
        refine lc_aload 0 dX3_newestKey_40 rfl ?_
        refine lc_gIw j (4 * a + i) 0 (by omega) (by omega) (by decide) fl_X3_87 dX3_newestKey_42 ?_
        refine lc_iload_n 3 dX3_newestKey_45 rfl ?_
        refine lc_icmp_ne 53 dX3_newestKey_46 (by decide) (fun c_13 => ?_) (fun c_13 => ?_)
        · skip
          refine lc_iconst (v := 0) dX3_newestKey_53 (by decide) ?_
          refine lc_istore [(6, .int (0)), (5, .ref (G.1 (lc_it j (4 * a + i)))), (0, .ref (G.1 (4 + j))), (1, .int (nI a)), (2, .int (kind)), (3, .int (nI b)), (4, .int (nI i))] dX3_newestKey_54 (by decide) rfl ?_
          refine lc_iload 0 dX3_newestKey_56 rfl ?_
          refine lc_if_eq 83 dX3_newestKey_58 (by decide) (fun _ => ?_) (fun h => absurd h (by decide))
          refine lc_iinc 6 (nI (i + 1)) [(4, .int (nI (i + 1))), (6, .int (0)), (5, .ref (G.1 (lc_it j (4 * a + i)))), (0, .ref (G.1 (4 + j))), (1, .int (nI a)), (2, .int (kind)), (3, .int (nI b))] dX3_newestKey_83 rfl (lc_inc1 i) (by decide) rfl ?_
          refine lc_goto 5 dX3_newestKey_86 (by decide) ?_
          refine lc_lv (lv' := [(0, .ref (G.1 (4 + j))), (1, .int (nI a)), (2, .int (kind)), (3, .int (nI b)), (4, .int (nI (i + 1)))]) [3, 4, 5, 6, 0] rfl ?_
          rw [show sp_nk x.1 a kind i (some b) = some b from by simp [sp_nk, c_12, c_13]] at ki
          exact ki
        · skip
          refine lc_iconst (v := 1) dX3_newestKey_49 (by decide) ?_
          refine lc_goto 54 dX3_newestKey_50 (by decide) ?_
          refine lc_istore [(6, .int (1)), (5, .ref (G.1 (lc_it j (4 * a + i)))), (0, .ref (G.1 (4 + j))), (1, .int (nI a)), (2, .int (kind)), (3, .int (nI b)), (4, .int (nI i))] dX3_newestKey_54 (by decide) rfl ?_
          refine lc_iload 0 dX3_newestKey_56 rfl ?_
          refine lc_if_eq 83 dX3_newestKey_58 (by decide) (fun h => absurd h (by decide)) (fun _ => ?_)
          refine lc_iload_n 5 dX3_newestKey_61 rfl ?_
          refine lc_iconst (v := (-1)) dX3_newestKey_62 (by decide) ?_
          refine lc_icmp_eq 80 dX3_newestKey_63 (by decide) (fun h => (lc_nm1b hbb h).elim) (fun _ => ?_)
          refine lc_aload 1 dX3_newestKey_66 rfl ?_
          refine lc_aload_n 2 dX3_newestKey_68 rfl ?_
          refine lc_iload_n 3 dX3_newestKey_69 rfl ?_
          refine lc_iload_n 5 dX3_newestKey_70 rfl ?_
          refine lc_callV (4 + j) (c_X3_itemAt l G (lc_w σ j x) j a b (by omega) (by omega) (by omega)) hR.2.2.2.1 hR.2.2.2.2 mt_X3_itemAt (by omega) (lc_eW j (by omega)) rfl ml_X3_75 rfl rfl (Nat.le_of_ble_eq_true rfl) ⟨⟨rfl, rfl⟩, Nat.le_of_ble_eq_true rfl, Nat.le_of_ble_eq_true rfl⟩ dX3_newestKey_71 ?_
          show lc_V _ _ _ _ _ 74 _ [.ref (G.1 (lc_it j (4 * a + b))), .ref (G.1 (lc_it j (4 * a + i)))] (lc_w σ j x)
          refine lc_callV (lc_it j (4 * a + i)) (c_X0_isNewer l G σ j x (4 * a + i) (4 * a + b) (by omega) (by omega) (by omega)) hR.2.2.2.1 hR.2.2.2.2 mt_X0_isNewer (lc_it74 (by omega) (by omega)) (lc_ent_it G _ (by omega)) rfl ml_X3_149 rfl rfl (Nat.le_of_ble_eq_true rfl) ⟨⟨rfl, rfl⟩, Nat.le_of_ble_eq_true rfl, Nat.le_of_ble_eq_true rfl⟩ dX3_newestKey_74 ?_
          show lc_V _ _ _ _ _ 77 _ [.int (lc_bi (sp_new x.1 (4 * a + i) (4 * a + b)))] (lc_w σ j x)
          refine lc_ifb_eq 83 dX3_newestKey_77 (by decide) (fun c_17 => ?_) (fun c_17 => ?_)
          · skip
            refine lc_iinc 6 (nI (i + 1)) [(4, .int (nI (i + 1))), (6, .int (1)), (5, .ref (G.1 (lc_it j (4 * a + i)))), (0, .ref (G.1 (4 + j))), (1, .int (nI a)), (2, .int (kind)), (3, .int (nI b))] dX3_newestKey_83 rfl (lc_inc1 i) (by decide) rfl ?_
            refine lc_goto 5 dX3_newestKey_86 (by decide) ?_
            refine lc_lv (lv' := [(0, .ref (G.1 (4 + j))), (1, .int (nI a)), (2, .int (kind)), (3, .int (nI b)), (4, .int (nI (i + 1)))]) [3, 4, 5, 6, 0] rfl ?_
            rw [show sp_nk x.1 a kind i (some b) = some b from by simp [sp_nk, c_12, c_13, c_17]] at ki
            exact ki
          · skip
            refine lc_iload 6 dX3_newestKey_80 rfl ?_
            refine lc_istore_n [(3, .int (nI i)), (6, .int (1)), (5, .ref (G.1 (lc_it j (4 * a + i)))), (0, .ref (G.1 (4 + j))), (1, .int (nI a)), (2, .int (kind)), (4, .int (nI i))] dX3_newestKey_82 (by decide) rfl ?_
            refine lc_iinc 6 (nI (i + 1)) [(4, .int (nI (i + 1))), (3, .int (nI i)), (6, .int (1)), (5, .ref (G.1 (lc_it j (4 * a + i)))), (0, .ref (G.1 (4 + j))), (1, .int (nI a)), (2, .int (kind))] dX3_newestKey_83 rfl (lc_inc1 i) (by decide) rfl ?_
            refine lc_goto 5 dX3_newestKey_86 (by decide) ?_
            refine lc_lv (lv' := [(0, .ref (G.1 (4 + j))), (1, .int (nI a)), (2, .int (kind)), (3, .int (nI i)), (4, .int (nI (i + 1)))]) [4, 5, 6, 1, 0] rfl ?_
            rw [show sp_nk x.1 a kind i (some b) = some i from by simp [sp_nk, c_12, c_13, c_17]] at ki
            exact ki
      · skip
        refine lc_aload 0 dX3_newestKey_24 rfl ?_
        refine lc_gIw j (4 * a + i) 0 (by omega) (by omega) (by decide) fl_X3_87 dX3_newestKey_26 ?_
        refine lc_if_eq 36 dX3_newestKey_29 (by decide) (fun c_18 => ?_) (fun c_18 => ?_)
        · skip
          refine lc_iconst (v := 0) dX3_newestKey_36 (by decide) ?_
          refine lc_goto 54 dX3_newestKey_37 (by decide) ?_
          refine lc_istore [(6, .int (0)), (5, .ref (G.1 (lc_it j (4 * a + i)))), (0, .ref (G.1 (4 + j))), (1, .int (nI a)), (2, .int (kind)), (3, .int (nI b)), (4, .int (nI i))] dX3_newestKey_54 (by decide) rfl ?_
          refine lc_iload 0 dX3_newestKey_56 rfl ?_
          refine lc_if_eq 83 dX3_newestKey_58 (by decide) (fun _ => ?_) (fun h => absurd h (by decide))
          refine lc_iinc 6 (nI (i + 1)) [(4, .int (nI (i + 1))), (6, .int (0)), (5, .ref (G.1 (lc_it j (4 * a + i)))), (0, .ref (G.1 (4 + j))), (1, .int (nI a)), (2, .int (kind)), (3, .int (nI b))] dX3_newestKey_83 rfl (lc_inc1 i) (by decide) rfl ?_
          refine lc_goto 5 dX3_newestKey_86 (by decide) ?_
          refine lc_lv (lv' := [(0, .ref (G.1 (4 + j))), (1, .int (nI a)), (2, .int (kind)), (3, .int (nI b)), (4, .int (nI (i + 1)))]) [3, 4, 5, 6, 0] rfl ?_
          rw [show sp_nk x.1 a kind i (some b) = some b from by simp [sp_nk, c_12, c_18]] at ki
          exact ki
        · skip
          refine lc_iconst (v := 1) dX3_newestKey_32 (by decide) ?_
          refine lc_goto 54 dX3_newestKey_33 (by decide) ?_
          refine lc_istore [(6, .int (1)), (5, .ref (G.1 (lc_it j (4 * a + i)))), (0, .ref (G.1 (4 + j))), (1, .int (nI a)), (2, .int (kind)), (3, .int (nI b)), (4, .int (nI i))] dX3_newestKey_54 (by decide) rfl ?_
          refine lc_iload 0 dX3_newestKey_56 rfl ?_
          refine lc_if_eq 83 dX3_newestKey_58 (by decide) (fun h => absurd h (by decide)) (fun _ => ?_)
          refine lc_iload_n 5 dX3_newestKey_61 rfl ?_
          refine lc_iconst (v := (-1)) dX3_newestKey_62 (by decide) ?_
          refine lc_icmp_eq 80 dX3_newestKey_63 (by decide) (fun h => (lc_nm1b hbb h).elim) (fun _ => ?_)
          refine lc_aload 1 dX3_newestKey_66 rfl ?_
          refine lc_aload_n 2 dX3_newestKey_68 rfl ?_
          refine lc_iload_n 3 dX3_newestKey_69 rfl ?_
          refine lc_iload_n 5 dX3_newestKey_70 rfl ?_
          refine lc_callV (4 + j) (c_X3_itemAt l G (lc_w σ j x) j a b (by omega) (by omega) (by omega)) hR.2.2.2.1 hR.2.2.2.2 mt_X3_itemAt (by omega) (lc_eW j (by omega)) rfl ml_X3_75 rfl rfl (Nat.le_of_ble_eq_true rfl) ⟨⟨rfl, rfl⟩, Nat.le_of_ble_eq_true rfl, Nat.le_of_ble_eq_true rfl⟩ dX3_newestKey_71 ?_
          show lc_V _ _ _ _ _ 74 _ [.ref (G.1 (lc_it j (4 * a + b))), .ref (G.1 (lc_it j (4 * a + i)))] (lc_w σ j x)
          refine lc_callV (lc_it j (4 * a + i)) (c_X0_isNewer l G σ j x (4 * a + i) (4 * a + b) (by omega) (by omega) (by omega)) hR.2.2.2.1 hR.2.2.2.2 mt_X0_isNewer (lc_it74 (by omega) (by omega)) (lc_ent_it G _ (by omega)) rfl ml_X3_149 rfl rfl (Nat.le_of_ble_eq_true rfl) ⟨⟨rfl, rfl⟩, Nat.le_of_ble_eq_true rfl, Nat.le_of_ble_eq_true rfl⟩ dX3_newestKey_74 ?_
          show lc_V _ _ _ _ _ 77 _ [.int (lc_bi (sp_new x.1 (4 * a + i) (4 * a + b)))] (lc_w σ j x)
          refine lc_ifb_eq 83 dX3_newestKey_77 (by decide) (fun c_22 => ?_) (fun c_22 => ?_)
          · skip
            refine lc_iinc 6 (nI (i + 1)) [(4, .int (nI (i + 1))), (6, .int (1)), (5, .ref (G.1 (lc_it j (4 * a + i)))), (0, .ref (G.1 (4 + j))), (1, .int (nI a)), (2, .int (kind)), (3, .int (nI b))] dX3_newestKey_83 rfl (lc_inc1 i) (by decide) rfl ?_
            refine lc_goto 5 dX3_newestKey_86 (by decide) ?_
            refine lc_lv (lv' := [(0, .ref (G.1 (4 + j))), (1, .int (nI a)), (2, .int (kind)), (3, .int (nI b)), (4, .int (nI (i + 1)))]) [3, 4, 5, 6, 0] rfl ?_
            rw [show sp_nk x.1 a kind i (some b) = some b from by simp [sp_nk, c_12, c_18, c_22]] at ki
            exact ki
          · skip
            refine lc_iload 6 dX3_newestKey_80 rfl ?_
            refine lc_istore_n [(3, .int (nI i)), (6, .int (1)), (5, .ref (G.1 (lc_it j (4 * a + i)))), (0, .ref (G.1 (4 + j))), (1, .int (nI a)), (2, .int (kind)), (4, .int (nI i))] dX3_newestKey_82 (by decide) rfl ?_
            refine lc_iinc 6 (nI (i + 1)) [(4, .int (nI (i + 1))), (3, .int (nI i)), (6, .int (1)), (5, .ref (G.1 (lc_it j (4 * a + i)))), (0, .ref (G.1 (4 + j))), (1, .int (nI a)), (2, .int (kind))] dX3_newestKey_83 rfl (lc_inc1 i) (by decide) rfl ?_
            refine lc_goto 5 dX3_newestKey_86 (by decide) ?_
            refine lc_lv (lv' := [(0, .ref (G.1 (4 + j))), (1, .int (nI a)), (2, .int (kind)), (3, .int (nI i)), (4, .int (nI (i + 1)))]) [4, 5, 6, 1, 0] rfl ?_
            rw [show sp_nk x.1 a kind i (some b) = some i from by simp [sp_nk, c_12, c_18, c_22]] at ki
            exact ki
  · skip
    show lc_V G Γ _ _ _ 5 [(0, .ref (G.1 (4 + j))), (1, .int (nI a)), (2, .int (kind)), (3, .int (sp_on (sp_nks x.1 a kind))), (4, .int (nI 4))] [] (lc_w σ j x)
    refine lc_iload 4 dX3_newestKey_5 rfl ?_
    refine lc_iconst (v := 4) dX3_newestKey_7 (by decide) ?_
    refine lc_icmp_ge 89 dX3_newestKey_8 (by decide) (fun _ => ?_) (fun h => absurd h.1 (by exact nI_nlt (a := 4) (b := 4) (Nat.le_refl _) (by omega)))
    refine lc_iload_n 3 dX3_newestKey_89 rfl ?_
    exact lc_iret hR dX3_newestKey_90 (rfl) (rfl)

theorem sp_line_sim (σ : lc_S) (x : lc_X) : lc_sim (lc_w (sp_it (sp_zr 3) 4 (sp_it (sp_cpo 6 9 (fun v => v)) 6 σ)) 0 (sp_it sp_nn 24 ((((lc_cu (lc_cu (lc_cu x.1 7 0 (σ.2.1 10 0)) 7 1 0) 7 2 0, x.2)).1, (0 - σ.2.1 0 0), (0 - σ.2.1 0 1), (0 - σ.2.1 0 2))))) (sp_line σ 0 3 6 (σ.2.1 9) (x.1 6) (σ.2.1 10 0)) := by
  have hn := sp_nn_it ((((lc_cu (lc_cu (lc_cu x.1 7 0 (σ.2.1 10 0)) 7 1 0) 7 2 0, x.2)).1, (0 - σ.2.1 0 0), (0 - σ.2.1 0 1), (0 - σ.2.1 0 2))) 24
  have hz := sp_zr_it 3 (sp_it (sp_cpo 6 9 (fun v => v)) 6 σ) 4
  have hc := sp_cpo_it 6 9 (fun v => v) (by decide) σ 6
  generalize sp_it sp_nn 24 ((((lc_cu (lc_cu (lc_cu x.1 7 0 (σ.2.1 10 0)) 7 1 0) 7 2 0, x.2)).1, (0 - σ.2.1 0 0), (0 - σ.2.1 0 1), (0 - σ.2.1 0 2))) = y at hn ⊢
  generalize sp_it (sp_zr 3) 4 (sp_it (sp_cpo 6 9 (fun v => v)) 6 σ) = s2 at hz ⊢
  generalize sp_it (sp_cpo 6 9 (fun v => v)) 6 σ = s1 at hz hc
  obtain ⟨hn1, hn2⟩ := hn
  obtain ⟨hz1, hz2, hz3⟩ := hz
  obtain ⟨hc1, hc2, hc3⟩ := hc
  have o : ∀ r k, r ≠ 0 → (sp_line σ 0 3 6 (σ.2.1 9) (x.1 6) (σ.2.1 10 0)).2.1 r k = if r = 3 then 0 else if r = 6 then σ.2.1 9 k else σ.2.1 r k := by
    intro r k h
    unfold sp_line
    rw [lc_w_on _ _ h]
    unfold lc_ro
    by_cases h3 : r = 3
    · subst h3; simp
    · by_cases h6 : r = 6
      · subst h6; simp
      · simp [h, h3, h6]
  have o2 : ∀ r k, s2.2.1 r k = if r = 3 ∧ k < 4 then 0 else if r = 6 ∧ k < 6 then σ.2.1 9 k else σ.2.1 r k := by
    intro r k; rw [hz3, hc3]
  refine ⟨fun j f i hj hf hi => ?_, fun j i hj hi => ?_, fun j i hj hi => ?_, fun r i hr hi => ?_, fun r i h1 h2 hi => ?_, fun r i h1 h2 hi => ?_, fun i hi => ?_, fun i hi => ?_, fun i hi => ?_, fun i hi => ?_, ?_, ?_⟩
  · by_cases h : j = 0
    · subst h
      rw [lc_w_c]
      unfold sp_line
      rw [lc_w_c, hn2, if_pos ⟨hi, hf⟩]
      exact (sp_fresh_f (x.1 6) (σ.2.1 10 0) f i hf).symm
    · rw [lc_w_cn _ _ h]
      unfold sp_line
      rw [lc_w_cn _ _ h, hz1, hc1]
      rfl
  · by_cases h : j = 0
    · subst h
      rw [lc_w_c]
      unfold sp_line
      rw [lc_w_c, hn2, if_neg (fun z => absurd z.2 (by decide))]
      rfl
    · rw [lc_w_cn _ _ h]
      unfold sp_line
      rw [lc_w_cn _ _ h, hz1, hc1]
      rfl
  · by_cases h : j = 0
    · subst h
      rw [lc_w_c]
      unfold sp_line
      rw [lc_w_c, hn2, if_neg (fun z => absurd z.2 (by decide))]
      match i, hi with
      | 0, _ => rfl
      | 1, _ => rfl
      | 2, _ => rfl
    · rw [lc_w_cn _ _ h]
      unfold sp_line
      rw [lc_w_cn _ _ h, hz1, hc1]
      rfl
  · by_cases h : r = 0
    · subst h
      have e : ∀ k, s2.2.1 0 k = σ.2.1 0 k := fun k => by rw [o2]; simp
      match i, hi with
      | 0, _ => rw [lc_w_o0, hn1, e]; exact (lc_cz _).symm
      | 1, _ => rw [lc_w_o1, hn1, e]; exact (lc_cz _).symm
      | 2, _ => rw [lc_w_o2, hn1, e]; exact (lc_cz _).symm
    · rw [lc_w_on _ _ h, o _ _ h, o2]
      have h3 : ¬ r = 3 := by omega
      have h6 : ¬ r = 6 := by omega
      simp [h3, h6]
  · rw [lc_w_on _ _ (by omega), o _ _ (by omega), o2]
    have h6 : ¬ r = 6 := by omega
    simp [h6, hi]
  · rw [lc_w_on _ _ (by omega), o _ _ (by omega), o2]
    have h3 : ¬ r = 3 := by omega
    simp [h3, hi]
  · rw [lc_w_on _ _ (by decide), o _ _ (by decide), o2]; simp
  · rw [lc_w_on _ _ (by decide), o _ _ (by decide), o2]; simp
  · rw [lc_w_on _ _ (by decide), o _ _ (by decide), o2]; simp
  · rw [lc_w_on _ _ (by decide), o _ _ (by decide), o2]; simp
  · show s2.2.2 0 = σ.2.2 0
    rw [hz2, hc2]
  · show s2.2.2 1 = σ.2.2 1
    rw [hz2, hc2]

set_option maxRecDepth 100000 in
set_option maxHeartbeats 4000000 in
theorem c_X3_startLine (l : Launch) (G : lc_G) (σ : lc_S) (x : lc_X) : lc_M l G yX3_startLine cX3_startLine 3 none { frames := 1, cells := 0, slots := 0, locals := 20 } [.ref (G.1 (4)), .ref (G.1 (1))] (lc_w σ 0 x) none ((sp_line σ 0 3 6 (σ.2.1 9) (x.1 6) (σ.2.1 10 0))) := by
  refine lc_entry [(0, .ref (G.1 (4))), (1, .ref (G.1 (1)))] (by decide) (Nat.le_of_ble_eq_true rfl) rfl rfl rfl ?_
  intro Γ hR
  refine lc_aload_n 0 dX3_startLine_0 rfl ?_
  refine lc_aload_n 1 dX3_startLine_1 rfl ?_
  refine lc_gw_len 0 (by omega) fl_X3_28 dX3_startLine_2 ?_
  refine lc_pWSites 0 (by omega) fl_X3_34 dX3_startLine_5 ?_
  refine lc_aload_n 0 dX3_startLine_8 rfl ?_
  refine lc_iconst (v := 0) dX3_startLine_9 (by decide) ?_
  refine lc_pWNow 0 (by omega) fl_X3_37 dX3_startLine_10 ?_
  refine lc_aload_n 0 dX3_startLine_13 rfl ?_
  refine lc_iconst (v := 0) dX3_startLine_14 (by decide) ?_
  refine lc_pWOff 0 (by omega) fl_X3_40 dX3_startLine_15 ?_
  refine lc_aload_n 0 dX3_startLine_18 rfl ?_
  refine lc_iconst (v := 0) dX3_startLine_19 (by decide) ?_
  refine lc_pWTra 0 ((0 - σ.2.1 0 0)) (lc_cz _) (by omega) fl_X3_43 dX3_startLine_20 ?_
  refine lc_eq (σ' := lc_w σ 0 ((((lc_cu (lc_cu (lc_cu x.1 7 0 (σ.2.1 10 0)) 7 1 0) 7 2 0, x.2)).1, (0 - σ.2.1 0 0), ((lc_cu (lc_cu (lc_cu x.1 7 0 (σ.2.1 10 0)) 7 1 0) 7 2 0, x.2)).2.2.1, ((lc_cu (lc_cu (lc_cu x.1 7 0 (σ.2.1 10 0)) 7 1 0) 7 2 0, x.2)).2.2.2))) rfl ?_
  refine lc_aload_n 0 dX3_startLine_23 rfl ?_
  refine lc_iconst (v := 0) dX3_startLine_24 (by decide) ?_
  refine lc_pWWok 0 ((0 - σ.2.1 0 1)) (lc_cz _) (by omega) fl_X3_46 dX3_startLine_25 ?_
  refine lc_eq (σ' := lc_w σ 0 ((((lc_cu (lc_cu (lc_cu x.1 7 0 (σ.2.1 10 0)) 7 1 0) 7 2 0, x.2)).1, (0 - σ.2.1 0 0), (0 - σ.2.1 0 1), ((lc_cu (lc_cu (lc_cu x.1 7 0 (σ.2.1 10 0)) 7 1 0) 7 2 0, x.2)).2.2.2))) rfl ?_
  refine lc_aload_n 0 dX3_startLine_28 rfl ?_
  refine lc_iconst (v := 0) dX3_startLine_29 (by decide) ?_
  refine lc_pWGon 0 ((0 - σ.2.1 0 2)) (lc_cz _) (by omega) fl_X3_49 dX3_startLine_30 ?_
  refine lc_eq (σ' := lc_w σ 0 ((((lc_cu (lc_cu (lc_cu x.1 7 0 (σ.2.1 10 0)) 7 1 0) 7 2 0, x.2)).1, (0 - σ.2.1 0 0), (0 - σ.2.1 0 1), (0 - σ.2.1 0 2)))) rfl ?_
  refine lc_iconst (v := 0) dX3_startLine_33 (by decide) ?_
  refine lc_istore_n [(2, .int (0)), (0, .ref (G.1 (4))), (1, .ref (G.1 (1)))] dX3_startLine_34 (by decide) rfl ?_
  refine lc_lv (lv' := [(0, .ref (G.1 (4))), (1, .ref (G.1 (1))), (2, .int (0))]) [1, 2, 0] rfl ?_
  refine lc_forI (α := lc_S) (fun i z => lc_V G Γ cX3_startLine 3 RX3 35 [(0, .ref (G.1 (4))), (1, .ref (G.1 (1))), (2, .int (nI i))] [] (lc_w z 0 ((((lc_cu (lc_cu (lc_cu x.1 7 0 (σ.2.1 10 0)) 7 1 0) 7 2 0, x.2)).1, (0 - σ.2.1 0 0), (0 - σ.2.1 0 1), (0 - σ.2.1 0 2))))) (fun _ _ => True) (sp_cpo 6 9 (fun v => v)) 6 (fun _ _ _ _ => trivial) (fun i z hi hIi ki => ?_) σ (trivial) (fun hIi => ?_)
  · skip
    show lc_V G Γ cX3_startLine 3 RX3 35 [(0, .ref (G.1 (4))), (1, .ref (G.1 (1))), (2, .int (nI i))] [] (lc_w z 0 ((((lc_cu (lc_cu (lc_cu x.1 7 0 (σ.2.1 10 0)) 7 1 0) 7 2 0, x.2)).1, (0 - σ.2.1 0 0), (0 - σ.2.1 0 1), (0 - σ.2.1 0 2))))
    refine lc_iload_n 2 dX3_startLine_35 rfl ?_
    refine lc_bipush (v := 6) dX3_startLine_36 (by decide) ?_
    refine lc_icmp_ge 59 dX3_startLine_38 (by decide) (fun h => absurd h.1 (by exact nI_ge (b := 6) hi (by omega))) (fun _ => ?_)
    refine lc_aload_n 0 dX3_startLine_41 rfl ?_
    refine lc_gWPos 0 (by omega) fl_X3_15 dX3_startLine_42 ?_
    refine lc_iload_n 2 dX3_startLine_45 rfl ?_
    refine lc_aload_n 1 dX3_startLine_46 rfl ?_
    refine lc_g_codes fl_X3_52 dX3_startLine_47 ?_
    refine lc_iload_n 2 dX3_startLine_50 rfl ?_
    refine lc_iald (2) i (by omega) (rfl) (rfl) (by omega) (by decide) dX3_startLine_51 ?_
    refine lc_sw_pos0 0 i (by omega) (rfl) (by omega) dX3_startLine_52 ?_
    refine lc_iinc 2 (nI (i + 1)) [(2, .int (nI (i + 1))), (0, .ref (G.1 (4))), (1, .ref (G.1 (1)))] dX3_startLine_53 rfl (lc_inc1 i) (by decide) rfl ?_
    refine lc_goto 35 dX3_startLine_56 (by decide) ?_
    refine lc_lv (lv' := [(0, .ref (G.1 (4))), (1, .ref (G.1 (1))), (2, .int (nI (i + 1)))]) [1, 2, 0] rfl ?_
    rw [show (sp_cpo 6 9 (fun v => v)) i z = (lc_uo z (6) i (z.2.1 9 i)) from rfl] at ki
    exact ki
  · skip
    show lc_V G Γ cX3_startLine 3 RX3 35 [(0, .ref (G.1 (4))), (1, .ref (G.1 (1))), (2, .int (nI 6))] [] (lc_w ((sp_it (sp_cpo 6 9 (fun v => v)) 6 σ)) 0 ((((lc_cu (lc_cu (lc_cu x.1 7 0 (σ.2.1 10 0)) 7 1 0) 7 2 0, x.2)).1, (0 - σ.2.1 0 0), (0 - σ.2.1 0 1), (0 - σ.2.1 0 2))))
    refine lc_iload_n 2 dX3_startLine_35 rfl ?_
    refine lc_bipush (v := 6) dX3_startLine_36 (by decide) ?_
    refine lc_icmp_ge 59 dX3_startLine_38 (by decide) (fun _ => ?_) (fun h => absurd h.1 (by exact nI_nlt (a := 6) (b := 6) (Nat.le_refl _) (by omega)))
    refine lc_iconst (v := 0) dX3_startLine_59 (by decide) ?_
    refine lc_istore_n [(2, .int (0)), (0, .ref (G.1 (4))), (1, .ref (G.1 (1)))] dX3_startLine_60 (by decide) rfl ?_
    refine lc_lv (lv' := [(0, .ref (G.1 (4))), (1, .ref (G.1 (1))), (2, .int (0))]) [1, 2, 0] rfl ?_
    refine lc_forI (α := lc_S) (fun i z => lc_V G Γ cX3_startLine 3 RX3 61 [(0, .ref (G.1 (4))), (1, .ref (G.1 (1))), (2, .int (nI i))] [] (lc_w z 0 ((((lc_cu (lc_cu (lc_cu x.1 7 0 (σ.2.1 10 0)) 7 1 0) 7 2 0, x.2)).1, (0 - σ.2.1 0 0), (0 - σ.2.1 0 1), (0 - σ.2.1 0 2))))) (fun _ _ => True) (sp_zr 3) 4 (fun _ _ _ _ => trivial) (fun i z hi hIi ki => ?_) ((sp_it (sp_cpo 6 9 (fun v => v)) 6 σ)) (trivial) (fun hIi => ?_)
    · skip
      show lc_V G Γ cX3_startLine 3 RX3 61 [(0, .ref (G.1 (4))), (1, .ref (G.1 (1))), (2, .int (nI i))] [] (lc_w z 0 ((((lc_cu (lc_cu (lc_cu x.1 7 0 (σ.2.1 10 0)) 7 1 0) 7 2 0, x.2)).1, (0 - σ.2.1 0 0), (0 - σ.2.1 0 1), (0 - σ.2.1 0 2))))
      refine lc_iload_n 2 dX3_startLine_61 rfl ?_
      refine lc_iconst (v := 4) dX3_startLine_62 (by decide) ?_
      refine lc_icmp_ge 79 dX3_startLine_63 (by decide) (fun h => absurd h.1 (by exact nI_ge (b := 4) hi (by omega))) (fun _ => ?_)
      refine lc_aload_n 0 dX3_startLine_66 rfl ?_
      refine lc_gWLat 0 (by omega) fl_X3_24 dX3_startLine_67 ?_
      refine lc_iload_n 2 dX3_startLine_70 rfl ?_
      refine lc_iconst (v := 0) dX3_startLine_71 (by decide) ?_
      refine lc_sw_lat0 0 i (by omega) (rfl) (by omega) dX3_startLine_72 ?_
      refine lc_iinc 2 (nI (i + 1)) [(2, .int (nI (i + 1))), (0, .ref (G.1 (4))), (1, .ref (G.1 (1)))] dX3_startLine_73 rfl (lc_inc1 i) (by decide) rfl ?_
      refine lc_goto 61 dX3_startLine_76 (by decide) ?_
      refine lc_lv (lv' := [(0, .ref (G.1 (4))), (1, .ref (G.1 (1))), (2, .int (nI (i + 1)))]) [1, 2, 0] rfl ?_
      rw [show (sp_zr 3) i z = (lc_uo z (3) i 0) from rfl] at ki
      exact ki
    · skip
      show lc_V G Γ cX3_startLine 3 RX3 61 [(0, .ref (G.1 (4))), (1, .ref (G.1 (1))), (2, .int (nI 4))] [] (lc_w ((sp_it (sp_zr 3) 4 (sp_it (sp_cpo 6 9 (fun v => v)) 6 σ))) 0 ((((lc_cu (lc_cu (lc_cu x.1 7 0 (σ.2.1 10 0)) 7 1 0) 7 2 0, x.2)).1, (0 - σ.2.1 0 0), (0 - σ.2.1 0 1), (0 - σ.2.1 0 2))))
      refine lc_iload_n 2 dX3_startLine_61 rfl ?_
      refine lc_iconst (v := 4) dX3_startLine_62 (by decide) ?_
      refine lc_icmp_ge 79 dX3_startLine_63 (by decide) (fun _ => ?_) (fun h => absurd h.1 (by exact nI_nlt (a := 4) (b := 4) (Nat.le_refl _) (by omega)))
      refine lc_iconst (v := 0) dX3_startLine_79 (by decide) ?_
      refine lc_istore_n [(2, .int (0)), (0, .ref (G.1 (4))), (1, .ref (G.1 (1)))] dX3_startLine_80 (by decide) rfl ?_
      refine lc_lv (lv' := [(0, .ref (G.1 (4))), (1, .ref (G.1 (1))), (2, .int (0))]) [1, 2, 0] rfl ?_
      refine lc_forI (α := lc_X) (fun i z => lc_V G Γ cX3_startLine 3 RX3 81 [(0, .ref (G.1 (4))), (1, .ref (G.1 (1))), (2, .int (nI i))] [] (lc_w ((sp_it (sp_zr 3) 4 (sp_it (sp_cpo 6 9 (fun v => v)) 6 σ))) 0 z)) (fun _ _ => True) (sp_nn) 24 (fun _ _ _ _ => trivial) (fun i z hi hIi ki => ?_) ((((lc_cu (lc_cu (lc_cu x.1 7 0 (σ.2.1 10 0)) 7 1 0) 7 2 0, x.2)).1, (0 - σ.2.1 0 0), (0 - σ.2.1 0 1), (0 - σ.2.1 0 2))) (trivial) (fun hIi => ?_)
      · skip
        show lc_V G Γ cX3_startLine 3 RX3 81 [(0, .ref (G.1 (4))), (1, .ref (G.1 (1))), (2, .int (nI i))] [] (lc_w ((sp_it (sp_zr 3) 4 (sp_it (sp_cpo 6 9 (fun v => v)) 6 σ))) 0 z)
        refine lc_iload_n 2 dX3_startLine_81 rfl ?_
        refine lc_aload_n 0 dX3_startLine_82 rfl ?_
        refine lc_gWIts 0 (by omega) fl_X3_20 dX3_startLine_83 ?_
        refine lc_ilen 0 (by omega) dX3_startLine_86 ?_
        refine lc_icmp_ge 105 dX3_startLine_87 (by decide) (fun h => absurd h.1 (by exact nI_ge (b := 24) hi (by omega))) (fun _ => ?_)
        refine lc_aload_n 0 dX3_startLine_90 rfl ?_
        refine lc_gWIts 0 (by omega) fl_X3_20 dX3_startLine_91 ?_
        refine lc_iload_n 2 dX3_startLine_94 rfl ?_
        refine lc_aald 0 i (by omega) (rfl) (by omega) dX3_startLine_95 ?_
        refine lc_callV (lc_it 0 i) (c_X0_becomeNothing l G ((sp_it (sp_zr 3) 4 (sp_it (sp_cpo 6 9 (fun v => v)) 6 σ))) 0 z i (by omega) (by omega)) hR.2.2.2.1 hR.2.2.2.2 mt_X0_becomeNothing (lc_it74 (by omega) (by omega)) (lc_ent_it G _ (by omega)) rfl ml_X3_55 rfl rfl (Nat.le_of_ble_eq_true rfl) ⟨⟨rfl, rfl⟩, Nat.le_of_ble_eq_true rfl, Nat.le_of_ble_eq_true rfl⟩ dX3_startLine_96 ?_
        show lc_V _ _ _ _ _ 99 _ [] (lc_w ((sp_it (sp_zr 3) 4 (sp_it (sp_cpo 6 9 (fun v => v)) 6 σ))) 0 ((sp_none z.1 i, z.2)))
        refine lc_iinc 2 (nI (i + 1)) [(2, .int (nI (i + 1))), (0, .ref (G.1 (4))), (1, .ref (G.1 (1)))] dX3_startLine_99 rfl (lc_inc1 i) (by decide) rfl ?_
        refine lc_goto 81 dX3_startLine_102 (by decide) ?_
        refine lc_lv (lv' := [(0, .ref (G.1 (4))), (1, .ref (G.1 (1))), (2, .int (nI (i + 1)))]) [1, 2, 0] rfl ?_
        rw [show (sp_nn) i z = (sp_none z.1 i, z.2) from rfl] at ki
        exact ki
      · skip
        show lc_V G Γ cX3_startLine 3 RX3 81 [(0, .ref (G.1 (4))), (1, .ref (G.1 (1))), (2, .int (nI 24))] [] (lc_w ((sp_it (sp_zr 3) 4 (sp_it (sp_cpo 6 9 (fun v => v)) 6 σ))) 0 ((sp_it sp_nn 24 ((((lc_cu (lc_cu (lc_cu x.1 7 0 (σ.2.1 10 0)) 7 1 0) 7 2 0, x.2)).1, (0 - σ.2.1 0 0), (0 - σ.2.1 0 1), (0 - σ.2.1 0 2))))))
        refine lc_iload_n 2 dX3_startLine_81 rfl ?_
        refine lc_aload_n 0 dX3_startLine_82 rfl ?_
        refine lc_gWIts 0 (by omega) fl_X3_20 dX3_startLine_83 ?_
        refine lc_ilen 0 (by omega) dX3_startLine_86 ?_
        refine lc_icmp_ge 105 dX3_startLine_87 (by decide) (fun _ => ?_) (fun h => absurd h.1 (by exact nI_nlt (a := 24) (b := 24) (Nat.le_refl _) (by omega)))
        refine lc_gh (σ' := (sp_line σ 0 3 6 (σ.2.1 9) (x.1 6) (σ.2.1 10 0))) (sp_line_sim σ x) ?_
        exact lc_vret hR dX3_startLine_105 (rfl)

theorem sp_trial_sim (σ : lc_S) (x : lc_X) : lc_sim (lc_w ((lc_ro σ 7 (va_cpy (σ.2.1 6) (σ.2.1 7) 0 0 6))) 1 (sp_it (sp_cpt (σ.1 0)) 24 ((lc_cr (((lc_cu (lc_cu (lc_cu x.1 7 0 (σ.1 0 7 0)) 7 1 (σ.1 0 7 1)) 7 2 (σ.1 0 7 2), x.2)).1) 6 (va_cpy (σ.1 0 6) ((((lc_cu (lc_cu (lc_cu x.1 7 0 (σ.1 0 7 0)) 7 1 (σ.1 0 7 1)) 7 2 (σ.1 0 7 2), x.2)).1) 6) 0 0 4), ((0 - σ.2.1 1 0), ((lc_cu (lc_cu (lc_cu x.1 7 0 (σ.1 0 7 0)) 7 1 (σ.1 0 7 1)) 7 2 (σ.1 0 7 2), x.2)).2.2.1, ((lc_cu (lc_cu (lc_cu x.1 7 0 (σ.1 0 7 0)) 7 1 (σ.1 0 7 1)) 7 2 (σ.1 0 7 2), x.2)).2.2.2))))) (lc_w (sp_trial (lc_w σ 1 x)) 1 (σ.1 0, 0, 0, 0)) := by
  have hn := sp_cpt_it (σ.1 0) ((lc_cr (((lc_cu (lc_cu (lc_cu x.1 7 0 (σ.1 0 7 0)) 7 1 (σ.1 0 7 1)) 7 2 (σ.1 0 7 2), x.2)).1) 6 (va_cpy (σ.1 0 6) ((((lc_cu (lc_cu (lc_cu x.1 7 0 (σ.1 0 7 0)) 7 1 (σ.1 0 7 1)) 7 2 (σ.1 0 7 2), x.2)).1) 6) 0 0 4), ((0 - σ.2.1 1 0), ((lc_cu (lc_cu (lc_cu x.1 7 0 (σ.1 0 7 0)) 7 1 (σ.1 0 7 1)) 7 2 (σ.1 0 7 2), x.2)).2.2.1, ((lc_cu (lc_cu (lc_cu x.1 7 0 (σ.1 0 7 0)) 7 1 (σ.1 0 7 1)) 7 2 (σ.1 0 7 2), x.2)).2.2.2))) 24
  generalize sp_it (sp_cpt (σ.1 0)) 24 ((lc_cr (((lc_cu (lc_cu (lc_cu x.1 7 0 (σ.1 0 7 0)) 7 1 (σ.1 0 7 1)) 7 2 (σ.1 0 7 2), x.2)).1) 6 (va_cpy (σ.1 0 6) ((((lc_cu (lc_cu (lc_cu x.1 7 0 (σ.1 0 7 0)) 7 1 (σ.1 0 7 1)) 7 2 (σ.1 0 7 2), x.2)).1) 6) 0 0 4), ((0 - σ.2.1 1 0), ((lc_cu (lc_cu (lc_cu x.1 7 0 (σ.1 0 7 0)) 7 1 (σ.1 0 7 1)) 7 2 (σ.1 0 7 2), x.2)).2.2.1, ((lc_cu (lc_cu (lc_cu x.1 7 0 (σ.1 0 7 0)) 7 1 (σ.1 0 7 1)) 7 2 (σ.1 0 7 2), x.2)).2.2.2))) = y at hn ⊢
  obtain ⟨hn1, hn2⟩ := hn
  have c6 : ∀ k, k < 6 → va_cpy (σ.2.1 6) (σ.2.1 7) 0 0 6 k = σ.2.1 6 k := fun k hk => sb_cpy0 hk
  have o1 : ∀ r k, r ≠ 1 → (lc_w (sp_trial (lc_w σ 1 x)) 1 (σ.1 0, 0, 0, 0)).2.1 r k = if r = 7 then σ.2.1 6 k else σ.2.1 r k := by
    intro r k h
    rw [lc_w_on _ _ h]
    unfold sp_trial lc_ro
    by_cases h7 : r = 7
    · subst h7; simp only [if_true]; rw [lc_w_on _ _ (by decide)]
    · simp only [h, h7, if_false]; rw [lc_w_on _ _ h]
  have o2 : ∀ r k, r ≠ 1 → k < 6 → (lc_w ((lc_ro σ 7 (va_cpy (σ.2.1 6) (σ.2.1 7) 0 0 6))) 1 y).2.1 r k = if r = 7 then σ.2.1 6 k else σ.2.1 r k := by
    intro r k h hk
    rw [lc_w_on _ _ h]
    unfold lc_ro
    by_cases h7 : r = 7
    · subst h7; simp only [if_true]; exact c6 k hk
    · simp only [h7, if_false]
  refine ⟨fun j f i hj hf hi => ?_, fun j i hj hi => ?_, fun j i hj hi => ?_, fun r i hr hi => ?_, fun r i h1 h2 hi => ?_, fun r i h1 h2 hi => ?_, fun i hi => ?_, fun i hi => ?_, fun i hi => ?_, fun i hi => ?_, rfl, rfl⟩
  · by_cases h : j = 1
    · subst h
      rw [lc_w_c, lc_w_c, hn2, if_pos ⟨hi, hf⟩]
    · rw [lc_w_cn _ _ h, lc_w_cn _ _ h]
      show σ.1 j f i = (lc_w σ 1 x).1 j f i
      rw [lc_w_cn _ _ h]
  · by_cases h : j = 1
    · subst h
      rw [lc_w_c, lc_w_c, hn2, if_neg (fun z => absurd z.2 (by decide))]
      exact sb_cpy0 hi
    · rw [lc_w_cn _ _ h, lc_w_cn _ _ h]
      show σ.1 j 6 i = (lc_w σ 1 x).1 j 6 i
      rw [lc_w_cn _ _ h]
  · by_cases h : j = 1
    · subst h
      rw [lc_w_c, lc_w_c, hn2, if_neg (fun z => absurd z.2 (by decide))]
      match i, hi with
      | 0, _ => rfl
      | 1, _ => rfl
      | 2, _ => rfl
    · rw [lc_w_cn _ _ h, lc_w_cn _ _ h]
      show σ.1 j 7 i = (lc_w σ 1 x).1 j 7 i
      rw [lc_w_cn _ _ h]
  · by_cases h : r = 1
    · subst h
      match i, hi with
      | 0, _ => rw [lc_w_o0, lc_w_o0, hn1]; exact (lc_cz _).symm
      | 1, _ => rw [lc_w_o1, lc_w_o1, hn1]; show σ.2.1 1 1 + x.2.2.1 = (lc_w σ 1 x).2.1 1 1 + 0; rw [lc_w_o1, Int32.add_zero]
      | 2, _ => rw [lc_w_o2, lc_w_o2, hn1]; show σ.2.1 1 2 + x.2.2.2 = (lc_w σ 1 x).2.1 1 2 + 0; rw [lc_w_o2, Int32.add_zero]
    · rw [o1 _ _ h, o2 _ _ h (by omega)]
  · rw [o1 _ _ (by omega), o2 _ _ (by omega) (by omega)]
  · rw [o1 _ _ (by omega), o2 _ _ (by omega) hi]
  · rw [o1 _ _ (by decide), o2 _ _ (by decide) (by omega)]
  · rw [o1 _ _ (by decide), o2 _ _ (by decide) hi]
  · rw [o1 _ _ (by decide), o2 _ _ (by decide) (by omega)]
  · rw [lc_w_on _ _ (by decide), lc_w_on _ _ (by decide)]
    show σ.2.1 13 i = (lc_w σ 1 x).2.1 13 i
    rw [lc_w_on _ _ (by decide)]

set_option maxRecDepth 100000 in
set_option maxHeartbeats 4000000 in
theorem c_X3_startTrial (l : Launch) (G : lc_G) (σ : lc_S) (x : lc_X) : lc_M l G yX3_startTrial cX3_startTrial 3 none { frames := 1, cells := 0, slots := 0, locals := 22 } [.ref (G.1 (5)), .ref (G.1 (4))] (lc_w σ 1 x) none (lc_w ((sp_trial (lc_w σ 1 x))) 1 ((σ.1 0, 0, 0, 0))) := by
  refine lc_entry [(0, .ref (G.1 (5))), (1, .ref (G.1 (4)))] (by decide) (Nat.le_of_ble_eq_true rfl) rfl rfl rfl ?_
  intro Γ hR
  refine lc_aload_n 0 dX3_startTrial_0 rfl ?_
  refine lc_aload_n 1 dX3_startTrial_1 rfl ?_
  refine lc_gWoSites fl_X3_34 dX3_startTrial_2 ?_
  refine lc_pWSites 1 (by omega) fl_X3_34 dX3_startTrial_5 ?_
  refine lc_aload_n 0 dX3_startTrial_8 rfl ?_
  refine lc_aload_n 1 dX3_startTrial_9 rfl ?_
  refine lc_gWoNow fl_X3_37 dX3_startTrial_10 ?_
  refine lc_pWNow 1 (by omega) fl_X3_37 dX3_startTrial_13 ?_
  refine lc_aload_n 0 dX3_startTrial_16 rfl ?_
  refine lc_aload_n 1 dX3_startTrial_17 rfl ?_
  refine lc_gWoOff fl_X3_40 dX3_startTrial_18 ?_
  refine lc_pWOff 1 (by omega) fl_X3_40 dX3_startTrial_21 ?_
  refine lc_aload_n 0 dX3_startTrial_24 rfl ?_
  refine lc_iconst (v := 0) dX3_startTrial_25 (by decide) ?_
  refine lc_pWTra 1 ((0 - σ.2.1 1 0)) (lc_cz _) (by omega) fl_X3_43 dX3_startTrial_26 ?_
  refine lc_eq (σ' := lc_w σ 1 ((((lc_cu (lc_cu (lc_cu x.1 7 0 (σ.1 0 7 0)) 7 1 (σ.1 0 7 1)) 7 2 (σ.1 0 7 2), x.2)).1, (0 - σ.2.1 1 0), ((lc_cu (lc_cu (lc_cu x.1 7 0 (σ.1 0 7 0)) 7 1 (σ.1 0 7 1)) 7 2 (σ.1 0 7 2), x.2)).2.2.1, ((lc_cu (lc_cu (lc_cu x.1 7 0 (σ.1 0 7 0)) 7 1 (σ.1 0 7 1)) 7 2 (σ.1 0 7 2), x.2)).2.2.2))) rfl ?_
  refine lc_aload_n 1 dX3_startTrial_29 rfl ?_
  refine lc_gWLim 0 (by omega) fl_X3_9 dX3_startTrial_30 ?_
  refine lc_iconst (v := 0) dX3_startTrial_33 (by decide) ?_
  refine lc_aload_n 0 dX3_startTrial_34 rfl ?_
  refine lc_gWLim 1 (by omega) fl_X3_9 dX3_startTrial_35 ?_
  refine lc_iconst (v := 0) dX3_startTrial_38 (by decide) ?_
  refine lc_aload_n 0 dX3_startTrial_39 rfl ?_
  refine lc_gWLim 1 (by omega) fl_X3_9 dX3_startTrial_40 ?_
  refine lc_alen (7) (by omega) (lc_eLim 1 (by omega)) dX3_startTrial_43 ?_
  refine lc_copyLim rfl (by rw [hR.2.2.2.2]; exact ⟨Nat.le_of_ble_eq_true rfl, Nat.le_of_ble_eq_true rfl⟩) dX3_startTrial_44 ?_
  refine lc_aload_n 1 dX3_startTrial_47 rfl ?_
  refine lc_gWPos 0 (by omega) fl_X3_15 dX3_startTrial_48 ?_
  refine lc_iconst (v := 0) dX3_startTrial_51 (by decide) ?_
  refine lc_aload_n 0 dX3_startTrial_52 rfl ?_
  refine lc_gWPos 1 (by omega) fl_X3_15 dX3_startTrial_53 ?_
  refine lc_iconst (v := 0) dX3_startTrial_56 (by decide) ?_
  refine lc_bipush (v := 6) dX3_startTrial_57 (by decide) ?_
  refine lc_copyPos rfl (by rw [hR.2.2.2.2]; exact ⟨Nat.le_of_ble_eq_true rfl, Nat.le_of_ble_eq_true rfl⟩) dX3_startTrial_59 ?_
  refine lc_iconst (v := 0) dX3_startTrial_62 (by decide) ?_
  refine lc_istore_n [(2, .int (0)), (0, .ref (G.1 (5))), (1, .ref (G.1 (4)))] dX3_startTrial_63 (by decide) rfl ?_
  refine lc_lv (lv' := [(0, .ref (G.1 (5))), (1, .ref (G.1 (4))), (2, .int (0))]) [1, 2, 0] rfl ?_
  refine lc_forI (α := lc_X) (fun i z => lc_V G Γ cX3_startTrial 3 RX3 64 [(0, .ref (G.1 (5))), (1, .ref (G.1 (4))), (2, .int (nI i))] [] (lc_w ((lc_ro σ 7 (va_cpy (σ.2.1 6) (σ.2.1 7) 0 0 6))) 1 z)) (fun _ _ => True) (sp_cpt (σ.1 0)) 24 (fun _ _ _ _ => trivial) (fun i z hi hIi ki => ?_) ((lc_cr (((lc_cu (lc_cu (lc_cu x.1 7 0 (σ.1 0 7 0)) 7 1 (σ.1 0 7 1)) 7 2 (σ.1 0 7 2), x.2)).1) 6 (va_cpy (σ.1 0 6) ((((lc_cu (lc_cu (lc_cu x.1 7 0 (σ.1 0 7 0)) 7 1 (σ.1 0 7 1)) 7 2 (σ.1 0 7 2), x.2)).1) 6) 0 0 4), ((0 - σ.2.1 1 0), ((lc_cu (lc_cu (lc_cu x.1 7 0 (σ.1 0 7 0)) 7 1 (σ.1 0 7 1)) 7 2 (σ.1 0 7 2), x.2)).2.2.1, ((lc_cu (lc_cu (lc_cu x.1 7 0 (σ.1 0 7 0)) 7 1 (σ.1 0 7 1)) 7 2 (σ.1 0 7 2), x.2)).2.2.2))) (trivial) (fun hIi => ?_)
  · skip
    show lc_V G Γ cX3_startTrial 3 RX3 64 [(0, .ref (G.1 (5))), (1, .ref (G.1 (4))), (2, .int (nI i))] [] (lc_w ((lc_ro σ 7 (va_cpy (σ.2.1 6) (σ.2.1 7) 0 0 6))) 1 z)
    refine lc_iload_n 2 dX3_startTrial_64 rfl ?_
    refine lc_aload_n 0 dX3_startTrial_65 rfl ?_
    refine lc_gWIts 1 (by omega) fl_X3_20 dX3_startTrial_66 ?_
    refine lc_ilen 1 (by omega) dX3_startTrial_69 ?_
    refine lc_icmp_ge 103 dX3_startTrial_70 (by decide) (fun h => absurd h.1 (by exact nI_ge (b := 24) hi (by omega))) (fun _ => ?_)
    refine lc_aload_n 0 dX3_startTrial_73 rfl ?_
    refine lc_gWIts 1 (by omega) fl_X3_20 dX3_startTrial_74 ?_
    refine lc_iload_n 2 dX3_startTrial_77 rfl ?_
    refine lc_aald 1 i (by omega) (rfl) (by omega) dX3_startTrial_78 ?_
    refine lc_aload_n 1 dX3_startTrial_79 rfl ?_
    refine lc_gWIts 0 (by omega) fl_X3_20 dX3_startTrial_80 ?_
    refine lc_iload_n 2 dX3_startTrial_83 rfl ?_
    refine lc_aald 0 i (by omega) (rfl) (by omega) dX3_startTrial_84 ?_
    refine lc_aload_n 1 dX3_startTrial_85 rfl ?_
    refine lc_gWIts 0 (by omega) fl_X3_20 dX3_startTrial_86 ?_
    refine lc_iload_n 2 dX3_startTrial_89 rfl ?_
    refine lc_aald 0 i (by omega) (rfl) (by omega) dX3_startTrial_90 ?_
    refine lc_gIo i 5 (by omega) (by decide) fl_X3_64 dX3_startTrial_91 ?_
    refine lc_callV (lc_it 1 i) (c_X0_becomeCopy_t l G ((lc_ro σ 7 (va_cpy (σ.2.1 6) (σ.2.1 7) 0 0 6))) z i i (by omega) (by omega) (((lc_ro σ 7 (va_cpy (σ.2.1 6) (σ.2.1 7) 0 0 6))).1 0 5 i)) hR.2.2.2.1 hR.2.2.2.2 mt_X0_becomeCopy (lc_it74 (by omega) (by omega)) (lc_ent_it G _ (by omega)) rfl ml_X3_67 rfl rfl (Nat.le_of_ble_eq_true rfl) ⟨⟨rfl, rfl⟩, Nat.le_of_ble_eq_true rfl, Nat.le_of_ble_eq_true rfl⟩ dX3_startTrial_94 ?_
    show lc_V _ _ _ _ _ 97 _ [] (lc_w ((lc_ro σ 7 (va_cpy (σ.2.1 6) (σ.2.1 7) 0 0 6))) 1 ((sp_copy z.1 i (((lc_ro σ 7 (va_cpy (σ.2.1 6) (σ.2.1 7) 0 0 6))).1 0) i (((lc_ro σ 7 (va_cpy (σ.2.1 6) (σ.2.1 7) 0 0 6))).1 0 5 i), z.2)))
    refine lc_iinc 2 (nI (i + 1)) [(2, .int (nI (i + 1))), (0, .ref (G.1 (5))), (1, .ref (G.1 (4)))] dX3_startTrial_97 rfl (lc_inc1 i) (by decide) rfl ?_
    refine lc_goto 64 dX3_startTrial_100 (by decide) ?_
    refine lc_lv (lv' := [(0, .ref (G.1 (5))), (1, .ref (G.1 (4))), (2, .int (nI (i + 1)))]) [1, 2, 0] rfl ?_
    rw [show (sp_cpt (σ.1 0)) i z = (sp_copy z.1 i (((lc_ro σ 7 (va_cpy (σ.2.1 6) (σ.2.1 7) 0 0 6))).1 0) i (((lc_ro σ 7 (va_cpy (σ.2.1 6) (σ.2.1 7) 0 0 6))).1 0 5 i), z.2) from rfl] at ki
    exact ki
  · skip
    show lc_V G Γ cX3_startTrial 3 RX3 64 [(0, .ref (G.1 (5))), (1, .ref (G.1 (4))), (2, .int (nI 24))] [] (lc_w ((lc_ro σ 7 (va_cpy (σ.2.1 6) (σ.2.1 7) 0 0 6))) 1 ((sp_it (sp_cpt (σ.1 0)) 24 ((lc_cr (((lc_cu (lc_cu (lc_cu x.1 7 0 (σ.1 0 7 0)) 7 1 (σ.1 0 7 1)) 7 2 (σ.1 0 7 2), x.2)).1) 6 (va_cpy (σ.1 0 6) ((((lc_cu (lc_cu (lc_cu x.1 7 0 (σ.1 0 7 0)) 7 1 (σ.1 0 7 1)) 7 2 (σ.1 0 7 2), x.2)).1) 6) 0 0 4), ((0 - σ.2.1 1 0), ((lc_cu (lc_cu (lc_cu x.1 7 0 (σ.1 0 7 0)) 7 1 (σ.1 0 7 1)) 7 2 (σ.1 0 7 2), x.2)).2.2.1, ((lc_cu (lc_cu (lc_cu x.1 7 0 (σ.1 0 7 0)) 7 1 (σ.1 0 7 1)) 7 2 (σ.1 0 7 2), x.2)).2.2.2))))))
    refine lc_iload_n 2 dX3_startTrial_64 rfl ?_
    refine lc_aload_n 0 dX3_startTrial_65 rfl ?_
    refine lc_gWIts 1 (by omega) fl_X3_20 dX3_startTrial_66 ?_
    refine lc_ilen 1 (by omega) dX3_startTrial_69 ?_
    refine lc_icmp_ge 103 dX3_startTrial_70 (by decide) (fun _ => ?_) (fun h => absurd h.1 (by exact nI_nlt (a := 24) (b := 24) (Nat.le_refl _) (by omega)))
    refine lc_gh (σ' := lc_w (sp_trial (lc_w σ 1 x)) 1 (σ.1 0, 0, 0, 0)) (sp_trial_sim σ x) ?_
    exact lc_vret hR dX3_startTrial_103 (rfl)
end
section
/-! pure words of the class's own calls -/
def sp_win (v lo hi : Int32) : Bool := decide (lo ≤ v) && decide (v ≤ hi)
def sp_key (k : Int32) : Bool := decide (0 ≤ k) && decide (k < 4)
theorem sp_rng_nat {v lo hi : Int32} {a b : Nat} (ha : lo.toInt = a) (hb : hi.toInt = b) (h1 : lo ≤ v) (h2 : v ≤ hi) : ∃ k : Nat, a ≤ k ∧ k ≤ b ∧ v = nI k := by
  have e1 := Int32.le_iff_toInt_le.mp h1
  have e2 := Int32.le_iff_toInt_le.mp h2
  have h0 : ¬ v < 0 := by
    intro z
    have e3 := Int32.lt_iff_toInt_lt.mp z
    have e4 : (0 : Int32).toInt = 0 := by decide
    omega
  obtain ⟨j, hj, rfl⟩ := nI_of h0
  rw [nI_toInt hj] at e1 e2
  exact ⟨j, by omega, by omega, rfl⟩
theorem sp_site_nat {B : lc_C} {s : Int32} {n : Nat} (hn : n ≤ 6) (hs : B 7 0 = nI n) (h : sp_site B s = true) : ∃ a, a < n ∧ s = nI a := by
  unfold sp_site at h
  rw [Bool.and_eq_true, decide_eq_true_eq, decide_eq_true_eq, hs] at h
  obtain ⟨j, hj, rfl⟩ := nI_of (fun z => absurd z (Int32.not_lt.mpr h.1))
  exact ⟨j, (nI_ltI hj (by omega)).mp h.2, rfl⟩
theorem sp_key_nat {k : Int32} (h : sp_key k = true) : ∃ a, a < 4 ∧ k = nI a := by
  unfold sp_key at h
  rw [Bool.and_eq_true, decide_eq_true_eq, decide_eq_true_eq] at h
  obtain ⟨j, hj, rfl⟩ := nI_of (fun z => absurd z (Int32.not_lt.mpr h.1))
  exact ⟨j, (nI_ltI (b := 4) hj (by omega)).mp h.2, rfl⟩
def sp_letter (σ : lc_S) (rc rl p : Nat) (code : Int32) : Int32 × lc_S := if sp_win code 32 126 = false then (-1002, σ) else if p = 6 then (-1004, σ) else (nI (p + 1), lc_uo (lc_uo σ rc p code) rl 0 (nI (p + 1)))
def sp_set (n : Nat) (x : lc_X) (what v : Int32) : Int32 × lc_X := if sp_win what 0 3 = false then (-1002, x) else if sp_win v (lc_least what.toNatClampNeg) (lc_most what.toNatClampNeg) = false then (-1002, x) else (x.1 6 what.toNatClampNeg, (sp_drop n (lc_cu x.1 6 what.toNatClampNeg v, x.2)).2)
def sp_put (full : Bool) (n : Nat) (x : lc_X) (s k v : Int32) : Int32 × lc_X := if (sp_site x.1 s && sp_key k) = false then (-1001, x) else if sp_win v 0 9 = false then (-1002, x) else if sp_bit (x.1 7 2) s = true then (-1003, x) else if full = true then (-1004, x) else sp_putV n x s.toNatClampNeg k.toNatClampNeg v
/-- what remove() does to the rest: the latest removal -/
def sp_remo (full : Bool) (kp : Int32) (rl j n : Nat) (σ : lc_S) (x : lc_X) (s k m : Int32) : Int32 × lc_S := if (sp_site x.1 s && sp_key k) = false then (-1001, lc_w σ j x) else if sp_win m 1 3 = false then (-1002, lc_w σ j x) else if (sp_bit (x.1 7 2) s || !decide (x.1 0 (4 * s.toNatClampNeg + k.toNatClampNeg) = 1)) = true then (-1003, lc_w σ j x) else if full = true then (-1004, lc_w σ j x) else ((sp_remV n x s.toNatClampNeg k.toNatClampNeg kp).1, lc_w (lc_uo σ rl k.toNatClampNeg ((sp_adv n x 1).2.1 7 1)) j (sp_remV n x s.toNatClampNeg k.toNatClampNeg kp).2)
def sp_pass (full : Bool) (n : Nat) (x : lc_X) (d : Int32) : Int32 × lc_X := if sp_win d 1 300 = false then (-1002, x) else if x.1 7 0 = 0 then (-1003, x) else if full = true then (-1004, x) else sp_adv n x d
def sp_off (x : lc_X) (s : Int32) (b : Bool) : Int32 × lc_X := if sp_site x.1 s = false then (-1001, x) else (lc_bi (sp_bit (x.1 7 2) s), (lc_cu x.1 7 2 (if b = true then x.1 7 2 ||| ((1 : Int32) <<< (s &&& 31)) else x.1 7 2 &&& (((1 : Int32) <<< (s &&& 31)) ^^^ (-1))), x.2))
def sp_pair (B : lc_C) (a b : Int32) : Int32 := if (sp_site B a && sp_site B b && !decide (a = b)) = false then -1001 else if (sp_bit (B 7 2) a || sp_bit (B 7 2) b) = true then -1003 else 0
def sp_exch (cmp : lc_X → Nat → Nat → Int32 × lc_X) (x : lc_X) (a b : Int32) : Int32 × lc_X := if sp_pair x.1 a b = 0 then cmp x a.toNatClampNeg b.toNatClampNeg else (sp_pair x.1 a b, x)
def sp_hasv (B : lc_C) (i w : Nat) : Int32 := if w = 5 then lc_bi (sp_dor B i) else if w = 6 then B 5 i else B w i
def sp_has (B : lc_C) (s k w : Int32) : Int32 := if (sp_site B s && sp_key k) = false then -1001 else if sp_win w 0 6 = false then -1002 else sp_hasv B (4 * s.toNatClampNeg + k.toNatClampNeg) w.toNatClampNeg
def sp_newest (B : lc_C) (s kind : Int32) : Int32 := if sp_site B s = false then -1001 else if sp_win kind 0 2 = false then -1002 else sp_on (sp_nks B s.toNatClampNeg kind)
def sp_alk (al : lc_C → Nat → Nat → Bool) (B : lc_C) (a b : Int32) : Int32 := if (sp_site B a && sp_site B b) = false then -1001 else lc_bi (al B a.toNatClampNeg b.toNatClampNeg)
def sp_risen (B : lc_C) (lat : Nat → Int32) (n : Nat) (k : Int32) : Int32 := if sp_key k = false then -1001 else sp_rss B lat k.toNatClampNeg n
def sp_pnr (B : lc_C) (pos : Nat → Int32) (n : Nat) (s seed w : Int32) : Int32 := if sp_site B s = false then -1001 else if (decide (0 ≤ seed) && sp_win w 0 1) = false then -1002 else if w = 0 then (if sp_othOn B s = 0 then sp_partC B pos s.toNatClampNeg n seed else sp_partC B pos s.toNatClampNeg n (sp_next seed)) else (if sp_othOn B s = 0 then seed else sp_next seed)
def sp_cntv (σ : lc_S) (x : lc_X) (j rl : Nat) (w : Nat) : Int32 := match w with
  | 0 => σ.2.1 rl 0
  | 1 => x.1 7 0
  | 2 => x.1 7 1
  | 3 => x.1 7 2
  | 4 => σ.2.1 j 0 + x.2.1
  | 5 => σ.2.1 j 1 + x.2.2.1
  | 6 => σ.2.1 j 2 + x.2.2.2
  | 7 => x.1 6 0
  | 8 => x.1 6 1
  | 9 => x.1 6 2
  | 10 => x.1 6 3
  | 11 => σ.2.1 rl 1
  | _ => -1002
def sp_count (σ : lc_S) (x : lc_X) (j rl : Nat) (w : Int32) : Int32 := if sp_win w 0 11 = false then -1002 else sp_cntv σ x j rl w.toNatClampNeg
def sp_mx (h : Int64) (r : Int32) : Int64 := 31 * h + r.toInt64
def sp_ksh (B : lc_C) (s k : Nat) (h : Int64) : Int64 := sp_it (fun w h => sp_mx h (sp_hasv B (4 * s + k) w)) 7 h
def sp_msh (al : lc_C → Nat → Nat → Bool) (B : lc_C) (n s : Nat) (h : Int64) : Int64 := sp_it (fun o h => sp_mx h (lc_bi (al B s o))) n (sp_it (fun kd h => sp_mx h (sp_on (sp_nks B s (nI kd)))) 3 (sp_it (sp_ksh B s) 4 h))
theorem sp_win_out {v lo hi : Int32} (h : v < lo ∨ hi < v) : sp_win v lo hi = false := by
  unfold sp_win
  rcases h with h | h
  · rw [decide_eq_false (Int32.not_le.mpr h)]; rfl
  · rw [decide_eq_false (p := v ≤ hi) (Int32.not_le.mpr h), Bool.and_false]
theorem sp_win_in {a lo hi : Nat} (h1 : lo ≤ a) (h2 : a ≤ hi) (hb : hi < 2 ^ 31) : sp_win (nI a) (nI lo) (nI hi) = true := by
  unfold sp_win
  rw [decide_eq_true (nI_le h1 (by omega)), decide_eq_true (nI_le h2 hb)]
  rfl
end
section
theorem dX4_init_0 : decode cX4_init 0 = .ok (.aload_n 0, 1) := by decide +kernel
theorem dX4_init_1 : decode cX4_init 1 = .ok (.invokespecial 1, 3) := by decide +kernel
theorem dX4_init_4 : decode cX4_init 4 = .ok (.aload_n 0, 1) := by decide +kernel
theorem dX4_init_5 : decode cX4_init 5 = .ok (.new 7, 3) := by decide +kernel
theorem dX4_init_8 : decode cX4_init 8 = .ok (.dup, 1) := by decide +kernel
theorem dX4_init_9 : decode cX4_init 9 = .ok (.invokespecial 9, 3) := by decide +kernel
theorem dX4_init_12 : decode cX4_init 12 = .ok (.putfield 10, 3) := by decide +kernel
theorem dX4_init_15 : decode cX4_init 15 = .ok (.aload_n 0, 1) := by decide +kernel
theorem dX4_init_16 : decode cX4_init 16 = .ok (.new 16, 3) := by decide +kernel
theorem dX4_init_19 : decode cX4_init 19 = .ok (.dup, 1) := by decide +kernel
theorem dX4_init_20 : decode cX4_init 20 = .ok (.invokespecial 18, 3) := by decide +kernel
theorem dX4_init_23 : decode cX4_init 23 = .ok (.putfield 19, 3) := by decide +kernel
theorem dX4_init_26 : decode cX4_init 26 = .ok (.aload_n 0, 1) := by decide +kernel
theorem dX4_init_27 : decode cX4_init 27 = .ok (.new 23, 3) := by decide +kernel
theorem dX4_init_30 : decode cX4_init 30 = .ok (.dup, 1) := by decide +kernel
theorem dX4_init_31 : decode cX4_init 31 = .ok (.invokespecial 25, 3) := by decide +kernel
theorem dX4_init_34 : decode cX4_init 34 = .ok (.putfield 26, 3) := by decide +kernel
theorem dX4_init_37 : decode cX4_init 37 = .ok (.return_, 1) := by decide +kernel
theorem dX4_letter_0 : decode cX4_letter 0 = .ok (.iload_n 1, 1) := by decide +kernel
theorem dX4_letter_1 : decode cX4_letter 1 = .ok (.bipush 32, 2) := by decide +kernel
theorem dX4_letter_3 : decode cX4_letter 3 = .ok (.if_icmp .lt 9, 3) := by decide +kernel
theorem dX4_letter_6 : decode cX4_letter 6 = .ok (.iload_n 1, 1) := by decide +kernel
theorem dX4_letter_7 : decode cX4_letter 7 = .ok (.bipush 126, 2) := by decide +kernel
theorem dX4_letter_9 : decode cX4_letter 9 = .ok (.if_icmp .le 7, 3) := by decide +kernel
theorem dX4_letter_12 : decode cX4_letter 12 = .ok (.sipush (-1002), 3) := by decide +kernel
theorem dX4_letter_15 : decode cX4_letter 15 = .ok (.ireturn, 1) := by decide +kernel
theorem dX4_letter_16 : decode cX4_letter 16 = .ok (.aload_n 0, 1) := by decide +kernel
theorem dX4_letter_17 : decode cX4_letter 17 = .ok (.getfield 10, 3) := by decide +kernel
theorem dX4_letter_20 : decode cX4_letter 20 = .ok (.getfield 30, 3) := by decide +kernel
theorem dX4_letter_23 : decode cX4_letter 23 = .ok (.bipush 6, 2) := by decide +kernel
theorem dX4_letter_25 : decode cX4_letter 25 = .ok (.if_icmp .lt 7, 3) := by decide +kernel
theorem dX4_letter_28 : decode cX4_letter 28 = .ok (.sipush (-1004), 3) := by decide +kernel
theorem dX4_letter_31 : decode cX4_letter 31 = .ok (.ireturn, 1) := by decide +kernel
theorem dX4_letter_32 : decode cX4_letter 32 = .ok (.aload_n 0, 1) := by decide +kernel
theorem dX4_letter_33 : decode cX4_letter 33 = .ok (.getfield 10, 3) := by decide +kernel
theorem dX4_letter_36 : decode cX4_letter 36 = .ok (.iload_n 1, 1) := by decide +kernel
theorem dX4_letter_37 : decode cX4_letter 37 = .ok (.invokevirtual 34, 3) := by decide +kernel
theorem dX4_letter_40 : decode cX4_letter 40 = .ok (.aload_n 0, 1) := by decide +kernel
theorem dX4_letter_41 : decode cX4_letter 41 = .ok (.getfield 10, 3) := by decide +kernel
theorem dX4_letter_44 : decode cX4_letter 44 = .ok (.getfield 30, 3) := by decide +kernel
theorem dX4_letter_47 : decode cX4_letter 47 = .ok (.ireturn, 1) := by decide +kernel
theorem dX4_blank_0 : decode cX4_blank 0 = .ok (.aload_n 0, 1) := by decide +kernel
theorem dX4_blank_1 : decode cX4_blank 1 = .ok (.getfield 10, 3) := by decide +kernel
theorem dX4_blank_4 : decode cX4_blank 4 = .ok (.getfield 30, 3) := by decide +kernel
theorem dX4_blank_7 : decode cX4_blank 7 = .ok (.istore_n 1, 1) := by decide +kernel
theorem dX4_blank_8 : decode cX4_blank 8 = .ok (.aload_n 0, 1) := by decide +kernel
theorem dX4_blank_9 : decode cX4_blank 9 = .ok (.getfield 10, 3) := by decide +kernel
theorem dX4_blank_12 : decode cX4_blank 12 = .ok (.iconst 0, 1) := by decide +kernel
theorem dX4_blank_13 : decode cX4_blank 13 = .ok (.putfield 30, 3) := by decide +kernel
theorem dX4_blank_16 : decode cX4_blank 16 = .ok (.iload_n 1, 1) := by decide +kernel
theorem dX4_blank_17 : decode cX4_blank 17 = .ok (.ireturn, 1) := by decide +kernel
theorem dX4_fault_0 : decode cX4_fault 0 = .ok (.aload_n 0, 1) := by decide +kernel
theorem dX4_fault_1 : decode cX4_fault 1 = .ok (.getfield 10, 3) := by decide +kernel
theorem dX4_fault_4 : decode cX4_fault 4 = .ok (.invokevirtual 38, 3) := by decide +kernel
theorem dX4_fault_7 : decode cX4_fault 7 = .ok (.ireturn, 1) := by decide +kernel
theorem dX4_line_0 : decode cX4_line 0 = .ok (.aload_n 0, 1) := by decide +kernel
theorem dX4_line_1 : decode cX4_line 1 = .ok (.getfield 10, 3) := by decide +kernel
theorem dX4_line_4 : decode cX4_line 4 = .ok (.invokevirtual 42, 3) := by decide +kernel
theorem dX4_line_7 : decode cX4_line 7 = .ok (.ifCond .ne 7, 3) := by decide +kernel
theorem dX4_line_10 : decode cX4_line 10 = .ok (.sipush (-1003), 3) := by decide +kernel
theorem dX4_line_13 : decode cX4_line 13 = .ok (.ireturn, 1) := by decide +kernel
theorem dX4_line_14 : decode cX4_line 14 = .ok (.aload_n 0, 1) := by decide +kernel
theorem dX4_line_15 : decode cX4_line 15 = .ok (.getfield 19, 3) := by decide +kernel
theorem dX4_line_18 : decode cX4_line 18 = .ok (.aload_n 0, 1) := by decide +kernel
theorem dX4_line_19 : decode cX4_line 19 = .ok (.getfield 10, 3) := by decide +kernel
theorem dX4_line_22 : decode cX4_line 22 = .ok (.invokevirtual 46, 3) := by decide +kernel
theorem dX4_line_25 : decode cX4_line 25 = .ok (.aload_n 0, 1) := by decide +kernel
theorem dX4_line_26 : decode cX4_line 26 = .ok (.getfield 10, 3) := by decide +kernel
theorem dX4_line_29 : decode cX4_line 29 = .ok (.iconst 0, 1) := by decide +kernel
theorem dX4_line_30 : decode cX4_line 30 = .ok (.putfield 30, 3) := by decide +kernel
theorem dX4_line_33 : decode cX4_line 33 = .ok (.aload_n 0, 1) := by decide +kernel
theorem dX4_line_34 : decode cX4_line 34 = .ok (.dup, 1) := by decide +kernel
theorem dX4_line_35 : decode cX4_line 35 = .ok (.getfield 50, 3) := by decide +kernel
theorem dX4_line_38 : decode cX4_line 38 = .ok (.iconst 1, 1) := by decide +kernel
theorem dX4_line_39 : decode cX4_line 39 = .ok (.iadd, 1) := by decide +kernel
theorem dX4_line_40 : decode cX4_line 40 = .ok (.putfield 50, 3) := by decide +kernel
theorem dX4_line_43 : decode cX4_line 43 = .ok (.aload_n 0, 1) := by decide +kernel
theorem dX4_line_44 : decode cX4_line 44 = .ok (.getfield 19, 3) := by decide +kernel
theorem dX4_line_47 : decode cX4_line 47 = .ok (.getfield 53, 3) := by decide +kernel
theorem dX4_line_50 : decode cX4_line 50 = .ok (.ireturn, 1) := by decide +kernel
theorem dX4_set_0 : decode cX4_set 0 = .ok (.iload_n 1, 1) := by decide +kernel
theorem dX4_set_1 : decode cX4_set 1 = .ok (.ifCond .lt 8, 3) := by decide +kernel
theorem dX4_set_4 : decode cX4_set 4 = .ok (.iload_n 1, 1) := by decide +kernel
theorem dX4_set_5 : decode cX4_set 5 = .ok (.iconst 3, 1) := by decide +kernel
theorem dX4_set_6 : decode cX4_set 6 = .ok (.if_icmp .le 7, 3) := by decide +kernel
theorem dX4_set_9 : decode cX4_set 9 = .ok (.sipush (-1002), 3) := by decide +kernel
theorem dX4_set_12 : decode cX4_set 12 = .ok (.ireturn, 1) := by decide +kernel
theorem dX4_set_13 : decode cX4_set 13 = .ok (.iload_n 2, 1) := by decide +kernel
theorem dX4_set_14 : decode cX4_set 14 = .ok (.getstatic 56, 3) := by decide +kernel
theorem dX4_set_17 : decode cX4_set 17 = .ok (.iload_n 1, 1) := by decide +kernel
theorem dX4_set_18 : decode cX4_set 18 = .ok (.iaload, 1) := by decide +kernel
theorem dX4_set_19 : decode cX4_set 19 = .ok (.if_icmp .lt 12, 3) := by decide +kernel
theorem dX4_set_22 : decode cX4_set 22 = .ok (.iload_n 2, 1) := by decide +kernel
theorem dX4_set_23 : decode cX4_set 23 = .ok (.getstatic 60, 3) := by decide +kernel
theorem dX4_set_26 : decode cX4_set 26 = .ok (.iload_n 1, 1) := by decide +kernel
theorem dX4_set_27 : decode cX4_set 27 = .ok (.iaload, 1) := by decide +kernel
theorem dX4_set_28 : decode cX4_set 28 = .ok (.if_icmp .le 7, 3) := by decide +kernel
theorem dX4_set_31 : decode cX4_set 31 = .ok (.sipush (-1002), 3) := by decide +kernel
theorem dX4_set_34 : decode cX4_set 34 = .ok (.ireturn, 1) := by decide +kernel
theorem dX4_set_35 : decode cX4_set 35 = .ok (.aload_n 0, 1) := by decide +kernel
theorem dX4_set_36 : decode cX4_set 36 = .ok (.getfield 19, 3) := by decide +kernel
theorem dX4_set_39 : decode cX4_set 39 = .ok (.getfield 63, 3) := by decide +kernel
theorem dX4_set_42 : decode cX4_set 42 = .ok (.iload_n 1, 1) := by decide +kernel
theorem dX4_set_43 : decode cX4_set 43 = .ok (.iaload, 1) := by decide +kernel
theorem dX4_set_44 : decode cX4_set 44 = .ok (.istore_n 3, 1) := by decide +kernel
theorem dX4_set_45 : decode cX4_set 45 = .ok (.aload_n 0, 1) := by decide +kernel
theorem dX4_set_46 : decode cX4_set 46 = .ok (.getfield 19, 3) := by decide +kernel
theorem dX4_set_49 : decode cX4_set 49 = .ok (.getfield 63, 3) := by decide +kernel
theorem dX4_set_52 : decode cX4_set 52 = .ok (.iload_n 1, 1) := by decide +kernel
theorem dX4_set_53 : decode cX4_set 53 = .ok (.iload_n 2, 1) := by decide +kernel
theorem dX4_set_54 : decode cX4_set 54 = .ok (.iastore, 1) := by decide +kernel
theorem dX4_set_55 : decode cX4_set 55 = .ok (.aload_n 0, 1) := by decide +kernel
theorem dX4_set_56 : decode cX4_set 56 = .ok (.getfield 19, 3) := by decide +kernel
theorem dX4_set_59 : decode cX4_set 59 = .ok (.invokevirtual 66, 3) := by decide +kernel
theorem dX4_set_62 : decode cX4_set 62 = .ok (.pop, 1) := by decide +kernel
theorem dX4_set_63 : decode cX4_set 63 = .ok (.iload_n 3, 1) := by decide +kernel
theorem dX4_set_64 : decode cX4_set 64 = .ok (.ireturn, 1) := by decide +kernel
theorem dX4_put_0 : decode cX4_put 0 = .ok (.aload_n 0, 1) := by decide +kernel
theorem dX4_put_1 : decode cX4_put 1 = .ok (.getfield 19, 3) := by decide +kernel
theorem dX4_put_4 : decode cX4_put 4 = .ok (.iload_n 1, 1) := by decide +kernel
theorem dX4_put_5 : decode cX4_put 5 = .ok (.invokevirtual 69, 3) := by decide +kernel
theorem dX4_put_8 : decode cX4_put 8 = .ok (.ifCond .eq 10, 3) := by decide +kernel
theorem dX4_put_11 : decode cX4_put 11 = .ok (.iload_n 2, 1) := by decide +kernel
theorem dX4_put_12 : decode cX4_put 12 = .ok (.invokestatic 73, 3) := by decide +kernel
theorem dX4_put_15 : decode cX4_put 15 = .ok (.ifCond .ne 7, 3) := by decide +kernel
theorem dX4_put_18 : decode cX4_put 18 = .ok (.sipush (-1001), 3) := by decide +kernel
theorem dX4_put_21 : decode cX4_put 21 = .ok (.ireturn, 1) := by decide +kernel
theorem dX4_put_22 : decode cX4_put 22 = .ok (.iload_n 3, 1) := by decide +kernel
theorem dX4_put_23 : decode cX4_put 23 = .ok (.ifCond .lt 9, 3) := by decide +kernel
theorem dX4_put_26 : decode cX4_put 26 = .ok (.iload_n 3, 1) := by decide +kernel
theorem dX4_put_27 : decode cX4_put 27 = .ok (.bipush 9, 2) := by decide +kernel
theorem dX4_put_29 : decode cX4_put 29 = .ok (.if_icmp .le 7, 3) := by decide +kernel
theorem dX4_put_32 : decode cX4_put 32 = .ok (.sipush (-1002), 3) := by decide +kernel
theorem dX4_put_35 : decode cX4_put 35 = .ok (.ireturn, 1) := by decide +kernel
theorem dX4_put_36 : decode cX4_put 36 = .ok (.aload_n 0, 1) := by decide +kernel
theorem dX4_put_37 : decode cX4_put 37 = .ok (.getfield 19, 3) := by decide +kernel
theorem dX4_put_40 : decode cX4_put 40 = .ok (.iload_n 1, 1) := by decide +kernel
theorem dX4_put_41 : decode cX4_put 41 = .ok (.invokevirtual 76, 3) := by decide +kernel
theorem dX4_put_44 : decode cX4_put 44 = .ok (.ifCond .eq 7, 3) := by decide +kernel
theorem dX4_put_47 : decode cX4_put 47 = .ok (.sipush (-1003), 3) := by decide +kernel
theorem dX4_put_50 : decode cX4_put 50 = .ok (.ireturn, 1) := by decide +kernel
theorem dX4_put_51 : decode cX4_put 51 = .ok (.aload_n 0, 1) := by decide +kernel
theorem dX4_put_52 : decode cX4_put 52 = .ok (.getfield 19, 3) := by decide +kernel
theorem dX4_put_55 : decode cX4_put 55 = .ok (.getfield 79, 3) := by decide +kernel
theorem dX4_put_58 : decode cX4_put 58 = .ok (.sipush 9999, 3) := by decide +kernel
theorem dX4_put_61 : decode cX4_put 61 = .ok (.if_icmp .lt 7, 3) := by decide +kernel
theorem dX4_put_64 : decode cX4_put 64 = .ok (.sipush (-1004), 3) := by decide +kernel
theorem dX4_put_67 : decode cX4_put 67 = .ok (.ireturn, 1) := by decide +kernel
theorem dX4_put_68 : decode cX4_put 68 = .ok (.aload_n 0, 1) := by decide +kernel
theorem dX4_put_69 : decode cX4_put 69 = .ok (.getfield 19, 3) := by decide +kernel
theorem dX4_put_72 : decode cX4_put 72 = .ok (.iload_n 1, 1) := by decide +kernel
theorem dX4_put_73 : decode cX4_put 73 = .ok (.iload_n 2, 1) := by decide +kernel
theorem dX4_put_74 : decode cX4_put 74 = .ok (.iload_n 3, 1) := by decide +kernel
theorem dX4_put_75 : decode cX4_put 75 = .ok (.invokevirtual 82, 3) := by decide +kernel
theorem dX4_put_78 : decode cX4_put 78 = .ok (.ireturn, 1) := by decide +kernel
theorem dX4_remove_0 : decode cX4_remove 0 = .ok (.aload_n 0, 1) := by decide +kernel
theorem dX4_remove_1 : decode cX4_remove 1 = .ok (.getfield 19, 3) := by decide +kernel
theorem dX4_remove_4 : decode cX4_remove 4 = .ok (.iload_n 1, 1) := by decide +kernel
theorem dX4_remove_5 : decode cX4_remove 5 = .ok (.invokevirtual 69, 3) := by decide +kernel
theorem dX4_remove_8 : decode cX4_remove 8 = .ok (.ifCond .eq 10, 3) := by decide +kernel
theorem dX4_remove_11 : decode cX4_remove 11 = .ok (.iload_n 2, 1) := by decide +kernel
theorem dX4_remove_12 : decode cX4_remove 12 = .ok (.invokestatic 73, 3) := by decide +kernel
theorem dX4_remove_15 : decode cX4_remove 15 = .ok (.ifCond .ne 7, 3) := by decide +kernel
theorem dX4_remove_18 : decode cX4_remove 18 = .ok (.sipush (-1001), 3) := by decide +kernel
theorem dX4_remove_21 : decode cX4_remove 21 = .ok (.ireturn, 1) := by decide +kernel
theorem dX4_remove_22 : decode cX4_remove 22 = .ok (.iload_n 3, 1) := by decide +kernel
theorem dX4_remove_23 : decode cX4_remove 23 = .ok (.iconst 1, 1) := by decide +kernel
theorem dX4_remove_24 : decode cX4_remove 24 = .ok (.if_icmp .lt 8, 3) := by decide +kernel
theorem dX4_remove_27 : decode cX4_remove 27 = .ok (.iload_n 3, 1) := by decide +kernel
theorem dX4_remove_28 : decode cX4_remove 28 = .ok (.iconst 3, 1) := by decide +kernel
theorem dX4_remove_29 : decode cX4_remove 29 = .ok (.if_icmp .le 7, 3) := by decide +kernel
theorem dX4_remove_32 : decode cX4_remove 32 = .ok (.sipush (-1002), 3) := by decide +kernel
theorem dX4_remove_35 : decode cX4_remove 35 = .ok (.ireturn, 1) := by decide +kernel
theorem dX4_remove_36 : decode cX4_remove 36 = .ok (.aload_n 0, 1) := by decide +kernel
theorem dX4_remove_37 : decode cX4_remove 37 = .ok (.getfield 19, 3) := by decide +kernel
theorem dX4_remove_40 : decode cX4_remove 40 = .ok (.iload_n 1, 1) := by decide +kernel
theorem dX4_remove_41 : decode cX4_remove 41 = .ok (.invokevirtual 76, 3) := by decide +kernel
theorem dX4_remove_44 : decode cX4_remove 44 = .ok (.ifCond .ne 19, 3) := by decide +kernel
theorem dX4_remove_47 : decode cX4_remove 47 = .ok (.aload_n 0, 1) := by decide +kernel
theorem dX4_remove_48 : decode cX4_remove 48 = .ok (.getfield 19, 3) := by decide +kernel
theorem dX4_remove_51 : decode cX4_remove 51 = .ok (.iload_n 1, 1) := by decide +kernel
theorem dX4_remove_52 : decode cX4_remove 52 = .ok (.iload_n 2, 1) := by decide +kernel
theorem dX4_remove_53 : decode cX4_remove 53 = .ok (.invokevirtual 86, 3) := by decide +kernel
theorem dX4_remove_56 : decode cX4_remove 56 = .ok (.getfield 90, 3) := by decide +kernel
theorem dX4_remove_59 : decode cX4_remove 59 = .ok (.iconst 1, 1) := by decide +kernel
theorem dX4_remove_60 : decode cX4_remove 60 = .ok (.if_icmp .eq 7, 3) := by decide +kernel
theorem dX4_remove_63 : decode cX4_remove 63 = .ok (.sipush (-1003), 3) := by decide +kernel
theorem dX4_remove_66 : decode cX4_remove 66 = .ok (.ireturn, 1) := by decide +kernel
theorem dX4_remove_67 : decode cX4_remove 67 = .ok (.aload_n 0, 1) := by decide +kernel
theorem dX4_remove_68 : decode cX4_remove 68 = .ok (.getfield 19, 3) := by decide +kernel
theorem dX4_remove_71 : decode cX4_remove 71 = .ok (.getfield 79, 3) := by decide +kernel
theorem dX4_remove_74 : decode cX4_remove 74 = .ok (.sipush 9999, 3) := by decide +kernel
theorem dX4_remove_77 : decode cX4_remove 77 = .ok (.if_icmp .lt 7, 3) := by decide +kernel
theorem dX4_remove_80 : decode cX4_remove 80 = .ok (.sipush (-1004), 3) := by decide +kernel
theorem dX4_remove_83 : decode cX4_remove 83 = .ok (.ireturn, 1) := by decide +kernel
theorem dX4_remove_84 : decode cX4_remove 84 = .ok (.aload_n 0, 1) := by decide +kernel
theorem dX4_remove_85 : decode cX4_remove 85 = .ok (.getfield 19, 3) := by decide +kernel
theorem dX4_remove_88 : decode cX4_remove 88 = .ok (.iload_n 1, 1) := by decide +kernel
theorem dX4_remove_89 : decode cX4_remove 89 = .ok (.iload_n 2, 1) := by decide +kernel
theorem dX4_remove_90 : decode cX4_remove 90 = .ok (.iload_n 3, 1) := by decide +kernel
theorem dX4_remove_91 : decode cX4_remove 91 = .ok (.invokevirtual 95, 3) := by decide +kernel
theorem dX4_remove_94 : decode cX4_remove 94 = .ok (.ireturn, 1) := by decide +kernel
theorem dX4_pass_0 : decode cX4_pass 0 = .ok (.iload_n 1, 1) := by decide +kernel
theorem dX4_pass_1 : decode cX4_pass 1 = .ok (.iconst 1, 1) := by decide +kernel
theorem dX4_pass_2 : decode cX4_pass 2 = .ok (.if_icmp .lt 10, 3) := by decide +kernel
theorem dX4_pass_5 : decode cX4_pass 5 = .ok (.iload_n 1, 1) := by decide +kernel
theorem dX4_pass_6 : decode cX4_pass 6 = .ok (.sipush 300, 3) := by decide +kernel
theorem dX4_pass_9 : decode cX4_pass 9 = .ok (.if_icmp .le 7, 3) := by decide +kernel
theorem dX4_pass_12 : decode cX4_pass 12 = .ok (.sipush (-1002), 3) := by decide +kernel
theorem dX4_pass_15 : decode cX4_pass 15 = .ok (.ireturn, 1) := by decide +kernel
theorem dX4_pass_16 : decode cX4_pass 16 = .ok (.aload_n 0, 1) := by decide +kernel
theorem dX4_pass_17 : decode cX4_pass 17 = .ok (.getfield 19, 3) := by decide +kernel
theorem dX4_pass_20 : decode cX4_pass 20 = .ok (.getfield 53, 3) := by decide +kernel
theorem dX4_pass_23 : decode cX4_pass 23 = .ok (.ifCond .ne 7, 3) := by decide +kernel
theorem dX4_pass_26 : decode cX4_pass 26 = .ok (.sipush (-1003), 3) := by decide +kernel
theorem dX4_pass_29 : decode cX4_pass 29 = .ok (.ireturn, 1) := by decide +kernel
theorem dX4_pass_30 : decode cX4_pass 30 = .ok (.aload_n 0, 1) := by decide +kernel
theorem dX4_pass_31 : decode cX4_pass 31 = .ok (.getfield 19, 3) := by decide +kernel
theorem dX4_pass_34 : decode cX4_pass 34 = .ok (.getfield 79, 3) := by decide +kernel
theorem dX4_pass_37 : decode cX4_pass 37 = .ok (.sipush 9999, 3) := by decide +kernel
theorem dX4_pass_40 : decode cX4_pass 40 = .ok (.iload_n 1, 1) := by decide +kernel
theorem dX4_pass_41 : decode cX4_pass 41 = .ok (.isub, 1) := by decide +kernel
theorem dX4_pass_42 : decode cX4_pass 42 = .ok (.if_icmp .le 7, 3) := by decide +kernel
theorem dX4_pass_45 : decode cX4_pass 45 = .ok (.sipush (-1004), 3) := by decide +kernel
theorem dX4_pass_48 : decode cX4_pass 48 = .ok (.ireturn, 1) := by decide +kernel
theorem dX4_pass_49 : decode cX4_pass 49 = .ok (.aload_n 0, 1) := by decide +kernel
theorem dX4_pass_50 : decode cX4_pass 50 = .ok (.getfield 19, 3) := by decide +kernel
theorem dX4_pass_53 : decode cX4_pass 53 = .ok (.iload_n 1, 1) := by decide +kernel
theorem dX4_pass_54 : decode cX4_pass 54 = .ok (.invokevirtual 98, 3) := by decide +kernel
theorem dX4_pass_57 : decode cX4_pass 57 = .ok (.ireturn, 1) := by decide +kernel
theorem dX4_off_0 : decode cX4_off 0 = .ok (.aload_n 0, 1) := by decide +kernel
theorem dX4_off_1 : decode cX4_off 1 = .ok (.getfield 19, 3) := by decide +kernel
theorem dX4_off_4 : decode cX4_off 4 = .ok (.iload_n 1, 1) := by decide +kernel
theorem dX4_off_5 : decode cX4_off 5 = .ok (.invokevirtual 69, 3) := by decide +kernel
theorem dX4_off_8 : decode cX4_off 8 = .ok (.ifCond .ne 7, 3) := by decide +kernel
theorem dX4_off_11 : decode cX4_off 11 = .ok (.sipush (-1001), 3) := by decide +kernel
theorem dX4_off_14 : decode cX4_off 14 = .ok (.ireturn, 1) := by decide +kernel
theorem dX4_off_15 : decode cX4_off 15 = .ok (.aload_n 0, 1) := by decide +kernel
theorem dX4_off_16 : decode cX4_off 16 = .ok (.getfield 19, 3) := by decide +kernel
theorem dX4_off_19 : decode cX4_off 19 = .ok (.iload_n 1, 1) := by decide +kernel
theorem dX4_off_20 : decode cX4_off 20 = .ok (.invokevirtual 76, 3) := by decide +kernel
theorem dX4_off_23 : decode cX4_off 23 = .ok (.ifCond .eq 7, 3) := by decide +kernel
theorem dX4_off_26 : decode cX4_off 26 = .ok (.iconst 1, 1) := by decide +kernel
theorem dX4_off_27 : decode cX4_off 27 = .ok (.goto 4, 3) := by decide +kernel
theorem dX4_off_30 : decode cX4_off 30 = .ok (.iconst 0, 1) := by decide +kernel
theorem dX4_off_31 : decode cX4_off 31 = .ok (.istore_n 3, 1) := by decide +kernel
theorem dX4_off_32 : decode cX4_off 32 = .ok (.iconst 1, 1) := by decide +kernel
theorem dX4_off_33 : decode cX4_off 33 = .ok (.iload_n 1, 1) := by decide +kernel
theorem dX4_off_34 : decode cX4_off 34 = .ok (.ishl, 1) := by decide +kernel
theorem dX4_off_35 : decode cX4_off 35 = .ok (.istore 4, 2) := by decide +kernel
theorem dX4_off_37 : decode cX4_off 37 = .ok (.aload_n 0, 1) := by decide +kernel
theorem dX4_off_38 : decode cX4_off 38 = .ok (.getfield 19, 3) := by decide +kernel
theorem dX4_off_41 : decode cX4_off 41 = .ok (.iload_n 2, 1) := by decide +kernel
theorem dX4_off_42 : decode cX4_off 42 = .ok (.ifCond .eq 16, 3) := by decide +kernel
theorem dX4_off_45 : decode cX4_off 45 = .ok (.aload_n 0, 1) := by decide +kernel
theorem dX4_off_46 : decode cX4_off 46 = .ok (.getfield 19, 3) := by decide +kernel
theorem dX4_off_49 : decode cX4_off 49 = .ok (.getfield 102, 3) := by decide +kernel
theorem dX4_off_52 : decode cX4_off 52 = .ok (.iload 4, 2) := by decide +kernel
theorem dX4_off_54 : decode cX4_off 54 = .ok (.ior, 1) := by decide +kernel
theorem dX4_off_55 : decode cX4_off 55 = .ok (.goto 15, 3) := by decide +kernel
theorem dX4_off_58 : decode cX4_off 58 = .ok (.aload_n 0, 1) := by decide +kernel
theorem dX4_off_59 : decode cX4_off 59 = .ok (.getfield 19, 3) := by decide +kernel
theorem dX4_off_62 : decode cX4_off 62 = .ok (.getfield 102, 3) := by decide +kernel
theorem dX4_off_65 : decode cX4_off 65 = .ok (.iload 4, 2) := by decide +kernel
theorem dX4_off_67 : decode cX4_off 67 = .ok (.iconst (-1), 1) := by decide +kernel
theorem dX4_off_68 : decode cX4_off 68 = .ok (.ixor, 1) := by decide +kernel
theorem dX4_off_69 : decode cX4_off 69 = .ok (.iand, 1) := by decide +kernel
theorem dX4_off_70 : decode cX4_off 70 = .ok (.putfield 102, 3) := by decide +kernel
theorem dX4_off_73 : decode cX4_off 73 = .ok (.iload_n 3, 1) := by decide +kernel
theorem dX4_off_74 : decode cX4_off 74 = .ok (.ireturn, 1) := by decide +kernel
theorem dX4_exchange_0 : decode cX4_exchange 0 = .ok (.aload_n 0, 1) := by decide +kernel
theorem dX4_exchange_1 : decode cX4_exchange 1 = .ok (.iload_n 1, 1) := by decide +kernel
theorem dX4_exchange_2 : decode cX4_exchange 2 = .ok (.iload_n 2, 1) := by decide +kernel
theorem dX4_exchange_3 : decode cX4_exchange 3 = .ok (.invokevirtual 105, 3) := by decide +kernel
theorem dX4_exchange_6 : decode cX4_exchange 6 = .ok (.istore_n 3, 1) := by decide +kernel
theorem dX4_exchange_7 : decode cX4_exchange 7 = .ok (.iload_n 3, 1) := by decide +kernel
theorem dX4_exchange_8 : decode cX4_exchange 8 = .ok (.ifCond .eq 7, 3) := by decide +kernel
theorem dX4_exchange_11 : decode cX4_exchange 11 = .ok (.iload_n 3, 1) := by decide +kernel
theorem dX4_exchange_12 : decode cX4_exchange 12 = .ok (.goto 12, 3) := by decide +kernel
theorem dX4_exchange_15 : decode cX4_exchange 15 = .ok (.aload_n 0, 1) := by decide +kernel
theorem dX4_exchange_16 : decode cX4_exchange 16 = .ok (.getfield 19, 3) := by decide +kernel
theorem dX4_exchange_19 : decode cX4_exchange 19 = .ok (.iload_n 1, 1) := by decide +kernel
theorem dX4_exchange_20 : decode cX4_exchange 20 = .ok (.iload_n 2, 1) := by decide +kernel
theorem dX4_exchange_21 : decode cX4_exchange 21 = .ok (.invokevirtual 109, 3) := by decide +kernel
theorem dX4_exchange_24 : decode cX4_exchange 24 = .ok (.ireturn, 1) := by decide +kernel
theorem dX4_rumour_0 : decode cX4_rumour 0 = .ok (.aload_n 0, 1) := by decide +kernel
theorem dX4_rumour_1 : decode cX4_rumour 1 = .ok (.iload_n 1, 1) := by decide +kernel
theorem dX4_rumour_2 : decode cX4_rumour 2 = .ok (.iload_n 2, 1) := by decide +kernel
theorem dX4_rumour_3 : decode cX4_rumour 3 = .ok (.invokevirtual 105, 3) := by decide +kernel
theorem dX4_rumour_6 : decode cX4_rumour 6 = .ok (.istore_n 3, 1) := by decide +kernel
theorem dX4_rumour_7 : decode cX4_rumour 7 = .ok (.iload_n 3, 1) := by decide +kernel
theorem dX4_rumour_8 : decode cX4_rumour 8 = .ok (.ifCond .eq 7, 3) := by decide +kernel
theorem dX4_rumour_11 : decode cX4_rumour 11 = .ok (.iload_n 3, 1) := by decide +kernel
theorem dX4_rumour_12 : decode cX4_rumour 12 = .ok (.goto 12, 3) := by decide +kernel
theorem dX4_rumour_15 : decode cX4_rumour 15 = .ok (.aload_n 0, 1) := by decide +kernel
theorem dX4_rumour_16 : decode cX4_rumour 16 = .ok (.getfield 19, 3) := by decide +kernel
theorem dX4_rumour_19 : decode cX4_rumour 19 = .ok (.iload_n 1, 1) := by decide +kernel
theorem dX4_rumour_20 : decode cX4_rumour 20 = .ok (.iload_n 2, 1) := by decide +kernel
theorem dX4_rumour_21 : decode cX4_rumour 21 = .ok (.invokevirtual 112, 3) := by decide +kernel
theorem dX4_rumour_24 : decode cX4_rumour 24 = .ok (.ireturn, 1) := by decide +kernel
theorem dX4_refusalOfPair_0 : decode cX4_refusalOfPair 0 = .ok (.aload_n 0, 1) := by decide +kernel
theorem dX4_refusalOfPair_1 : decode cX4_refusalOfPair 1 = .ok (.getfield 19, 3) := by decide +kernel
theorem dX4_refusalOfPair_4 : decode cX4_refusalOfPair 4 = .ok (.iload_n 1, 1) := by decide +kernel
theorem dX4_refusalOfPair_5 : decode cX4_refusalOfPair 5 = .ok (.invokevirtual 69, 3) := by decide +kernel
theorem dX4_refusalOfPair_8 : decode cX4_refusalOfPair 8 = .ok (.ifCond .eq 19, 3) := by decide +kernel
theorem dX4_refusalOfPair_11 : decode cX4_refusalOfPair 11 = .ok (.aload_n 0, 1) := by decide +kernel
theorem dX4_refusalOfPair_12 : decode cX4_refusalOfPair 12 = .ok (.getfield 19, 3) := by decide +kernel
theorem dX4_refusalOfPair_15 : decode cX4_refusalOfPair 15 = .ok (.iload_n 2, 1) := by decide +kernel
theorem dX4_refusalOfPair_16 : decode cX4_refusalOfPair 16 = .ok (.invokevirtual 69, 3) := by decide +kernel
theorem dX4_refusalOfPair_19 : decode cX4_refusalOfPair 19 = .ok (.ifCond .eq 8, 3) := by decide +kernel
theorem dX4_refusalOfPair_22 : decode cX4_refusalOfPair 22 = .ok (.iload_n 1, 1) := by decide +kernel
theorem dX4_refusalOfPair_23 : decode cX4_refusalOfPair 23 = .ok (.iload_n 2, 1) := by decide +kernel
theorem dX4_refusalOfPair_24 : decode cX4_refusalOfPair 24 = .ok (.if_icmp .ne 7, 3) := by decide +kernel
theorem dX4_refusalOfPair_27 : decode cX4_refusalOfPair 27 = .ok (.sipush (-1001), 3) := by decide +kernel
theorem dX4_refusalOfPair_30 : decode cX4_refusalOfPair 30 = .ok (.ireturn, 1) := by decide +kernel
theorem dX4_refusalOfPair_31 : decode cX4_refusalOfPair 31 = .ok (.aload_n 0, 1) := by decide +kernel
theorem dX4_refusalOfPair_32 : decode cX4_refusalOfPair 32 = .ok (.getfield 19, 3) := by decide +kernel
theorem dX4_refusalOfPair_35 : decode cX4_refusalOfPair 35 = .ok (.iload_n 1, 1) := by decide +kernel
theorem dX4_refusalOfPair_36 : decode cX4_refusalOfPair 36 = .ok (.invokevirtual 76, 3) := by decide +kernel
theorem dX4_refusalOfPair_39 : decode cX4_refusalOfPair 39 = .ok (.ifCond .ne 14, 3) := by decide +kernel
theorem dX4_refusalOfPair_42 : decode cX4_refusalOfPair 42 = .ok (.aload_n 0, 1) := by decide +kernel
theorem dX4_refusalOfPair_43 : decode cX4_refusalOfPair 43 = .ok (.getfield 19, 3) := by decide +kernel
theorem dX4_refusalOfPair_46 : decode cX4_refusalOfPair 46 = .ok (.iload_n 2, 1) := by decide +kernel
theorem dX4_refusalOfPair_47 : decode cX4_refusalOfPair 47 = .ok (.invokevirtual 76, 3) := by decide +kernel
theorem dX4_refusalOfPair_50 : decode cX4_refusalOfPair 50 = .ok (.ifCond .eq 9, 3) := by decide +kernel
theorem dX4_refusalOfPair_53 : decode cX4_refusalOfPair 53 = .ok (.sipush (-1003), 3) := by decide +kernel
theorem dX4_refusalOfPair_56 : decode cX4_refusalOfPair 56 = .ok (.goto 4, 3) := by decide +kernel
theorem dX4_refusalOfPair_59 : decode cX4_refusalOfPair 59 = .ok (.iconst 0, 1) := by decide +kernel
theorem dX4_refusalOfPair_60 : decode cX4_refusalOfPair 60 = .ok (.ireturn, 1) := by decide +kernel
theorem dX4_has_0 : decode cX4_has 0 = .ok (.aload_n 0, 1) := by decide +kernel
theorem dX4_has_1 : decode cX4_has 1 = .ok (.getfield 19, 3) := by decide +kernel
theorem dX4_has_4 : decode cX4_has 4 = .ok (.iload_n 1, 1) := by decide +kernel
theorem dX4_has_5 : decode cX4_has 5 = .ok (.invokevirtual 69, 3) := by decide +kernel
theorem dX4_has_8 : decode cX4_has 8 = .ok (.ifCond .eq 10, 3) := by decide +kernel
theorem dX4_has_11 : decode cX4_has 11 = .ok (.iload_n 2, 1) := by decide +kernel
theorem dX4_has_12 : decode cX4_has 12 = .ok (.invokestatic 73, 3) := by decide +kernel
theorem dX4_has_15 : decode cX4_has 15 = .ok (.ifCond .ne 7, 3) := by decide +kernel
theorem dX4_has_18 : decode cX4_has 18 = .ok (.sipush (-1001), 3) := by decide +kernel
theorem dX4_has_21 : decode cX4_has 21 = .ok (.ireturn, 1) := by decide +kernel
theorem dX4_has_22 : decode cX4_has 22 = .ok (.aload_n 0, 1) := by decide +kernel
theorem dX4_has_23 : decode cX4_has 23 = .ok (.getfield 19, 3) := by decide +kernel
theorem dX4_has_26 : decode cX4_has 26 = .ok (.iload_n 1, 1) := by decide +kernel
theorem dX4_has_27 : decode cX4_has 27 = .ok (.iload_n 2, 1) := by decide +kernel
theorem dX4_has_28 : decode cX4_has 28 = .ok (.invokevirtual 86, 3) := by decide +kernel
theorem dX4_has_31 : decode cX4_has 31 = .ok (.astore 4, 2) := by decide +kernel
theorem dX4_has_33 : decode cX4_has 33 = .ok (.iload_n 3, 1) := by decide +kernel
theorem dX4_has_34 : decode cX4_has 34 = .ok (.tableswitch 96 0 6 #[42, 48, 54, 60, 66, 72, 90], 42) := by decide +kernel
theorem dX4_has_76 : decode cX4_has 76 = .ok (.aload 4, 2) := by decide +kernel
theorem dX4_has_78 : decode cX4_has 78 = .ok (.getfield 90, 3) := by decide +kernel
theorem dX4_has_81 : decode cX4_has 81 = .ok (.ireturn, 1) := by decide +kernel
theorem dX4_has_82 : decode cX4_has 82 = .ok (.aload 4, 2) := by decide +kernel
theorem dX4_has_84 : decode cX4_has 84 = .ok (.getfield 115, 3) := by decide +kernel
theorem dX4_has_87 : decode cX4_has 87 = .ok (.ireturn, 1) := by decide +kernel
theorem dX4_has_88 : decode cX4_has 88 = .ok (.aload 4, 2) := by decide +kernel
theorem dX4_has_90 : decode cX4_has 90 = .ok (.getfield 118, 3) := by decide +kernel
theorem dX4_has_93 : decode cX4_has 93 = .ok (.ireturn, 1) := by decide +kernel
theorem dX4_has_94 : decode cX4_has 94 = .ok (.aload 4, 2) := by decide +kernel
theorem dX4_has_96 : decode cX4_has 96 = .ok (.getfield 121, 3) := by decide +kernel
theorem dX4_has_99 : decode cX4_has 99 = .ok (.ireturn, 1) := by decide +kernel
theorem dX4_has_100 : decode cX4_has 100 = .ok (.aload 4, 2) := by decide +kernel
theorem dX4_has_102 : decode cX4_has 102 = .ok (.getfield 124, 3) := by decide +kernel
theorem dX4_has_105 : decode cX4_has 105 = .ok (.ireturn, 1) := by decide +kernel
theorem dX4_has_106 : decode cX4_has 106 = .ok (.aload_n 0, 1) := by decide +kernel
theorem dX4_has_107 : decode cX4_has 107 = .ok (.getfield 19, 3) := by decide +kernel
theorem dX4_has_110 : decode cX4_has 110 = .ok (.aload 4, 2) := by decide +kernel
theorem dX4_has_112 : decode cX4_has 112 = .ok (.invokevirtual 127, 3) := by decide +kernel
theorem dX4_has_115 : decode cX4_has 115 = .ok (.ifCond .eq 7, 3) := by decide +kernel
theorem dX4_has_118 : decode cX4_has 118 = .ok (.iconst 1, 1) := by decide +kernel
theorem dX4_has_119 : decode cX4_has 119 = .ok (.goto 4, 3) := by decide +kernel
theorem dX4_has_122 : decode cX4_has 122 = .ok (.iconst 0, 1) := by decide +kernel
theorem dX4_has_123 : decode cX4_has 123 = .ok (.ireturn, 1) := by decide +kernel
theorem dX4_has_124 : decode cX4_has 124 = .ok (.aload 4, 2) := by decide +kernel
theorem dX4_has_126 : decode cX4_has 126 = .ok (.getfield 131, 3) := by decide +kernel
theorem dX4_has_129 : decode cX4_has 129 = .ok (.ireturn, 1) := by decide +kernel
theorem dX4_has_130 : decode cX4_has 130 = .ok (.sipush (-1002), 3) := by decide +kernel
theorem dX4_has_133 : decode cX4_has 133 = .ok (.ireturn, 1) := by decide +kernel
theorem dX4_newest_0 : decode cX4_newest 0 = .ok (.aload_n 0, 1) := by decide +kernel
theorem dX4_newest_1 : decode cX4_newest 1 = .ok (.getfield 19, 3) := by decide +kernel
theorem dX4_newest_4 : decode cX4_newest 4 = .ok (.iload_n 1, 1) := by decide +kernel
theorem dX4_newest_5 : decode cX4_newest 5 = .ok (.invokevirtual 69, 3) := by decide +kernel
theorem dX4_newest_8 : decode cX4_newest 8 = .ok (.ifCond .ne 7, 3) := by decide +kernel
theorem dX4_newest_11 : decode cX4_newest 11 = .ok (.sipush (-1001), 3) := by decide +kernel
theorem dX4_newest_14 : decode cX4_newest 14 = .ok (.ireturn, 1) := by decide +kernel
theorem dX4_newest_15 : decode cX4_newest 15 = .ok (.iload_n 2, 1) := by decide +kernel
theorem dX4_newest_16 : decode cX4_newest 16 = .ok (.ifCond .lt 8, 3) := by decide +kernel
theorem dX4_newest_19 : decode cX4_newest 19 = .ok (.iload_n 2, 1) := by decide +kernel
theorem dX4_newest_20 : decode cX4_newest 20 = .ok (.iconst 2, 1) := by decide +kernel
theorem dX4_newest_21 : decode cX4_newest 21 = .ok (.if_icmp .le 7, 3) := by decide +kernel
theorem dX4_newest_24 : decode cX4_newest 24 = .ok (.sipush (-1002), 3) := by decide +kernel
theorem dX4_newest_27 : decode cX4_newest 27 = .ok (.ireturn, 1) := by decide +kernel
theorem dX4_newest_28 : decode cX4_newest 28 = .ok (.aload_n 0, 1) := by decide +kernel
theorem dX4_newest_29 : decode cX4_newest 29 = .ok (.getfield 19, 3) := by decide +kernel
theorem dX4_newest_32 : decode cX4_newest 32 = .ok (.iload_n 1, 1) := by decide +kernel
theorem dX4_newest_33 : decode cX4_newest 33 = .ok (.iload_n 2, 1) := by decide +kernel
theorem dX4_newest_34 : decode cX4_newest 34 = .ok (.invokevirtual 134, 3) := by decide +kernel
theorem dX4_newest_37 : decode cX4_newest 37 = .ok (.ireturn, 1) := by decide +kernel
theorem dX4_alike_0 : decode cX4_alike 0 = .ok (.aload_n 0, 1) := by decide +kernel
theorem dX4_alike_1 : decode cX4_alike 1 = .ok (.getfield 19, 3) := by decide +kernel
theorem dX4_alike_4 : decode cX4_alike 4 = .ok (.iload_n 1, 1) := by decide +kernel
theorem dX4_alike_5 : decode cX4_alike 5 = .ok (.invokevirtual 69, 3) := by decide +kernel
theorem dX4_alike_8 : decode cX4_alike 8 = .ok (.ifCond .eq 14, 3) := by decide +kernel
theorem dX4_alike_11 : decode cX4_alike 11 = .ok (.aload_n 0, 1) := by decide +kernel
theorem dX4_alike_12 : decode cX4_alike 12 = .ok (.getfield 19, 3) := by decide +kernel
theorem dX4_alike_15 : decode cX4_alike 15 = .ok (.iload_n 2, 1) := by decide +kernel
theorem dX4_alike_16 : decode cX4_alike 16 = .ok (.invokevirtual 69, 3) := by decide +kernel
theorem dX4_alike_19 : decode cX4_alike 19 = .ok (.ifCond .ne 7, 3) := by decide +kernel
theorem dX4_alike_22 : decode cX4_alike 22 = .ok (.sipush (-1001), 3) := by decide +kernel
theorem dX4_alike_25 : decode cX4_alike 25 = .ok (.ireturn, 1) := by decide +kernel
theorem dX4_alike_26 : decode cX4_alike 26 = .ok (.aload_n 0, 1) := by decide +kernel
theorem dX4_alike_27 : decode cX4_alike 27 = .ok (.getfield 19, 3) := by decide +kernel
theorem dX4_alike_30 : decode cX4_alike 30 = .ok (.iload_n 1, 1) := by decide +kernel
theorem dX4_alike_31 : decode cX4_alike 31 = .ok (.iload_n 2, 1) := by decide +kernel
theorem dX4_alike_32 : decode cX4_alike 32 = .ok (.invokevirtual 137, 3) := by decide +kernel
theorem dX4_alike_35 : decode cX4_alike 35 = .ok (.ifCond .eq 7, 3) := by decide +kernel
theorem dX4_alike_38 : decode cX4_alike 38 = .ok (.iconst 1, 1) := by decide +kernel
theorem dX4_alike_39 : decode cX4_alike 39 = .ok (.goto 4, 3) := by decide +kernel
theorem dX4_alike_42 : decode cX4_alike 42 = .ok (.iconst 0, 1) := by decide +kernel
theorem dX4_alike_43 : decode cX4_alike 43 = .ok (.ireturn, 1) := by decide +kernel
theorem dX4_risen_0 : decode cX4_risen 0 = .ok (.iload_n 1, 1) := by decide +kernel
theorem dX4_risen_1 : decode cX4_risen 1 = .ok (.invokestatic 73, 3) := by decide +kernel
theorem dX4_risen_4 : decode cX4_risen 4 = .ok (.ifCond .ne 7, 3) := by decide +kernel
theorem dX4_risen_7 : decode cX4_risen 7 = .ok (.sipush (-1001), 3) := by decide +kernel
theorem dX4_risen_10 : decode cX4_risen 10 = .ok (.ireturn, 1) := by decide +kernel
theorem dX4_risen_11 : decode cX4_risen 11 = .ok (.aload_n 0, 1) := by decide +kernel
theorem dX4_risen_12 : decode cX4_risen 12 = .ok (.getfield 19, 3) := by decide +kernel
theorem dX4_risen_15 : decode cX4_risen 15 = .ok (.iload_n 1, 1) := by decide +kernel
theorem dX4_risen_16 : decode cX4_risen 16 = .ok (.invokevirtual 141, 3) := by decide +kernel
theorem dX4_risen_19 : decode cX4_risen 19 = .ok (.ireturn, 1) := by decide +kernel
theorem dX4_partner_0 : decode cX4_partner 0 = .ok (.aload_n 0, 1) := by decide +kernel
theorem dX4_partner_1 : decode cX4_partner 1 = .ok (.getfield 19, 3) := by decide +kernel
theorem dX4_partner_4 : decode cX4_partner 4 = .ok (.iload_n 1, 1) := by decide +kernel
theorem dX4_partner_5 : decode cX4_partner 5 = .ok (.invokevirtual 69, 3) := by decide +kernel
theorem dX4_partner_8 : decode cX4_partner 8 = .ok (.ifCond .ne 7, 3) := by decide +kernel
theorem dX4_partner_11 : decode cX4_partner 11 = .ok (.sipush (-1001), 3) := by decide +kernel
theorem dX4_partner_14 : decode cX4_partner 14 = .ok (.ireturn, 1) := by decide +kernel
theorem dX4_partner_15 : decode cX4_partner 15 = .ok (.iload_n 2, 1) := by decide +kernel
theorem dX4_partner_16 : decode cX4_partner 16 = .ok (.ifCond .lt 12, 3) := by decide +kernel
theorem dX4_partner_19 : decode cX4_partner 19 = .ok (.iload_n 3, 1) := by decide +kernel
theorem dX4_partner_20 : decode cX4_partner 20 = .ok (.ifCond .lt 8, 3) := by decide +kernel
theorem dX4_partner_23 : decode cX4_partner 23 = .ok (.iload_n 3, 1) := by decide +kernel
theorem dX4_partner_24 : decode cX4_partner 24 = .ok (.iconst 1, 1) := by decide +kernel
theorem dX4_partner_25 : decode cX4_partner 25 = .ok (.if_icmp .le 7, 3) := by decide +kernel
theorem dX4_partner_28 : decode cX4_partner 28 = .ok (.sipush (-1002), 3) := by decide +kernel
theorem dX4_partner_31 : decode cX4_partner 31 = .ok (.ireturn, 1) := by decide +kernel
theorem dX4_partner_32 : decode cX4_partner 32 = .ok (.aload_n 0, 1) := by decide +kernel
theorem dX4_partner_33 : decode cX4_partner 33 = .ok (.getfield 19, 3) := by decide +kernel
theorem dX4_partner_36 : decode cX4_partner 36 = .ok (.iload_n 1, 1) := by decide +kernel
theorem dX4_partner_37 : decode cX4_partner 37 = .ok (.invokevirtual 144, 3) := by decide +kernel
theorem dX4_partner_40 : decode cX4_partner 40 = .ok (.ifCond .ne 7, 3) := by decide +kernel
theorem dX4_partner_43 : decode cX4_partner 43 = .ok (.iload_n 2, 1) := by decide +kernel
theorem dX4_partner_44 : decode cX4_partner 44 = .ok (.goto 7, 3) := by decide +kernel
theorem dX4_partner_47 : decode cX4_partner 47 = .ok (.iload_n 2, 1) := by decide +kernel
theorem dX4_partner_48 : decode cX4_partner 48 = .ok (.invokestatic 147, 3) := by decide +kernel
theorem dX4_partner_51 : decode cX4_partner 51 = .ok (.istore 4, 2) := by decide +kernel
theorem dX4_partner_53 : decode cX4_partner 53 = .ok (.iload_n 3, 1) := by decide +kernel
theorem dX4_partner_54 : decode cX4_partner 54 = .ok (.ifCond .ne 16, 3) := by decide +kernel
theorem dX4_partner_57 : decode cX4_partner 57 = .ok (.aload_n 0, 1) := by decide +kernel
theorem dX4_partner_58 : decode cX4_partner 58 = .ok (.getfield 19, 3) := by decide +kernel
theorem dX4_partner_61 : decode cX4_partner 61 = .ok (.iload_n 1, 1) := by decide +kernel
theorem dX4_partner_62 : decode cX4_partner 62 = .ok (.iload 4, 2) := by decide +kernel
theorem dX4_partner_64 : decode cX4_partner 64 = .ok (.invokevirtual 150, 3) := by decide +kernel
theorem dX4_partner_67 : decode cX4_partner 67 = .ok (.goto 5, 3) := by decide +kernel
theorem dX4_partner_70 : decode cX4_partner 70 = .ok (.iload 4, 2) := by decide +kernel
theorem dX4_partner_72 : decode cX4_partner 72 = .ok (.ireturn, 1) := by decide +kernel
theorem dX4_settle_0 : decode cX4_settle 0 = .ok (.iload_n 1, 1) := by decide +kernel
theorem dX4_settle_1 : decode cX4_settle 1 = .ok (.ifCond .lt 12, 3) := by decide +kernel
theorem dX4_settle_4 : decode cX4_settle 4 = .ok (.iload_n 3, 1) := by decide +kernel
theorem dX4_settle_5 : decode cX4_settle 5 = .ok (.ifCond .lt 8, 3) := by decide +kernel
theorem dX4_settle_8 : decode cX4_settle 8 = .ok (.iload_n 3, 1) := by decide +kernel
theorem dX4_settle_9 : decode cX4_settle 9 = .ok (.iconst 2, 1) := by decide +kernel
theorem dX4_settle_10 : decode cX4_settle 10 = .ok (.if_icmp .le 7, 3) := by decide +kernel
theorem dX4_settle_13 : decode cX4_settle 13 = .ok (.sipush (-1002), 3) := by decide +kernel
theorem dX4_settle_16 : decode cX4_settle 16 = .ok (.ireturn, 1) := by decide +kernel
theorem dX4_settle_17 : decode cX4_settle 17 = .ok (.aload_n 0, 1) := by decide +kernel
theorem dX4_settle_18 : decode cX4_settle 18 = .ok (.getfield 19, 3) := by decide +kernel
theorem dX4_settle_21 : decode cX4_settle 21 = .ok (.getfield 53, 3) := by decide +kernel
theorem dX4_settle_24 : decode cX4_settle 24 = .ok (.ifCond .ne 7, 3) := by decide +kernel
theorem dX4_settle_27 : decode cX4_settle 27 = .ok (.sipush (-1003), 3) := by decide +kernel
theorem dX4_settle_30 : decode cX4_settle 30 = .ok (.ireturn, 1) := by decide +kernel
theorem dX4_settle_31 : decode cX4_settle 31 = .ok (.aload_n 0, 1) := by decide +kernel
theorem dX4_settle_32 : decode cX4_settle 32 = .ok (.getfield 26, 3) := by decide +kernel
theorem dX4_settle_35 : decode cX4_settle 35 = .ok (.aload_n 0, 1) := by decide +kernel
theorem dX4_settle_36 : decode cX4_settle 36 = .ok (.getfield 19, 3) := by decide +kernel
theorem dX4_settle_39 : decode cX4_settle 39 = .ok (.iload_n 1, 1) := by decide +kernel
theorem dX4_settle_40 : decode cX4_settle 40 = .ok (.iload_n 2, 1) := by decide +kernel
theorem dX4_settle_41 : decode cX4_settle 41 = .ok (.invokevirtual 153, 3) := by decide +kernel
theorem dX4_settle_44 : decode cX4_settle 44 = .ok (.aload_n 0, 1) := by decide +kernel
theorem dX4_settle_45 : decode cX4_settle 45 = .ok (.getfield 26, 3) := by decide +kernel
theorem dX4_settle_48 : decode cX4_settle 48 = .ok (.iload_n 3, 1) := by decide +kernel
theorem dX4_settle_49 : decode cX4_settle 49 = .ok (.invokevirtual 157, 3) := by decide +kernel
theorem dX4_settle_52 : decode cX4_settle 52 = .ok (.ireturn, 1) := by decide +kernel
theorem dX4_count_0 : decode cX4_count 0 = .ok (.iload_n 1, 1) := by decide +kernel
theorem dX4_count_1 : decode cX4_count 1 = .ok (.tableswitch 164 0 11 #[63, 71, 79, 87, 95, 103, 111, 119, 129, 139, 149, 159], 63) := by decide +kernel
theorem dX4_count_64 : decode cX4_count 64 = .ok (.aload_n 0, 1) := by decide +kernel
theorem dX4_count_65 : decode cX4_count 65 = .ok (.getfield 10, 3) := by decide +kernel
theorem dX4_count_68 : decode cX4_count 68 = .ok (.getfield 30, 3) := by decide +kernel
theorem dX4_count_71 : decode cX4_count 71 = .ok (.ireturn, 1) := by decide +kernel
theorem dX4_count_72 : decode cX4_count 72 = .ok (.aload_n 0, 1) := by decide +kernel
theorem dX4_count_73 : decode cX4_count 73 = .ok (.getfield 19, 3) := by decide +kernel
theorem dX4_count_76 : decode cX4_count 76 = .ok (.getfield 53, 3) := by decide +kernel
theorem dX4_count_79 : decode cX4_count 79 = .ok (.ireturn, 1) := by decide +kernel
theorem dX4_count_80 : decode cX4_count 80 = .ok (.aload_n 0, 1) := by decide +kernel
theorem dX4_count_81 : decode cX4_count 81 = .ok (.getfield 19, 3) := by decide +kernel
theorem dX4_count_84 : decode cX4_count 84 = .ok (.getfield 79, 3) := by decide +kernel
theorem dX4_count_87 : decode cX4_count 87 = .ok (.ireturn, 1) := by decide +kernel
theorem dX4_count_88 : decode cX4_count 88 = .ok (.aload_n 0, 1) := by decide +kernel
theorem dX4_count_89 : decode cX4_count 89 = .ok (.getfield 19, 3) := by decide +kernel
theorem dX4_count_92 : decode cX4_count 92 = .ok (.getfield 102, 3) := by decide +kernel
theorem dX4_count_95 : decode cX4_count 95 = .ok (.ireturn, 1) := by decide +kernel
theorem dX4_count_96 : decode cX4_count 96 = .ok (.aload_n 0, 1) := by decide +kernel
theorem dX4_count_97 : decode cX4_count 97 = .ok (.getfield 19, 3) := by decide +kernel
theorem dX4_count_100 : decode cX4_count 100 = .ok (.getfield 160, 3) := by decide +kernel
theorem dX4_count_103 : decode cX4_count 103 = .ok (.ireturn, 1) := by decide +kernel
theorem dX4_count_104 : decode cX4_count 104 = .ok (.aload_n 0, 1) := by decide +kernel
theorem dX4_count_105 : decode cX4_count 105 = .ok (.getfield 19, 3) := by decide +kernel
theorem dX4_count_108 : decode cX4_count 108 = .ok (.getfield 163, 3) := by decide +kernel
theorem dX4_count_111 : decode cX4_count 111 = .ok (.ireturn, 1) := by decide +kernel
theorem dX4_count_112 : decode cX4_count 112 = .ok (.aload_n 0, 1) := by decide +kernel
theorem dX4_count_113 : decode cX4_count 113 = .ok (.getfield 19, 3) := by decide +kernel
theorem dX4_count_116 : decode cX4_count 116 = .ok (.getfield 166, 3) := by decide +kernel
theorem dX4_count_119 : decode cX4_count 119 = .ok (.ireturn, 1) := by decide +kernel
theorem dX4_count_120 : decode cX4_count 120 = .ok (.aload_n 0, 1) := by decide +kernel
theorem dX4_count_121 : decode cX4_count 121 = .ok (.getfield 19, 3) := by decide +kernel
theorem dX4_count_124 : decode cX4_count 124 = .ok (.getfield 63, 3) := by decide +kernel
theorem dX4_count_127 : decode cX4_count 127 = .ok (.iconst 0, 1) := by decide +kernel
theorem dX4_count_128 : decode cX4_count 128 = .ok (.iaload, 1) := by decide +kernel
theorem dX4_count_129 : decode cX4_count 129 = .ok (.ireturn, 1) := by decide +kernel
theorem dX4_count_130 : decode cX4_count 130 = .ok (.aload_n 0, 1) := by decide +kernel
theorem dX4_count_131 : decode cX4_count 131 = .ok (.getfield 19, 3) := by decide +kernel
theorem dX4_count_134 : decode cX4_count 134 = .ok (.getfield 63, 3) := by decide +kernel
theorem dX4_count_137 : decode cX4_count 137 = .ok (.iconst 1, 1) := by decide +kernel
theorem dX4_count_138 : decode cX4_count 138 = .ok (.iaload, 1) := by decide +kernel
theorem dX4_count_139 : decode cX4_count 139 = .ok (.ireturn, 1) := by decide +kernel
theorem dX4_count_140 : decode cX4_count 140 = .ok (.aload_n 0, 1) := by decide +kernel
theorem dX4_count_141 : decode cX4_count 141 = .ok (.getfield 19, 3) := by decide +kernel
theorem dX4_count_144 : decode cX4_count 144 = .ok (.getfield 63, 3) := by decide +kernel
theorem dX4_count_147 : decode cX4_count 147 = .ok (.iconst 2, 1) := by decide +kernel
theorem dX4_count_148 : decode cX4_count 148 = .ok (.iaload, 1) := by decide +kernel
theorem dX4_count_149 : decode cX4_count 149 = .ok (.ireturn, 1) := by decide +kernel
theorem dX4_count_150 : decode cX4_count 150 = .ok (.aload_n 0, 1) := by decide +kernel
theorem dX4_count_151 : decode cX4_count 151 = .ok (.getfield 19, 3) := by decide +kernel
theorem dX4_count_154 : decode cX4_count 154 = .ok (.getfield 63, 3) := by decide +kernel
theorem dX4_count_157 : decode cX4_count 157 = .ok (.iconst 3, 1) := by decide +kernel
theorem dX4_count_158 : decode cX4_count 158 = .ok (.iaload, 1) := by decide +kernel
theorem dX4_count_159 : decode cX4_count 159 = .ok (.ireturn, 1) := by decide +kernel
theorem dX4_count_160 : decode cX4_count 160 = .ok (.aload_n 0, 1) := by decide +kernel
theorem dX4_count_161 : decode cX4_count 161 = .ok (.getfield 50, 3) := by decide +kernel
theorem dX4_count_164 : decode cX4_count 164 = .ok (.ireturn, 1) := by decide +kernel
theorem dX4_count_165 : decode cX4_count 165 = .ok (.sipush (-1002), 3) := by decide +kernel
theorem dX4_count_168 : decode cX4_count 168 = .ok (.ireturn, 1) := by decide +kernel
theorem dX4_digest_0 : decode cX4_digest 0 = .ok (.ldc2_w 169, 3) := by decide +kernel
theorem dX4_digest_3 : decode cX4_digest 3 = .ok (.lstore_n 1, 1) := by decide +kernel
theorem dX4_digest_4 : decode cX4_digest 4 = .ok (.iconst 0, 1) := by decide +kernel
theorem dX4_digest_5 : decode cX4_digest 5 = .ok (.istore_n 3, 1) := by decide +kernel
theorem dX4_digest_6 : decode cX4_digest 6 = .ok (.iload_n 3, 1) := by decide +kernel
theorem dX4_digest_7 : decode cX4_digest 7 = .ok (.aload_n 0, 1) := by decide +kernel
theorem dX4_digest_8 : decode cX4_digest 8 = .ok (.getfield 19, 3) := by decide +kernel
theorem dX4_digest_11 : decode cX4_digest 11 = .ok (.getfield 53, 3) := by decide +kernel
theorem dX4_digest_14 : decode cX4_digest 14 = .ok (.if_icmp .ge 16, 3) := by decide +kernel
theorem dX4_digest_17 : decode cX4_digest 17 = .ok (.aload_n 0, 1) := by decide +kernel
theorem dX4_digest_18 : decode cX4_digest 18 = .ok (.lload_n 1, 1) := by decide +kernel
theorem dX4_digest_19 : decode cX4_digest 19 = .ok (.iload_n 3, 1) := by decide +kernel
theorem dX4_digest_20 : decode cX4_digest 20 = .ok (.invokevirtual 171, 3) := by decide +kernel
theorem dX4_digest_23 : decode cX4_digest 23 = .ok (.lstore_n 1, 1) := by decide +kernel
theorem dX4_digest_24 : decode cX4_digest 24 = .ok (.iinc 3 1, 3) := by decide +kernel
theorem dX4_digest_27 : decode cX4_digest 27 = .ok (.goto (-21), 3) := by decide +kernel
theorem dX4_digest_30 : decode cX4_digest 30 = .ok (.iconst 0, 1) := by decide +kernel
theorem dX4_digest_31 : decode cX4_digest 31 = .ok (.istore_n 3, 1) := by decide +kernel
theorem dX4_digest_32 : decode cX4_digest 32 = .ok (.iload_n 3, 1) := by decide +kernel
theorem dX4_digest_33 : decode cX4_digest 33 = .ok (.iconst 4, 1) := by decide +kernel
theorem dX4_digest_34 : decode cX4_digest 34 = .ok (.if_icmp .ge 19, 3) := by decide +kernel
theorem dX4_digest_37 : decode cX4_digest 37 = .ok (.lload_n 1, 1) := by decide +kernel
theorem dX4_digest_38 : decode cX4_digest 38 = .ok (.aload_n 0, 1) := by decide +kernel
theorem dX4_digest_39 : decode cX4_digest 39 = .ok (.iload_n 3, 1) := by decide +kernel
theorem dX4_digest_40 : decode cX4_digest 40 = .ok (.invokevirtual 175, 3) := by decide +kernel
theorem dX4_digest_43 : decode cX4_digest 43 = .ok (.invokestatic 178, 3) := by decide +kernel
theorem dX4_digest_46 : decode cX4_digest 46 = .ok (.lstore_n 1, 1) := by decide +kernel
theorem dX4_digest_47 : decode cX4_digest 47 = .ok (.iinc 3 1, 3) := by decide +kernel
theorem dX4_digest_50 : decode cX4_digest 50 = .ok (.goto (-18), 3) := by decide +kernel
theorem dX4_digest_53 : decode cX4_digest 53 = .ok (.iconst 0, 1) := by decide +kernel
theorem dX4_digest_54 : decode cX4_digest 54 = .ok (.istore_n 3, 1) := by decide +kernel
theorem dX4_digest_55 : decode cX4_digest 55 = .ok (.iload_n 3, 1) := by decide +kernel
theorem dX4_digest_56 : decode cX4_digest 56 = .ok (.iconst 2, 1) := by decide +kernel
theorem dX4_digest_57 : decode cX4_digest 57 = .ok (.if_icmp .ge 71, 3) := by decide +kernel
theorem dX4_digest_60 : decode cX4_digest 60 = .ok (.aload_n 0, 1) := by decide +kernel
theorem dX4_digest_61 : decode cX4_digest 61 = .ok (.getfield 19, 3) := by decide +kernel
theorem dX4_digest_64 : decode cX4_digest 64 = .ok (.getfield 53, 3) := by decide +kernel
theorem dX4_digest_67 : decode cX4_digest 67 = .ok (.ifCond .le 61, 3) := by decide +kernel
theorem dX4_digest_70 : decode cX4_digest 70 = .ok (.aload_n 0, 1) := by decide +kernel
theorem dX4_digest_71 : decode cX4_digest 71 = .ok (.getfield 26, 3) := by decide +kernel
theorem dX4_digest_74 : decode cX4_digest 74 = .ok (.aload_n 0, 1) := by decide +kernel
theorem dX4_digest_75 : decode cX4_digest 75 = .ok (.getfield 19, 3) := by decide +kernel
theorem dX4_digest_78 : decode cX4_digest 78 = .ok (.bipush 7, 2) := by decide +kernel
theorem dX4_digest_80 : decode cX4_digest 80 = .ok (.iload_n 3, 1) := by decide +kernel
theorem dX4_digest_81 : decode cX4_digest 81 = .ok (.iconst 1, 1) := by decide +kernel
theorem dX4_digest_82 : decode cX4_digest 82 = .ok (.if_icmp .ne 7, 3) := by decide +kernel
theorem dX4_digest_85 : decode cX4_digest 85 = .ok (.iconst 1, 1) := by decide +kernel
theorem dX4_digest_86 : decode cX4_digest 86 = .ok (.goto 4, 3) := by decide +kernel
theorem dX4_digest_89 : decode cX4_digest 89 = .ok (.iconst 0, 1) := by decide +kernel
theorem dX4_digest_90 : decode cX4_digest 90 = .ok (.invokevirtual 153, 3) := by decide +kernel
theorem dX4_digest_93 : decode cX4_digest 93 = .ok (.iconst 0, 1) := by decide +kernel
theorem dX4_digest_94 : decode cX4_digest 94 = .ok (.istore 4, 2) := by decide +kernel
theorem dX4_digest_96 : decode cX4_digest 96 = .ok (.iload 4, 2) := by decide +kernel
theorem dX4_digest_98 : decode cX4_digest 98 = .ok (.iconst 2, 1) := by decide +kernel
theorem dX4_digest_99 : decode cX4_digest 99 = .ok (.if_icmp .gt 23, 3) := by decide +kernel
theorem dX4_digest_102 : decode cX4_digest 102 = .ok (.lload_n 1, 1) := by decide +kernel
theorem dX4_digest_103 : decode cX4_digest 103 = .ok (.aload_n 0, 1) := by decide +kernel
theorem dX4_digest_104 : decode cX4_digest 104 = .ok (.getfield 26, 3) := by decide +kernel
theorem dX4_digest_107 : decode cX4_digest 107 = .ok (.iload 4, 2) := by decide +kernel
theorem dX4_digest_109 : decode cX4_digest 109 = .ok (.invokevirtual 157, 3) := by decide +kernel
theorem dX4_digest_112 : decode cX4_digest 112 = .ok (.invokestatic 178, 3) := by decide +kernel
theorem dX4_digest_115 : decode cX4_digest 115 = .ok (.lstore_n 1, 1) := by decide +kernel
theorem dX4_digest_116 : decode cX4_digest 116 = .ok (.iinc 4 1, 3) := by decide +kernel
theorem dX4_digest_119 : decode cX4_digest 119 = .ok (.goto (-23), 3) := by decide +kernel
theorem dX4_digest_122 : decode cX4_digest 122 = .ok (.iinc 3 1, 3) := by decide +kernel
theorem dX4_digest_125 : decode cX4_digest 125 = .ok (.goto (-70), 3) := by decide +kernel
theorem dX4_digest_128 : decode cX4_digest 128 = .ok (.iconst 0, 1) := by decide +kernel
theorem dX4_digest_129 : decode cX4_digest 129 = .ok (.istore_n 3, 1) := by decide +kernel
theorem dX4_digest_130 : decode cX4_digest 130 = .ok (.iload_n 3, 1) := by decide +kernel
theorem dX4_digest_131 : decode cX4_digest 131 = .ok (.aload_n 0, 1) := by decide +kernel
theorem dX4_digest_132 : decode cX4_digest 132 = .ok (.getfield 10, 3) := by decide +kernel
theorem dX4_digest_135 : decode cX4_digest 135 = .ok (.getfield 30, 3) := by decide +kernel
theorem dX4_digest_138 : decode cX4_digest 138 = .ok (.if_icmp .ge 23, 3) := by decide +kernel
theorem dX4_digest_141 : decode cX4_digest 141 = .ok (.lload_n 1, 1) := by decide +kernel
theorem dX4_digest_142 : decode cX4_digest 142 = .ok (.aload_n 0, 1) := by decide +kernel
theorem dX4_digest_143 : decode cX4_digest 143 = .ok (.getfield 10, 3) := by decide +kernel
theorem dX4_digest_146 : decode cX4_digest 146 = .ok (.getfield 181, 3) := by decide +kernel
theorem dX4_digest_149 : decode cX4_digest 149 = .ok (.iload_n 3, 1) := by decide +kernel
theorem dX4_digest_150 : decode cX4_digest 150 = .ok (.iaload, 1) := by decide +kernel
theorem dX4_digest_151 : decode cX4_digest 151 = .ok (.invokestatic 178, 3) := by decide +kernel
theorem dX4_digest_154 : decode cX4_digest 154 = .ok (.lstore_n 1, 1) := by decide +kernel
theorem dX4_digest_155 : decode cX4_digest 155 = .ok (.iinc 3 1, 3) := by decide +kernel
theorem dX4_digest_158 : decode cX4_digest 158 = .ok (.goto (-28), 3) := by decide +kernel
theorem dX4_digest_161 : decode cX4_digest 161 = .ok (.iconst 0, 1) := by decide +kernel
theorem dX4_digest_162 : decode cX4_digest 162 = .ok (.istore_n 3, 1) := by decide +kernel
theorem dX4_digest_163 : decode cX4_digest 163 = .ok (.iload_n 3, 1) := by decide +kernel
theorem dX4_digest_164 : decode cX4_digest 164 = .ok (.bipush 12, 2) := by decide +kernel
theorem dX4_digest_166 : decode cX4_digest 166 = .ok (.if_icmp .ge 19, 3) := by decide +kernel
theorem dX4_digest_169 : decode cX4_digest 169 = .ok (.lload_n 1, 1) := by decide +kernel
theorem dX4_digest_170 : decode cX4_digest 170 = .ok (.aload_n 0, 1) := by decide +kernel
theorem dX4_digest_171 : decode cX4_digest 171 = .ok (.iload_n 3, 1) := by decide +kernel
theorem dX4_digest_172 : decode cX4_digest 172 = .ok (.invokevirtual 184, 3) := by decide +kernel
theorem dX4_digest_175 : decode cX4_digest 175 = .ok (.invokestatic 178, 3) := by decide +kernel
theorem dX4_digest_178 : decode cX4_digest 178 = .ok (.lstore_n 1, 1) := by decide +kernel
theorem dX4_digest_179 : decode cX4_digest 179 = .ok (.iinc 3 1, 3) := by decide +kernel
theorem dX4_digest_182 : decode cX4_digest 182 = .ok (.goto (-19), 3) := by decide +kernel
theorem dX4_digest_185 : decode cX4_digest 185 = .ok (.lload_n 1, 1) := by decide +kernel
theorem dX4_digest_186 : decode cX4_digest 186 = .ok (.lreturn, 1) := by decide +kernel
theorem dX4_mixSite_0 : decode cX4_mixSite 0 = .ok (.lload_n 1, 1) := by decide +kernel
theorem dX4_mixSite_1 : decode cX4_mixSite 1 = .ok (.lstore 4, 2) := by decide +kernel
theorem dX4_mixSite_3 : decode cX4_mixSite 3 = .ok (.iconst 0, 1) := by decide +kernel
theorem dX4_mixSite_4 : decode cX4_mixSite 4 = .ok (.istore 6, 2) := by decide +kernel
theorem dX4_mixSite_6 : decode cX4_mixSite 6 = .ok (.iload 6, 2) := by decide +kernel
theorem dX4_mixSite_8 : decode cX4_mixSite 8 = .ok (.iconst 4, 1) := by decide +kernel
theorem dX4_mixSite_9 : decode cX4_mixSite 9 = .ok (.if_icmp .ge 41, 3) := by decide +kernel
theorem dX4_mixSite_12 : decode cX4_mixSite 12 = .ok (.iconst 0, 1) := by decide +kernel
theorem dX4_mixSite_13 : decode cX4_mixSite 13 = .ok (.istore 7, 2) := by decide +kernel
theorem dX4_mixSite_15 : decode cX4_mixSite 15 = .ok (.iload 7, 2) := by decide +kernel
theorem dX4_mixSite_17 : decode cX4_mixSite 17 = .ok (.bipush 6, 2) := by decide +kernel
theorem dX4_mixSite_19 : decode cX4_mixSite 19 = .ok (.if_icmp .gt 25, 3) := by decide +kernel
theorem dX4_mixSite_22 : decode cX4_mixSite 22 = .ok (.lload 4, 2) := by decide +kernel
theorem dX4_mixSite_24 : decode cX4_mixSite 24 = .ok (.aload_n 0, 1) := by decide +kernel
theorem dX4_mixSite_25 : decode cX4_mixSite 25 = .ok (.iload_n 3, 1) := by decide +kernel
theorem dX4_mixSite_26 : decode cX4_mixSite 26 = .ok (.iload 6, 2) := by decide +kernel
theorem dX4_mixSite_28 : decode cX4_mixSite 28 = .ok (.iload 7, 2) := by decide +kernel
theorem dX4_mixSite_30 : decode cX4_mixSite 30 = .ok (.invokevirtual 187, 3) := by decide +kernel
theorem dX4_mixSite_33 : decode cX4_mixSite 33 = .ok (.invokestatic 178, 3) := by decide +kernel
theorem dX4_mixSite_36 : decode cX4_mixSite 36 = .ok (.lstore 4, 2) := by decide +kernel
theorem dX4_mixSite_38 : decode cX4_mixSite 38 = .ok (.iinc 7 1, 3) := by decide +kernel
theorem dX4_mixSite_41 : decode cX4_mixSite 41 = .ok (.goto (-26), 3) := by decide +kernel
theorem dX4_mixSite_44 : decode cX4_mixSite 44 = .ok (.iinc 6 1, 3) := by decide +kernel
theorem dX4_mixSite_47 : decode cX4_mixSite 47 = .ok (.goto (-41), 3) := by decide +kernel
theorem dX4_mixSite_50 : decode cX4_mixSite 50 = .ok (.iconst 0, 1) := by decide +kernel
theorem dX4_mixSite_51 : decode cX4_mixSite 51 = .ok (.istore 6, 2) := by decide +kernel
theorem dX4_mixSite_53 : decode cX4_mixSite 53 = .ok (.iload 6, 2) := by decide +kernel
theorem dX4_mixSite_55 : decode cX4_mixSite 55 = .ok (.iconst 2, 1) := by decide +kernel
theorem dX4_mixSite_56 : decode cX4_mixSite 56 = .ok (.if_icmp .gt 23, 3) := by decide +kernel
theorem dX4_mixSite_59 : decode cX4_mixSite 59 = .ok (.lload 4, 2) := by decide +kernel
theorem dX4_mixSite_61 : decode cX4_mixSite 61 = .ok (.aload_n 0, 1) := by decide +kernel
theorem dX4_mixSite_62 : decode cX4_mixSite 62 = .ok (.iload_n 3, 1) := by decide +kernel
theorem dX4_mixSite_63 : decode cX4_mixSite 63 = .ok (.iload 6, 2) := by decide +kernel
theorem dX4_mixSite_65 : decode cX4_mixSite 65 = .ok (.invokevirtual 190, 3) := by decide +kernel
theorem dX4_mixSite_68 : decode cX4_mixSite 68 = .ok (.invokestatic 178, 3) := by decide +kernel
theorem dX4_mixSite_71 : decode cX4_mixSite 71 = .ok (.lstore 4, 2) := by decide +kernel
theorem dX4_mixSite_73 : decode cX4_mixSite 73 = .ok (.iinc 6 1, 3) := by decide +kernel
theorem dX4_mixSite_76 : decode cX4_mixSite 76 = .ok (.goto (-23), 3) := by decide +kernel
theorem dX4_mixSite_79 : decode cX4_mixSite 79 = .ok (.iconst 0, 1) := by decide +kernel
theorem dX4_mixSite_80 : decode cX4_mixSite 80 = .ok (.istore 6, 2) := by decide +kernel
theorem dX4_mixSite_82 : decode cX4_mixSite 82 = .ok (.iload 6, 2) := by decide +kernel
theorem dX4_mixSite_84 : decode cX4_mixSite 84 = .ok (.aload_n 0, 1) := by decide +kernel
theorem dX4_mixSite_85 : decode cX4_mixSite 85 = .ok (.getfield 19, 3) := by decide +kernel
theorem dX4_mixSite_88 : decode cX4_mixSite 88 = .ok (.getfield 53, 3) := by decide +kernel
theorem dX4_mixSite_91 : decode cX4_mixSite 91 = .ok (.if_icmp .ge 23, 3) := by decide +kernel
theorem dX4_mixSite_94 : decode cX4_mixSite 94 = .ok (.lload 4, 2) := by decide +kernel
theorem dX4_mixSite_96 : decode cX4_mixSite 96 = .ok (.aload_n 0, 1) := by decide +kernel
theorem dX4_mixSite_97 : decode cX4_mixSite 97 = .ok (.iload_n 3, 1) := by decide +kernel
theorem dX4_mixSite_98 : decode cX4_mixSite 98 = .ok (.iload 6, 2) := by decide +kernel
theorem dX4_mixSite_100 : decode cX4_mixSite 100 = .ok (.invokevirtual 193, 3) := by decide +kernel
theorem dX4_mixSite_103 : decode cX4_mixSite 103 = .ok (.invokestatic 178, 3) := by decide +kernel
theorem dX4_mixSite_106 : decode cX4_mixSite 106 = .ok (.lstore 4, 2) := by decide +kernel
theorem dX4_mixSite_108 : decode cX4_mixSite 108 = .ok (.iinc 6 1, 3) := by decide +kernel
theorem dX4_mixSite_111 : decode cX4_mixSite 111 = .ok (.goto (-29), 3) := by decide +kernel
theorem dX4_mixSite_114 : decode cX4_mixSite 114 = .ok (.lload 4, 2) := by decide +kernel
theorem dX4_mixSite_116 : decode cX4_mixSite 116 = .ok (.lreturn, 1) := by decide +kernel
theorem dX4_mix_0 : decode cX4_mix 0 = .ok (.ldc2_w 196, 3) := by decide +kernel
theorem dX4_mix_3 : decode cX4_mix 3 = .ok (.lload_n 0, 1) := by decide +kernel
theorem dX4_mix_4 : decode cX4_mix 4 = .ok (.lmul, 1) := by decide +kernel
theorem dX4_mix_5 : decode cX4_mix 5 = .ok (.iload_n 2, 1) := by decide +kernel
theorem dX4_mix_6 : decode cX4_mix 6 = .ok (.i2l, 1) := by decide +kernel
theorem dX4_mix_7 : decode cX4_mix 7 = .ok (.ladd, 1) := by decide +kernel
theorem dX4_mix_8 : decode cX4_mix 8 = .ok (.lreturn, 1) := by decide +kernel
theorem dX4_isKey_0 : decode cX4_isKey 0 = .ok (.iload_n 0, 1) := by decide +kernel
theorem dX4_isKey_1 : decode cX4_isKey 1 = .ok (.ifCond .lt 12, 3) := by decide +kernel
theorem dX4_isKey_4 : decode cX4_isKey 4 = .ok (.iload_n 0, 1) := by decide +kernel
theorem dX4_isKey_5 : decode cX4_isKey 5 = .ok (.iconst 4, 1) := by decide +kernel
theorem dX4_isKey_6 : decode cX4_isKey 6 = .ok (.if_icmp .ge 7, 3) := by decide +kernel
theorem dX4_isKey_9 : decode cX4_isKey 9 = .ok (.iconst 1, 1) := by decide +kernel
theorem dX4_isKey_10 : decode cX4_isKey 10 = .ok (.goto 4, 3) := by decide +kernel
theorem dX4_isKey_13 : decode cX4_isKey 13 = .ok (.iconst 0, 1) := by decide +kernel
theorem dX4_isKey_14 : decode cX4_isKey 14 = .ok (.ireturn, 1) := by decide +kernel
theorem dX4_nextSeed_0 : decode cX4_nextSeed 0 = .ok (.ldc2_w 198, 3) := by decide +kernel
theorem dX4_nextSeed_3 : decode cX4_nextSeed 3 = .ok (.iload_n 0, 1) := by decide +kernel
theorem dX4_nextSeed_4 : decode cX4_nextSeed 4 = .ok (.i2l, 1) := by decide +kernel
theorem dX4_nextSeed_5 : decode cX4_nextSeed 5 = .ok (.lmul, 1) := by decide +kernel
theorem dX4_nextSeed_6 : decode cX4_nextSeed 6 = .ok (.ldc2_w 200, 3) := by decide +kernel
theorem dX4_nextSeed_9 : decode cX4_nextSeed 9 = .ok (.ladd, 1) := by decide +kernel
theorem dX4_nextSeed_10 : decode cX4_nextSeed 10 = .ok (.ldc2_w 202, 3) := by decide +kernel
theorem dX4_nextSeed_13 : decode cX4_nextSeed 13 = .ok (.land, 1) := by decide +kernel
theorem dX4_nextSeed_14 : decode cX4_nextSeed 14 = .ok (.l2i, 1) := by decide +kernel
theorem dX4_nextSeed_15 : decode cX4_nextSeed 15 = .ok (.ireturn, 1) := by decide +kernel
end
section
set_option maxRecDepth 100000 in
set_option maxHeartbeats 4000000 in
theorem c_X1_append (l : Launch) (G : lc_G) (σ : lc_S) (p : Nat) (code : Int32) (hp : σ.2.1 10 0 = nI p) (hp6 : p < 6) : lc_M l G yX1_append cX1_append 2 none { frames := 0, cells := 0, slots := 0, locals := 0 } [.ref (G.1 (1)), .int (code)] (σ) none (lc_uo (lc_uo σ 9 p code) 10 0 (nI (p + 1))) := by
  refine lc_entry [(0, .ref (G.1 (1))), (1, .int (code))] (by decide) (Nat.le_of_ble_eq_true rfl) rfl rfl rfl ?_
  intro Γ hR
  refine lc_aload_n 0 dX1_append_0 rfl ?_
  refine lc_g_len fl_X1_15 dX1_append_1 ?_
  refine lc_bipush (v := 6) dX1_append_4 (by decide) ?_
  refine lc_icmp_ge 29 dX1_append_6 (by decide) (fun h => absurd h.1 (by rw [hp]; exact nI_ge (b := 6) hp6 (by omega))) (fun _ => ?_)
  refine lc_aload_n 0 dX1_append_9 rfl ?_
  refine lc_g_codes fl_X1_9 dX1_append_10 ?_
  refine lc_aload_n 0 dX1_append_13 rfl ?_
  refine lc_g_len fl_X1_15 dX1_append_14 ?_
  refine lc_iload_n 1 dX1_append_17 rfl ?_
  refine lc_s_codes p (hp) (by omega) dX1_append_18 ?_
  refine lc_aload_n 0 dX1_append_19 rfl ?_
  refine lc_dup dX1_append_20 rfl ?_
  refine lc_g_len fl_X1_15 dX1_append_21 ?_
  refine lc_iconst (v := 1) dX1_append_24 (by decide) ?_
  refine lc_iadd dX1_append_25 ?_
  refine lc_topi (nI (p + 1)) (by show σ.2.1 10 0 + 1 = _; rw [hp]; exact nI_1 p) ?_
  refine lc_p_len fl_X1_15 dX1_append_26 ?_
  exact lc_vret hR dX1_append_29 (rfl)

set_option maxRecDepth 100000 in
set_option maxHeartbeats 4000000 in
theorem c_X1_firstWrongPlace (l : Launch) (G : lc_G) (σ : lc_S) (p : Nat) (hp : σ.2.1 10 0 = nI p) (hp6 : p ≤ 6) : lc_M l G yX1_firstWrongPlace cX1_firstWrongPlace 4 (some .int) { frames := 0, cells := 0, slots := 0, locals := 0 } [.ref (G.1 (1))] (σ) (some (.int (sp_fw (σ.2.1 9) p 0 48))) (σ) := by
  refine lc_entry [(0, .ref (G.1 (1)))] (by decide) (Nat.le_of_ble_eq_true rfl) rfl rfl rfl ?_
  intro Γ hR
  refine lc_bipush (v := 48) dX1_firstWrongPlace_0 (by decide) ?_
  refine lc_istore_n [(1, .int (48)), (0, .ref (G.1 (1)))] dX1_firstWrongPlace_2 (by decide) rfl ?_
  refine lc_iconst (v := 0) dX1_firstWrongPlace_3 (by decide) ?_
  refine lc_istore_n [(2, .int (0)), (1, .int (48)), (0, .ref (G.1 (1)))] dX1_firstWrongPlace_4 (by decide) rfl ?_
  refine lc_lv (lv' := [(0, .ref (G.1 (1))), (1, .int (48)), (2, .int (0))]) [2, 1, 0] rfl ?_
  have KL : ∀ (f i : Nat) (t : Int32), i + f = p → sp_fw (σ.2.1 9) f i t = sp_fw (σ.2.1 9) p 0 48 → lc_V G Γ cX1_firstWrongPlace 4 RX1 5 [(0, .ref (G.1 (1))), (1, .int (t)), (2, .int (nI i))] [] (σ) := by
    intro f
    induction f with
    | zero =>
      intro i t hf hr 
      have hi : i = p := by omega
      refine lc_iload_n 2 dX1_firstWrongPlace_5 rfl ?_
      refine lc_aload_n 0 dX1_firstWrongPlace_6 rfl ?_
      refine lc_g_len fl_X1_15 dX1_firstWrongPlace_7 ?_
      refine lc_icmp_ge 41 dX1_firstWrongPlace_10 (by decide) (fun _ => ?_) (fun h => absurd h.1 (by rw [hp]; rw [hi]; exact nI_nlt (a := p) (b := p) (Nat.le_refl _) (by omega)))
      refine lc_aload_n 0 dX1_firstWrongPlace_41 rfl ?_
      refine lc_g_len fl_X1_15 dX1_firstWrongPlace_42 ?_
      exact lc_iret hR dX1_firstWrongPlace_45 (by rw [hp, ← hr, hi]; rfl) (rfl)
    | succ f ih =>
      intro i t hf hr 
      have hi : i < p := by omega
      refine lc_iload_n 2 dX1_firstWrongPlace_5 rfl ?_
      refine lc_aload_n 0 dX1_firstWrongPlace_6 rfl ?_
      refine lc_g_len fl_X1_15 dX1_firstWrongPlace_7 ?_
      refine lc_icmp_ge 41 dX1_firstWrongPlace_10 (by decide) (fun h => absurd h.1 (by rw [hp]; exact nI_ge (b := p) hi (by omega))) (fun _ => ?_)
      refine lc_aload_n 0 dX1_firstWrongPlace_13 rfl ?_
      refine lc_g_codes fl_X1_9 dX1_firstWrongPlace_14 ?_
      refine lc_iload_n 2 dX1_firstWrongPlace_17 rfl ?_
      refine lc_iald (2) i (by omega) (rfl) (rfl) (by omega) (by decide) dX1_firstWrongPlace_18 ?_
      refine lc_istore_n [(3, .int (σ.2.1 9 i)), (0, .ref (G.1 (1))), (1, .int (t)), (2, .int (nI i))] dX1_firstWrongPlace_19 (by decide) rfl ?_
      refine lc_iload_n 0 dX1_firstWrongPlace_20 rfl ?_
      refine lc_iload_n 2 dX1_firstWrongPlace_21 rfl ?_
      refine lc_icmp_lt 31 dX1_firstWrongPlace_22 (by decide) (fun c_3 => ?_) (fun c_3 => ?_)
      · skip
        refine lc_iload_n 3 dX1_firstWrongPlace_31 rfl ?_
        exact lc_iret hR dX1_firstWrongPlace_32 (by rw [← hr]; simp [sp_fw, c_3]) (rfl)
      · skip
        refine lc_iload_n 0 dX1_firstWrongPlace_25 rfl ?_
        refine lc_bipush (v := 57) dX1_firstWrongPlace_26 (by decide) ?_
        refine lc_icmp_le 33 dX1_firstWrongPlace_28 (by decide) (fun c_4 => ?_) (fun c_4 => ?_)
        · skip
          refine lc_iload_n 0 dX1_firstWrongPlace_33 rfl ?_
          refine lc_istore_n [(1, .int (σ.2.1 9 i)), (3, .int (σ.2.1 9 i)), (0, .ref (G.1 (1))), (2, .int (nI i))] dX1_firstWrongPlace_34 (by decide) rfl ?_
          refine lc_iinc 3 (nI (i + 1)) [(2, .int (nI (i + 1))), (1, .int (σ.2.1 9 i)), (3, .int (σ.2.1 9 i)), (0, .ref (G.1 (1)))] dX1_firstWrongPlace_35 rfl (lc_inc1 i) (by decide) rfl ?_
          refine lc_goto 5 dX1_firstWrongPlace_38 (by decide) ?_
          refine lc_lv (lv' := [(0, .ref (G.1 (1))), (1, .int (σ.2.1 9 i)), (2, .int (nI (i + 1)))]) [3, 1, 0] rfl ?_
          exact ih (i + 1) (σ.2.1 9 i) (by omega) (by rw [← hr]; simp [sp_fw, c_3, c_4]) 
        · skip
          refine lc_iload_n 3 dX1_firstWrongPlace_31 rfl ?_
          exact lc_iret hR dX1_firstWrongPlace_32 (by rw [← hr]; simp [sp_fw, c_3, c_4]) (rfl)
  exact KL p 0 48 (by omega) rfl 

set_option maxRecDepth 100000 in
set_option maxHeartbeats 4000000 in
theorem c_X1_isLine (l : Launch) (G : lc_G) (σ : lc_S) (p : Nat) (hp : σ.2.1 10 0 = nI p) (hp6 : p ≤ 6) : lc_M l G yX1_isLine cX1_isLine 1 (some .boolean) { frames := 1, cells := 0, slots := 0, locals := 23 } [.ref (G.1 (1))] (σ) (some (.int (lc_bi (sp_isl (σ.2.1 9) p)))) (σ) := by
  refine lc_entry [(0, .ref (G.1 (1)))] (by decide) (Nat.le_of_ble_eq_true rfl) rfl rfl rfl ?_
  intro Γ hR
  refine lc_aload_n 0 dX1_isLine_0 rfl ?_
  refine lc_g_len fl_X1_15 dX1_isLine_1 ?_
  refine lc_iconst (v := 2) dX1_isLine_4 (by decide) ?_
  by_cases h2 : 2 ≤ p
  · skip
    refine lc_icmp_lt 23 dX1_isLine_5 (by decide) (fun h => absurd h.1 (by rw [hp]; exact nI_nlt (a := p) (b := 2) h2 (by omega))) (fun _ => ?_)
    refine lc_aload_n 0 dX1_isLine_8 rfl ?_
    refine lc_callV (1) (c_X1_firstWrongPlace l G (σ) p hp (by omega)) hR.2.2.2.1 hR.2.2.2.2 mt_X1_firstWrongPlace (by omega) (rfl) rfl ml_X1_19 rfl rfl (Nat.le_of_ble_eq_true rfl) ⟨⟨rfl, rfl⟩, Nat.le_of_ble_eq_true rfl, Nat.le_of_ble_eq_true rfl⟩ dX1_isLine_9 ?_
    show lc_V _ _ _ _ _ 12 _ [.int (sp_fw (σ.2.1 9) p 0 48)] (σ)
    refine lc_aload_n 0 dX1_isLine_12 rfl ?_
    refine lc_g_len fl_X1_15 dX1_isLine_13 ?_
    refine lc_icmp_ne 23 dX1_isLine_16 (by decide) (fun c_2 => ?_) (fun c_2 => ?_)
    · skip
      refine lc_iconst (v := 0) dX1_isLine_23 (by decide) ?_
      exact lc_zret hR dX1_isLine_24 (by rw [hp] at c_2; simp [sp_isl, h2, lc_bi, c_2]) (rfl)
    · skip
      refine lc_iconst (v := 1) dX1_isLine_19 (by decide) ?_
      refine lc_goto 24 dX1_isLine_20 (by decide) ?_
      exact lc_zret hR dX1_isLine_24 (by rw [hp] at c_2; simp [sp_isl, h2, lc_bi, c_2]) (rfl)
  · skip
    refine lc_icmp_lt 23 dX1_isLine_5 (by decide) (fun _ => ?_) (fun h => absurd h.1 (by rw [hp]; exact nI_ge (a := p) (b := 2) (by omega) (by omega)))
    refine lc_iconst (v := 0) dX1_isLine_23 (by decide) ?_
    exact lc_zret hR dX1_isLine_24 (by simp [sp_isl, h2, lc_bi]) (rfl)

set_option maxRecDepth 100000 in
set_option maxHeartbeats 4000000 in
theorem c_X4_isKey (l : Launch) (G : lc_G) (σ : lc_S) (k : Int32) : lc_M l G yX4_isKey cX4_isKey 1 (some .boolean) { frames := 0, cells := 0, slots := 0, locals := 0 } [.int (k)] (σ) (some (.int (lc_bi (sp_key k)))) (σ) := by
  refine lc_entry [(0, .int (k))] (by decide) (Nat.le_of_ble_eq_true rfl) rfl rfl rfl ?_
  intro Γ hR
  refine lc_iload_n 0 dX4_isKey_0 rfl ?_
  refine lc_if_lt 13 dX4_isKey_1 (by decide) (fun c_1 => ?_) (fun c_1 => ?_)
  · skip
    refine lc_iconst (v := 0) dX4_isKey_13 (by decide) ?_
    exact lc_zret hR dX4_isKey_14 (by simp [sp_key, lc_bi, c_1]) (rfl)
  · skip
    refine lc_iload_n 0 dX4_isKey_4 rfl ?_
    refine lc_iconst (v := 4) dX4_isKey_5 (by decide) ?_
    refine lc_icmp_ge 13 dX4_isKey_6 (by decide) (fun c_2 => ?_) (fun c_2 => ?_)
    · skip
      refine lc_iconst (v := 0) dX4_isKey_13 (by decide) ?_
      exact lc_zret hR dX4_isKey_14 (by simp [sp_key, lc_bi, c_1, c_2]) (rfl)
    · skip
      refine lc_iconst (v := 1) dX4_isKey_9 (by decide) ?_
      refine lc_goto 14 dX4_isKey_10 (by decide) ?_
      exact lc_zret hR dX4_isKey_14 (by simp [sp_key, lc_bi, c_1, c_2]) (rfl)

set_option maxRecDepth 100000 in
set_option maxHeartbeats 4000000 in
theorem c_X4_nextSeed (l : Launch) (G : lc_G) (σ : lc_S) (s : Int32) : lc_M l G yX4_nextSeed cX4_nextSeed 1 (some .int) { frames := 0, cells := 0, slots := 0, locals := 0 } [.int (s)] (σ) (some (.int (sp_next s))) (σ) := by
  refine lc_entry [(0, .int (s))] (by decide) (Nat.le_of_ble_eq_true rfl) rfl rfl rfl ?_
  intro Γ hR
  refine lc_ldc2 kc_X4_198 dX4_nextSeed_0 ?_
  refine lc_iload_n 0 dX4_nextSeed_3 rfl ?_
  refine lc_i2l dX4_nextSeed_4 ?_
  refine lc_lmul dX4_nextSeed_5 ?_
  refine lc_ldc2 kc_X4_200 dX4_nextSeed_6 ?_
  refine lc_ladd dX4_nextSeed_9 ?_
  refine lc_ldc2 kc_X4_202 dX4_nextSeed_10 ?_
  refine lc_land dX4_nextSeed_13 ?_
  refine lc_l2i dX4_nextSeed_14 ?_
  exact lc_iret hR dX4_nextSeed_15 (rfl) (rfl)

set_option maxRecDepth 100000 in
set_option maxHeartbeats 4000000 in
theorem c_X4_mix (l : Launch) (G : lc_G) (σ : lc_S) (h : Int64) (r : Int32) : lc_M l G yX4_mix cX4_mix 3 (some .long) { frames := 0, cells := 0, slots := 0, locals := 0 } [.long (h), .int (r)] (σ) (some (.long (sp_mx h r))) (σ) := by
  refine lc_entry [(0, .long (h)), (2, .int (r))] (by decide) (Nat.le_of_ble_eq_true rfl) rfl rfl rfl ?_
  intro Γ hR
  refine lc_ldc2 kc_X4_196 dX4_mix_0 ?_
  refine lc_lload_n 0 dX4_mix_3 rfl ?_
  refine lc_lmul dX4_mix_4 ?_
  refine lc_iload_n 1 dX4_mix_5 rfl ?_
  refine lc_i2l dX4_mix_6 ?_
  refine lc_ladd dX4_mix_7 ?_
  exact lc_lret hR dX4_mix_8 (rfl) (rfl)

set_option maxRecDepth 100000 in
set_option maxHeartbeats 4000000 in
theorem c_X2_playRound (l : Launch) (G : lc_G) (σ : lc_S) (sd : Int32) (y : lc_X) (n : Nat) (rum : Bool) (hn : n ≤ 6) (hs : y.1 7 0 = nI n) : lc_M l G yX2_playRound cX2_playRound 4 none { frames := 4, cells := 0, slots := 0, locals := 95 } [.ref (G.1 (3)), .int (lc_bi (rum))] (lc_w ((lc_uo σ 10 3 sd)) 1 y) none (lc_w ((lc_uo σ 10 3 (sp_rdC (σ.2.1 7) n rum (sd, y)).1)) 1 ((sp_rdC (σ.2.1 7) n rum (sd, y)).2)) := by
  refine lc_entry [(0, .ref (G.1 (3))), (1, .int (lc_bi (rum)))] (by decide) (Nat.le_of_ble_eq_true rfl) rfl rfl rfl ?_
  intro Γ hR
  refine lc_aload_n 0 dX2_playRound_0 rfl ?_
  refine lc_g_trial fl_X2_12 dX2_playRound_1 ?_
  refine lc_iconst (v := 1) dX2_playRound_4 (by decide) ?_
  refine lc_callV (5) (c_X3_advance l G ((lc_uo σ 10 3 sd)) 1 y n (by omega) (by omega) (hs) 1) hR.2.2.2.1 hR.2.2.2.2 mt_X3_advance (by omega) (rfl) rfl ml_X2_37 rfl rfl (Nat.le_of_ble_eq_true rfl) ⟨⟨rfl, rfl⟩, Nat.le_of_ble_eq_true rfl, Nat.le_of_ble_eq_true rfl⟩ dX2_playRound_5 ?_
  show lc_V _ _ _ _ _ 8 _ [.int ((sp_adv n y 1).1)] (lc_w ((lc_uo σ 10 3 sd)) 1 ((sp_adv n y 1).2))
  refine lc_pop dX2_playRound_8 rfl ?_
  refine lc_iconst (v := 0) dX2_playRound_9 (by decide) ?_
  refine lc_istore_n [(2, .int (0)), (0, .ref (G.1 (3))), (1, .int (lc_bi (rum)))] dX2_playRound_10 (by decide) rfl ?_
  refine lc_lv (lv' := [(0, .ref (G.1 (3))), (1, .int (lc_bi (rum))), (2, .int (0))]) [1, 2, 0] rfl ?_
  refine lc_forI (α := Int32 × lc_X) (fun i z => lc_V G Γ cX2_playRound 4 RX2 11 [(0, .ref (G.1 (3))), (1, .int (lc_bi (rum))), (2, .int (nI i))] [] (lc_w ((lc_uo σ 10 3 z.1)) 1 z.2)) (fun _ z => z.2.1 7 0 = nI n) (sp_trC (σ.2.1 7) n rum) n (fun i z _ h => by rw [(sp_trC_r _ _ _ _ _).2]; exact h) (fun i z hi hIi ki => ?_) ((sd, (sp_adv n y 1).2)) (by rw [sp_adv_70]; exact hs) (fun hIi => ?_)
  · skip
    show lc_V G Γ cX2_playRound 4 RX2 11 [(0, .ref (G.1 (3))), (1, .int (lc_bi (rum))), (2, .int (nI i))] [] (lc_w ((lc_uo σ 10 3 z.1)) 1 z.2)
    refine lc_iload_n 2 dX2_playRound_11 rfl ?_
    refine lc_aload_n 0 dX2_playRound_12 rfl ?_
    refine lc_g_trial fl_X2_12 dX2_playRound_13 ?_
    refine lc_gWSites 1 (by omega) fl_X2_41 dX2_playRound_16 ?_
    refine lc_icmp_ge 112 dX2_playRound_19 (by decide) (fun h => absurd h.1 (by rw [hIi]; exact nI_ge (b := n) hi (by omega))) (fun _ => ?_)
    refine lc_aload_n 0 dX2_playRound_22 rfl ?_
    refine lc_g_trial fl_X2_12 dX2_playRound_23 ?_
    refine lc_iload_n 2 dX2_playRound_26 rfl ?_
    refine lc_callV (5) (c_X3_isOff l G ((lc_uo σ 10 3 z.1)) 1 z.2 (nI i) (by omega)) hR.2.2.2.1 hR.2.2.2.2 mt_X3_isOff (by omega) (rfl) rfl ml_X2_44 rfl rfl (Nat.le_of_ble_eq_true rfl) ⟨⟨rfl, rfl⟩, Nat.le_of_ble_eq_true rfl, Nat.le_of_ble_eq_true rfl⟩ dX2_playRound_27 ?_
    show lc_V _ _ _ _ _ 30 _ [.int (lc_bi (sp_bit (z.2.1 7 2) (nI i)))] (lc_w ((lc_uo σ 10 3 z.1)) 1 z.2)
    refine lc_ifb_ne 106 dX2_playRound_30 (by decide) (fun c_2 => ?_) (fun c_2 => ?_)
    · skip
      refine lc_iinc 2 (nI (i + 1)) [(2, .int (nI (i + 1))), (0, .ref (G.1 (3))), (1, .int (lc_bi (rum)))] dX2_playRound_106 rfl (lc_inc1 i) (by decide) rfl ?_
      refine lc_goto 11 dX2_playRound_109 (by decide) ?_
      refine lc_lv (lv' := [(0, .ref (G.1 (3))), (1, .int (lc_bi (rum))), (2, .int (nI (i + 1)))]) [1, 2, 0] rfl ?_
      rw [show (sp_trC (σ.2.1 7) n rum) i z = (z.1, z.2) from by simp [sp_trC, c_2]] at ki
      exact ki
    · skip
      refine lc_aload_n 0 dX2_playRound_33 rfl ?_
      refine lc_g_trial fl_X2_12 dX2_playRound_34 ?_
      refine lc_iload_n 2 dX2_playRound_37 rfl ?_
      refine lc_callV (5) (c_X3_othersOn l G ((lc_uo σ 10 3 z.1)) 1 z.2 (nI i) (by omega)) hR.2.2.2.1 hR.2.2.2.2 mt_X3_othersOn (by omega) (rfl) rfl ml_X2_48 rfl rfl (Nat.le_of_ble_eq_true rfl) ⟨⟨rfl, rfl⟩, Nat.le_of_ble_eq_true rfl, Nat.le_of_ble_eq_true rfl⟩ dX2_playRound_38 ?_
      show lc_V _ _ _ _ _ 41 _ [.int (sp_othOn z.2.1 (nI i))] (lc_w ((lc_uo σ 10 3 z.1)) 1 z.2)
      refine lc_if_ne 47 dX2_playRound_41 (by decide) (fun c_3 => ?_) (fun c_3 => ?_)
      · skip
        refine lc_aload_n 0 dX2_playRound_47 rfl ?_
        refine lc_aload_n 0 dX2_playRound_48 rfl ?_
        refine lc_gw_seed 1 (by omega) fl_X2_22 dX2_playRound_49 ?_
        refine lc_topi (z.1) (rfl) ?_
        refine lc_callS (c_X4_nextSeed l G (lc_w ((lc_uo σ 10 3 z.1)) 1 z.2) z.1) hR.2.2.2.1 hR.2.2.2.2 mt_X4_nextSeed ml_X2_51 rfl rfl (Nat.le_of_ble_eq_true rfl) ⟨⟨rfl, rfl⟩, Nat.le_of_ble_eq_true rfl, Nat.le_of_ble_eq_true rfl⟩ dX2_playRound_52 ?_
        show lc_V _ _ _ _ _ 55 _ [.int (sp_next z.1), .ref (G.1 (3))] (lc_w ((lc_uo σ 10 3 z.1)) 1 z.2)
        refine lc_pw_seed 1 (by omega) fl_X2_22 dX2_playRound_55 ?_
        refine lc_eq (σ' := lc_w ((lc_uo σ 10 3 (sp_next z.1))) 1 z.2) (by rw [lc_uo_uo]) ?_
        refine lc_aload_n 0 dX2_playRound_58 rfl ?_
        refine lc_g_trial fl_X2_12 dX2_playRound_59 ?_
        refine lc_iload_n 2 dX2_playRound_62 rfl ?_
        refine lc_aload_n 0 dX2_playRound_63 rfl ?_
        refine lc_gw_seed 1 (by omega) fl_X2_22 dX2_playRound_64 ?_
        refine lc_topi (sp_next z.1) (rfl) ?_
        refine lc_callV (5) (c_X3_partnerBy l G ((lc_uo σ 10 3 (sp_next z.1))) 1 z.2 n i (sp_next z.1) (by omega) (by omega) (by omega) (hIi)) hR.2.2.2.1 hR.2.2.2.2 mt_X3_partnerBy (by omega) (rfl) rfl ml_X2_54 rfl rfl (Nat.le_of_ble_eq_true rfl) ⟨⟨rfl, rfl⟩, Nat.le_of_ble_eq_true rfl, Nat.le_of_ble_eq_true rfl⟩ dX2_playRound_67 ?_
        show lc_V _ _ _ _ _ 70 _ [.int (sp_partC z.2.1 (((lc_uo σ 10 3 (sp_next z.1))).2.1 7) i n (sp_next z.1))] (lc_w ((lc_uo σ 10 3 (sp_next z.1))) 1 z.2)
        refine lc_topi (sp_partC z.2.1 (σ.2.1 7) i n (sp_next z.1)) rfl ?_
        rcases sp_partC_cases z.2.1 (σ.2.1 7) i n (sp_next z.1) with hp | ⟨q, hq, hp⟩
        · skip
          refine lc_topi (-1) hp ?_
          refine lc_istore_n [(3, .int ((-1))), (0, .ref (G.1 (3))), (1, .int (lc_bi (rum))), (2, .int (nI i))] dX2_playRound_70 (by decide) rfl ?_
          refine lc_iload_n 0 dX2_playRound_71 rfl ?_
          refine lc_iconst (v := (-1)) dX2_playRound_72 (by decide) ?_
          refine lc_icmp_ne 79 dX2_playRound_73 (by decide) (fun h => absurd h (by decide)) (fun _ => ?_)
          refine lc_goto 106 dX2_playRound_76 (by decide) ?_
          refine lc_iinc 3 (nI (i + 1)) [(2, .int (nI (i + 1))), (3, .int ((-1))), (0, .ref (G.1 (3))), (1, .int (lc_bi (rum)))] dX2_playRound_106 rfl (lc_inc1 i) (by decide) rfl ?_
          refine lc_goto 11 dX2_playRound_109 (by decide) ?_
          refine lc_lv (lv' := [(0, .ref (G.1 (3))), (1, .int (lc_bi (rum))), (2, .int (nI (i + 1)))]) [2, 3, 0] rfl ?_
          rw [show (sp_trC (σ.2.1 7) n rum) i z = ((sp_next z.1), z.2) from by simp [sp_trC, c_2, c_3, hp]] at ki
          exact ki
        · skip
          refine lc_topi (nI q) hp ?_
          have hq1 : ¬ nI q = -1 := lc_nm1 (by omega)
          have hq2 : (nI q).toNatClampNeg = q := nI_clamp (by omega)
          refine lc_istore_n [(3, .int (nI q)), (0, .ref (G.1 (3))), (1, .int (lc_bi (rum))), (2, .int (nI i))] dX2_playRound_70 (by decide) rfl ?_
          refine lc_iload_n 0 dX2_playRound_71 rfl ?_
          refine lc_iconst (v := (-1)) dX2_playRound_72 (by decide) ?_
          refine lc_icmp_ne 79 dX2_playRound_73 (by decide) (fun _ => ?_) (fun h => absurd h hq1)
          refine lc_iload_n 2 dX2_playRound_79 rfl ?_
          refine lc_ifb_eq 96 dX2_playRound_80 (by decide) (fun c_6 => ?_) (fun c_6 => ?_)
          · skip
            refine lc_aload_n 1 dX2_playRound_96 rfl ?_
            refine lc_g_trial fl_X2_12 dX2_playRound_97 ?_
            refine lc_iload_n 3 dX2_playRound_100 rfl ?_
            refine lc_iload_n 0 dX2_playRound_101 rfl ?_
            refine lc_callV (5) (c_X3_compareAll l G ((lc_uo σ 10 3 (sp_next z.1))) 1 z.2 i q (by omega) (by omega) (by omega)) hR.2.2.2.1 hR.2.2.2.2 mt_X3_compareAll (by omega) (rfl) rfl ml_X2_61 rfl rfl (Nat.le_of_ble_eq_true rfl) ⟨⟨rfl, rfl⟩, Nat.le_of_ble_eq_true rfl, Nat.le_of_ble_eq_true rfl⟩ dX2_playRound_102 ?_
            show lc_V _ _ _ _ _ 105 _ [.int ((sp_cmp z.2 i q).1)] (lc_w ((lc_uo σ 10 3 (sp_next z.1))) 1 ((sp_cmp z.2 i q).2))
            refine lc_pop dX2_playRound_105 rfl ?_
            refine lc_iinc 3 (nI (i + 1)) [(2, .int (nI (i + 1))), (3, .int (nI q)), (0, .ref (G.1 (3))), (1, .int (lc_bi (rum)))] dX2_playRound_106 rfl (lc_inc1 i) (by decide) rfl ?_
            refine lc_goto 11 dX2_playRound_109 (by decide) ?_
            refine lc_lv (lv' := [(0, .ref (G.1 (3))), (1, .int (lc_bi (rum))), (2, .int (nI (i + 1)))]) [2, 3, 0] rfl ?_
            rw [show (sp_trC (σ.2.1 7) n rum) i z = ((sp_next z.1), (sp_cmp z.2 i q).2) from by simp [sp_trC, c_2, c_3, hp, hq1, hq2, c_6]] at ki
            exact ki
          · skip
            refine lc_aload_n 1 dX2_playRound_83 rfl ?_
            refine lc_g_trial fl_X2_12 dX2_playRound_84 ?_
            refine lc_iload_n 3 dX2_playRound_87 rfl ?_
            refine lc_iload_n 0 dX2_playRound_88 rfl ?_
            refine lc_callV (5) (c_X3_tellHot l G ((lc_uo σ 10 3 (sp_next z.1))) 1 z.2 i q (by omega) (by omega) (by omega)) hR.2.2.2.1 hR.2.2.2.2 mt_X3_tellHot (by omega) (rfl) rfl ml_X2_58 rfl rfl (Nat.le_of_ble_eq_true rfl) ⟨⟨rfl, rfl⟩, Nat.le_of_ble_eq_true rfl, Nat.le_of_ble_eq_true rfl⟩ dX2_playRound_89 ?_
            show lc_V _ _ _ _ _ 92 _ [.int ((sp_hots z.2 i q).1)] (lc_w ((lc_uo σ 10 3 (sp_next z.1))) 1 ((sp_hots z.2 i q).2))
            refine lc_pop dX2_playRound_92 rfl ?_
            refine lc_goto 106 dX2_playRound_93 (by decide) ?_
            refine lc_iinc 3 (nI (i + 1)) [(2, .int (nI (i + 1))), (3, .int (nI q)), (0, .ref (G.1 (3))), (1, .int (lc_bi (rum)))] dX2_playRound_106 rfl (lc_inc1 i) (by decide) rfl ?_
            refine lc_goto 11 dX2_playRound_109 (by decide) ?_
            refine lc_lv (lv' := [(0, .ref (G.1 (3))), (1, .int (lc_bi (rum))), (2, .int (nI (i + 1)))]) [2, 3, 0] rfl ?_
            rw [show (sp_trC (σ.2.1 7) n rum) i z = ((sp_next z.1), (sp_hots z.2 i q).2) from by simp [sp_trC, c_2, c_3, hp, hq1, hq2, c_6]] at ki
            exact ki
      · skip
        refine lc_goto 106 dX2_playRound_44 (by decide) ?_
        refine lc_iinc 2 (nI (i + 1)) [(2, .int (nI (i + 1))), (0, .ref (G.1 (3))), (1, .int (lc_bi (rum)))] dX2_playRound_106 rfl (lc_inc1 i) (by decide) rfl ?_
        refine lc_goto 11 dX2_playRound_109 (by decide) ?_
        refine lc_lv (lv' := [(0, .ref (G.1 (3))), (1, .int (lc_bi (rum))), (2, .int (nI (i + 1)))]) [1, 2, 0] rfl ?_
        rw [show (sp_trC (σ.2.1 7) n rum) i z = (z.1, z.2) from by simp [sp_trC, c_2, c_3]] at ki
        exact ki
  · skip
    have hIi2 : (sp_rdC (σ.2.1 7) n rum (sd, y)).2.1 7 0 = nI n := hIi
    show lc_V G Γ cX2_playRound 4 RX2 11 [(0, .ref (G.1 (3))), (1, .int (lc_bi (rum))), (2, .int (nI n))] [] (lc_w ((lc_uo σ 10 3 ((sp_rdC (σ.2.1 7) n rum (sd, y))).1)) 1 (((sp_rdC (σ.2.1 7) n rum (sd, y))).2))
    refine lc_iload_n 2 dX2_playRound_11 rfl ?_
    refine lc_aload_n 0 dX2_playRound_12 rfl ?_
    refine lc_g_trial fl_X2_12 dX2_playRound_13 ?_
    refine lc_gWSites 1 (by omega) fl_X2_41 dX2_playRound_16 ?_
    refine lc_icmp_ge 112 dX2_playRound_19 (by decide) (fun _ => ?_) (fun h => absurd h.1 (by rw [hIi2]; exact nI_nlt (a := n) (b := n) (Nat.le_refl _) (by omega)))
    exact lc_vret hR dX2_playRound_112 (rfl)

set_option maxRecDepth 100000 in
set_option maxHeartbeats 4000000 in
theorem c_X2_run (l : Launch) (G : lc_G) (σ : lc_S) (n : Nat) (seed : Int32) (rum : Bool) (hn : n ≤ 6) (hs : σ.1 0 7 0 = nI n) : lc_M l G yX2_run cX2_run 6 none { frames := 5, cells := 0, slots := 0, locals := 118 } [.ref (G.1 (3)), .ref (G.1 (4)), .int (seed), .int (lc_bi (rum))] (σ) none (lc_w ((lc_uo (lc_uo (sp_trial σ) 10 3 (sp_run (fun B => sp_aaC B n) (sp_rdC (σ.2.1 6) n rum) 40 0 (seed, (σ.1 0, 0, 0, 0))).2.1) 10 2 (sp_run (fun B => sp_aaC B n) (sp_rdC (σ.2.1 6) n rum) 40 0 (seed, (σ.1 0, 0, 0, 0))).1)) 1 ((sp_run (fun B => sp_aaC B n) (sp_rdC (σ.2.1 6) n rum) 40 0 (seed, (σ.1 0, 0, 0, 0))).2.2)) := by
  refine lc_entry [(0, .ref (G.1 (3))), (1, .ref (G.1 (4))), (2, .int (seed)), (3, .int (lc_bi (rum)))] (by decide) (Nat.le_of_ble_eq_true rfl) rfl rfl rfl ?_
  intro Γ hR
  refine lc_eq (σ' := lc_w σ 1 ((σ.1 1, 0, 0, 0))) ((lc_w_w σ 1).symm) ?_
  refine lc_aload_n 0 dX2_run_0 rfl ?_
  refine lc_g_trial fl_X2_12 dX2_run_1 ?_
  refine lc_aload_n 1 dX2_run_4 rfl ?_
  refine lc_callV (5) (c_X3_startTrial l G σ ((σ.1 1, 0, 0, 0))) hR.2.2.2.1 hR.2.2.2.2 mt_X3_startTrial (by omega) (rfl) rfl ml_X2_18 rfl rfl (Nat.le_of_ble_eq_true rfl) ⟨⟨rfl, rfl⟩, Nat.le_of_ble_eq_true rfl, Nat.le_of_ble_eq_true rfl⟩ dX2_run_5 ?_
  show lc_V _ _ _ _ _ 8 _ [] (lc_w ((sp_trial (lc_w σ 1 ((σ.1 1, 0, 0, 0))))) 1 ((σ.1 0, 0, 0, 0)))
  refine lc_eq (σ' := lc_w ((sp_trial σ)) 1 ((σ.1 0, 0, 0, 0))) (by rw [lc_w_w]) ?_
  refine lc_aload_n 0 dX2_run_8 rfl ?_
  refine lc_iload_n 2 dX2_run_9 rfl ?_
  refine lc_pw_seed 1 (by omega) fl_X2_22 dX2_run_10 ?_
  refine lc_aload_n 0 dX2_run_13 rfl ?_
  refine lc_g_trial fl_X2_12 dX2_run_14 ?_
  refine lc_callV (5) (c_X3_allOnAlike l G ((lc_uo ((sp_trial σ)) 10 3 seed)) 1 ((σ.1 0, 0, 0, 0)) n (by omega) (by omega) (hs)) hR.2.2.2.1 hR.2.2.2.2 mt_X3_allOnAlike (by omega) (rfl) rfl ml_X2_26 rfl rfl (Nat.le_of_ble_eq_true rfl) ⟨⟨rfl, rfl⟩, Nat.le_of_ble_eq_true rfl, Nat.le_of_ble_eq_true rfl⟩ dX2_run_17 ?_
  show lc_V _ _ _ _ _ 20 _ [.int (lc_bi (sp_aaC (σ.1 0) n))] (lc_w ((lc_uo ((sp_trial σ)) 10 3 seed)) 1 ((σ.1 0, 0, 0, 0)))
  refine lc_istore [(4, .int (lc_bi (sp_aaC (σ.1 0) n))), (0, .ref (G.1 (3))), (1, .ref (G.1 (4))), (2, .int (seed)), (3, .int (lc_bi (rum)))] dX2_run_20 (by decide) rfl ?_
  refine lc_iconst (v := 0) dX2_run_22 (by decide) ?_
  refine lc_istore [(5, .int (0)), (4, .int (lc_bi (sp_aaC (σ.1 0) n))), (0, .ref (G.1 (3))), (1, .ref (G.1 (4))), (2, .int (seed)), (3, .int (lc_bi (rum)))] dX2_run_23 (by decide) rfl ?_
  refine lc_lv (lv' := [(0, .ref (G.1 (3))), (1, .ref (G.1 (4))), (2, .int (seed)), (3, .int (lc_bi (rum))), (4, .int (lc_bi (sp_aaC (σ.1 0) n))), (5, .int (0))]) [2, 3, 4, 5, 1, 0] rfl ?_
  have KL : ∀ (f i : Nat) (sd : Int32) (y : lc_X), i + f = 40 → sp_run (fun B => sp_aaC B n) (sp_rdC (σ.2.1 6) n rum) f i (sd, y) = (sp_run (fun B => sp_aaC B n) (sp_rdC (σ.2.1 6) n rum) 40 0 (seed, (σ.1 0, 0, 0, 0))) → y.1 7 0 = nI n → lc_V G Γ cX2_run 6 RX2 25 [(0, .ref (G.1 (3))), (1, .ref (G.1 (4))), (2, .int (seed)), (3, .int (lc_bi (rum))), (4, .int (lc_bi (sp_aaC y.1 n))), (5, .int (nI i))] [] (lc_w ((lc_uo (sp_trial σ) 10 3 sd)) 1 y) := by
    intro f
    induction f with
    | zero =>
      intro i sd y hf hr hy
      have hi : i = 40 := by omega
      refine lc_iload 4 dX2_run_25 rfl ?_
      refine lc_ifb_ne 57 dX2_run_27 (by decide) (fun c_1 => ?_) (fun c_1 => ?_)
      · skip
        refine lc_aload_n 0 dX2_run_57 rfl ?_
        refine lc_iload 4 dX2_run_58 rfl ?_
        refine lc_ifb_eq 68 dX2_run_60 (by decide) (fun h => absurd (h.symm.trans c_1) (by decide)) (fun _ => ?_)
        refine lc_iload 5 dX2_run_63 rfl ?_
        refine lc_goto 69 dX2_run_65 (by decide) ?_
        refine lc_pw_rnd 1 (by omega) fl_X2_34 dX2_run_69 ?_
        exact lc_vret hR dX2_run_72 (by rw [← hr]; simp [sp_run, c_1])
      · skip
        refine lc_iload 5 dX2_run_30 rfl ?_
        refine lc_bipush (v := 40) dX2_run_32 (by decide) ?_
        refine lc_icmp_ge 57 dX2_run_34 (by decide) (fun _ => ?_) (fun h => absurd h.1 (by rw [hi]; exact nI_nlt (a := 40) (b := 40) (Nat.le_refl _) (by omega)))
        refine lc_aload_n 0 dX2_run_57 rfl ?_
        refine lc_iload 4 dX2_run_58 rfl ?_
        refine lc_ifb_eq 68 dX2_run_60 (by decide) (fun _ => ?_) (fun h => absurd (h.symm.trans c_1) (by decide))
        refine lc_iconst (v := (-1)) dX2_run_68 (by decide) ?_
        refine lc_pw_rnd 1 (by omega) fl_X2_34 dX2_run_69 ?_
        exact lc_vret hR dX2_run_72 (by rw [← hr]; simp [sp_run, c_1])
    | succ f ih =>
      intro i sd y hf hr hy
      have hi : i < 40 := by omega
      refine lc_iload 4 dX2_run_25 rfl ?_
      refine lc_ifb_ne 57 dX2_run_27 (by decide) (fun c_5 => ?_) (fun c_5 => ?_)
      · skip
        refine lc_aload_n 0 dX2_run_57 rfl ?_
        refine lc_iload 4 dX2_run_58 rfl ?_
        refine lc_ifb_eq 68 dX2_run_60 (by decide) (fun h => absurd (h.symm.trans c_5) (by decide)) (fun _ => ?_)
        refine lc_iload 5 dX2_run_63 rfl ?_
        refine lc_goto 69 dX2_run_65 (by decide) ?_
        refine lc_pw_rnd 1 (by omega) fl_X2_34 dX2_run_69 ?_
        exact lc_vret hR dX2_run_72 (by rw [← hr]; simp [sp_run, c_5])
      · skip
        refine lc_iload 5 dX2_run_30 rfl ?_
        refine lc_bipush (v := 40) dX2_run_32 (by decide) ?_
        refine lc_icmp_ge 57 dX2_run_34 (by decide) (fun h => absurd h.1 (by exact nI_ge (b := 40) hi (by omega))) (fun _ => ?_)
        refine lc_aload_n 0 dX2_run_37 rfl ?_
        refine lc_iload_n 3 dX2_run_38 rfl ?_
        refine lc_callV (3) (c_X2_playRound l G (sp_trial σ) sd y n rum hn hy) hR.2.2.2.1 hR.2.2.2.2 mt_X2_playRound (by omega) (rfl) rfl ml_X2_30 rfl rfl (Nat.le_of_ble_eq_true rfl) ⟨⟨rfl, rfl⟩, Nat.le_of_ble_eq_true rfl, Nat.le_of_ble_eq_true rfl⟩ dX2_run_39 ?_
        show lc_V _ _ _ _ _ 42 _ [] (lc_w ((lc_uo (sp_trial σ) 10 3 (sp_rdC (σ.2.1 6) n rum (sd, y)).1)) 1 ((sp_rdC (σ.2.1 6) n rum (sd, y)).2))
        refine lc_iinc 5 (nI (i + 1)) [(5, .int (nI (i + 1))), (0, .ref (G.1 (3))), (1, .ref (G.1 (4))), (2, .int (seed)), (3, .int (lc_bi (rum))), (4, .int (lc_bi (sp_aaC y.1 n)))] dX2_run_42 rfl (lc_inc1 i) (by decide) rfl ?_
        refine lc_aload_n 1 dX2_run_45 rfl ?_
        refine lc_g_trial fl_X2_12 dX2_run_46 ?_
        refine lc_callV (5) (c_X3_allOnAlike l G ((lc_uo (sp_trial σ) 10 3 (sp_rdC (σ.2.1 6) n rum (sd, y)).1)) 1 ((sp_rdC (σ.2.1 6) n rum (sd, y)).2) n (by omega) (by omega) (by rw [sp_rdC_r]; exact hy)) hR.2.2.2.1 hR.2.2.2.2 mt_X3_allOnAlike (by omega) (rfl) rfl ml_X2_26 rfl rfl (Nat.le_of_ble_eq_true rfl) ⟨⟨rfl, rfl⟩, Nat.le_of_ble_eq_true rfl, Nat.le_of_ble_eq_true rfl⟩ dX2_run_49 ?_
        show lc_V _ _ _ _ _ 52 _ [.int (lc_bi (sp_aaC (((sp_rdC (σ.2.1 6) n rum (sd, y)).2).1) n))] (lc_w ((lc_uo (sp_trial σ) 10 3 (sp_rdC (σ.2.1 6) n rum (sd, y)).1)) 1 ((sp_rdC (σ.2.1 6) n rum (sd, y)).2))
        refine lc_istore [(4, .int (lc_bi (sp_aaC (((sp_rdC (σ.2.1 6) n rum (sd, y)).2).1) n))), (5, .int (nI (i + 1))), (0, .ref (G.1 (3))), (1, .ref (G.1 (4))), (2, .int (seed)), (3, .int (lc_bi (rum)))] dX2_run_52 (by decide) rfl ?_
        refine lc_goto 25 dX2_run_54 (by decide) ?_
        refine lc_lv (lv' := [(0, .ref (G.1 (3))), (1, .ref (G.1 (4))), (2, .int (seed)), (3, .int (lc_bi (rum))), (4, .int (lc_bi (sp_aaC (((sp_rdC (σ.2.1 6) n rum (sd, y)).2).1) n))), (5, .int (nI (i + 1)))]) [2, 3, 4, 5, 0, 1] rfl ?_
        exact ih (i + 1) ((sp_rdC (σ.2.1 6) n rum (sd, y)).1) ((sp_rdC (σ.2.1 6) n rum (sd, y)).2) (by omega) (by rw [← hr]; simp [sp_run, c_5]) (by rw [sp_rdC_r]; exact hy)
  exact KL 40 0 seed ((σ.1 0, 0, 0, 0)) (by omega) rfl hs

set_option maxRecDepth 100000 in
set_option maxHeartbeats 4000000 in
theorem c_X2_outcome (l : Launch) (G : lc_G) (σ : lc_S) (x : lc_X) (what : Int32) : lc_M l G yX2_outcome cX2_outcome 2 (some .int) { frames := 0, cells := 0, slots := 0, locals := 0 } [.ref (G.1 (3)), .int (what)] (lc_w σ 1 x) (some (.int (if what = 0 then σ.2.1 10 2 else if what = 1 then σ.2.1 1 0 + x.2.1 else σ.2.1 10 3))) (lc_w σ 1 x) := by
  refine lc_entry [(0, .ref (G.1 (3))), (1, .int (what))] (by decide) (Nat.le_of_ble_eq_true rfl) rfl rfl rfl ?_
  intro Γ hR
  refine lc_iload_n 1 dX2_outcome_0 rfl ?_
  by_cases c_1 : what = 0
  · skip
    refine lc_look 28 dX2_outcome_1 (by decide) (by rw [c_1] <;> rfl) (by decide) ?_
    refine lc_aload_n 0 dX2_outcome_28 rfl ?_
    refine lc_gw_rnd 1 (by omega) fl_X2_34 dX2_outcome_29 ?_
    exact lc_iret hR dX2_outcome_32 (by simp [lc_bi, c_1]) (rfl)
  · skip
    by_cases c_2 : what = 1
    · skip
      refine lc_look 33 dX2_outcome_1 (by decide) (by rw [c_2] <;> rfl) (by decide) ?_
      refine lc_aload_n 0 dX2_outcome_33 rfl ?_
      refine lc_g_trial fl_X2_12 dX2_outcome_34 ?_
      refine lc_gWTra 1 (by omega) fl_X2_64 dX2_outcome_37 ?_
      exact lc_iret hR dX2_outcome_40 (by simp [lc_bi, c_1, c_2]) (rfl)
    · skip
      refine lc_look (off := 40) 41 dX2_outcome_1 (by decide) ((lv_osw c_1 rfl).trans ((lv_osw c_2 rfl).trans rfl)) (by decide) ?_
      refine lc_aload_n 0 dX2_outcome_41 rfl ?_
      refine lc_gw_seed 1 (by omega) fl_X2_22 dX2_outcome_42 ?_
      exact lc_iret hR dX2_outcome_45 (by simp [lc_bi, c_1, c_2]) (rfl)
end
section
theorem sp_pair_nat {B : lc_C} {a b : Int32} {n : Nat} (hn : n ≤ 6) (hs : B 7 0 = nI n) (h : sp_pair B a b = 0) : ∃ p q, p < n ∧ q < n ∧ a = nI p ∧ b = nI q := by
  unfold sp_pair at h
  split at h
  · exact absurd h (by decide)
  · rename_i h1
    rw [Bool.not_eq_false, Bool.and_eq_true, Bool.and_eq_true] at h1
    obtain ⟨p, hp, ep⟩ := sp_site_nat hn hs h1.1.1
    obtain ⟨q, hq, eq⟩ := sp_site_nat hn hs h1.1.2
    exact ⟨p, q, hp, hq, ep, eq⟩
end
section
set_option maxRecDepth 100000 in
set_option maxHeartbeats 4000000 in
theorem c_X4_letter (l : Launch) (G : lc_G) (σ : lc_S) (p : Nat) (hp : σ.2.1 10 0 = nI p) (hp6 : p ≤ 6) (code : Int32) : lc_M l G yX4_letter cX4_letter 2 (some .int) { frames := 1, cells := 0, slots := 0, locals := 21 } [.ref (G.1 (0)), .int (code)] (σ) (some (.int ((sp_letter σ 9 10 p code).1))) ((sp_letter σ 9 10 p code).2) := by
  refine lc_entry [(0, .ref (G.1 (0))), (1, .int (code))] (by decide) (Nat.le_of_ble_eq_true rfl) rfl rfl rfl ?_
  intro Γ hR
  refine lc_iload_n 1 dX4_letter_0 rfl ?_
  refine lc_bipush (v := 32) dX4_letter_1 (by decide) ?_
  refine lc_icmp_lt 12 dX4_letter_3 (by decide) (fun c_1 => ?_) (fun c_1 => ?_)
  · skip
    refine lc_sipush (v := (-1002)) dX4_letter_12 (by decide) ?_
    exact lc_iret hR dX4_letter_15 (by simp [sp_letter, sp_win, c_1]) (by simp [sp_letter, sp_win, c_1])
  · skip
    refine lc_iload_n 1 dX4_letter_6 rfl ?_
    refine lc_bipush (v := 126) dX4_letter_7 (by decide) ?_
    refine lc_icmp_le 16 dX4_letter_9 (by decide) (fun c_2 => ?_) (fun c_2 => ?_)
    · skip
      by_cases h6 : p = 6
      · skip
        refine lc_aload_n 0 dX4_letter_16 rfl ?_
        refine lc_g_page fl_X4_10 dX4_letter_17 ?_
        refine lc_g_len fl_X4_30 dX4_letter_20 ?_
        refine lc_bipush (v := 6) dX4_letter_23 (by decide) ?_
        refine lc_icmp_lt 32 dX4_letter_25 (by decide) (fun h => absurd h.1 (by rw [hp, h6]; exact nI_nlt (a := 6) (b := 6) (Nat.le_refl _) (by omega))) (fun _ => ?_)
        refine lc_sipush (v := (-1004)) dX4_letter_28 (by decide) ?_
        exact lc_iret hR dX4_letter_31 (by simp [sp_letter, sp_win, c_1, c_2, h6]) (by simp [sp_letter, sp_win, c_1, c_2, h6])
      · skip
        refine lc_aload_n 0 dX4_letter_16 rfl ?_
        refine lc_g_page fl_X4_10 dX4_letter_17 ?_
        refine lc_g_len fl_X4_30 dX4_letter_20 ?_
        refine lc_bipush (v := 6) dX4_letter_23 (by decide) ?_
        refine lc_icmp_lt 32 dX4_letter_25 (by decide) (fun _ => ?_) (fun h => absurd h.1 (by rw [hp]; exact nI_ge (b := 6) (by omega) (by omega)))
        refine lc_aload_n 0 dX4_letter_32 rfl ?_
        refine lc_g_page fl_X4_10 dX4_letter_33 ?_
        refine lc_iload_n 1 dX4_letter_36 rfl ?_
        refine lc_callV (1) (c_X1_append l G (σ) p code hp (by omega)) hR.2.2.2.1 hR.2.2.2.2 mt_X1_append (by omega) (rfl) rfl ml_X4_34 rfl rfl (Nat.le_of_ble_eq_true rfl) ⟨⟨rfl, rfl⟩, Nat.le_of_ble_eq_true rfl, Nat.le_of_ble_eq_true rfl⟩ dX4_letter_37 ?_
        show lc_V _ _ _ _ _ 40 _ [] (lc_uo (lc_uo σ 9 p code) 10 0 (nI (p + 1)))
        refine lc_aload_n 0 dX4_letter_40 rfl ?_
        refine lc_g_page fl_X4_10 dX4_letter_41 ?_
        refine lc_g_len fl_X4_30 dX4_letter_44 ?_
        refine lc_topi (nI (p + 1)) (rfl) ?_
        exact lc_iret hR dX4_letter_47 (by simp [sp_letter, sp_win, c_1, c_2, h6]) (by simp [sp_letter, sp_win, c_1, c_2, h6])
    · skip
      refine lc_sipush (v := (-1002)) dX4_letter_12 (by decide) ?_
      exact lc_iret hR dX4_letter_15 (by simp [sp_letter, sp_win, c_1, c_2]) (by simp [sp_letter, sp_win, c_1, c_2])

set_option maxRecDepth 100000 in
set_option maxHeartbeats 4000000 in
theorem c_X4_blank (l : Launch) (G : lc_G) (σ : lc_S) : lc_M l G yX4_blank cX4_blank 2 (some .int) { frames := 0, cells := 0, slots := 0, locals := 0 } [.ref (G.1 (0))] (σ) (some (.int (σ.2.1 10 0))) (lc_uo σ 10 0 0) := by
  refine lc_entry [(0, .ref (G.1 (0)))] (by decide) (Nat.le_of_ble_eq_true rfl) rfl rfl rfl ?_
  intro Γ hR
  refine lc_aload_n 0 dX4_blank_0 rfl ?_
  refine lc_g_page fl_X4_10 dX4_blank_1 ?_
  refine lc_g_len fl_X4_30 dX4_blank_4 ?_
  refine lc_istore_n [(1, .int (σ.2.1 10 0)), (0, .ref (G.1 (0)))] dX4_blank_7 (by decide) rfl ?_
  refine lc_aload_n 1 dX4_blank_8 rfl ?_
  refine lc_g_page fl_X4_10 dX4_blank_9 ?_
  refine lc_iconst (v := 0) dX4_blank_12 (by decide) ?_
  refine lc_p_len fl_X4_30 dX4_blank_13 ?_
  refine lc_iload_n 0 dX4_blank_16 rfl ?_
  exact lc_iret hR dX4_blank_17 (rfl) (rfl)

set_option maxRecDepth 100000 in
set_option maxHeartbeats 4000000 in
theorem c_X4_fault (l : Launch) (G : lc_G) (σ : lc_S) (p : Nat) (hp : σ.2.1 10 0 = nI p) (hp6 : p ≤ 6) : lc_M l G yX4_fault cX4_fault 1 (some .int) { frames := 1, cells := 0, slots := 0, locals := 23 } [.ref (G.1 (0))] (σ) (some (.int (sp_fw (σ.2.1 9) p 0 48))) (σ) := by
  refine lc_entry [(0, .ref (G.1 (0)))] (by decide) (Nat.le_of_ble_eq_true rfl) rfl rfl rfl ?_
  intro Γ hR
  refine lc_aload_n 0 dX4_fault_0 rfl ?_
  refine lc_g_page fl_X4_10 dX4_fault_1 ?_
  refine lc_callV (1) (c_X1_firstWrongPlace l G (σ) p hp (by omega)) hR.2.2.2.1 hR.2.2.2.2 mt_X1_firstWrongPlace (by omega) (rfl) rfl ml_X4_38 rfl rfl (Nat.le_of_ble_eq_true rfl) ⟨⟨rfl, rfl⟩, Nat.le_of_ble_eq_true rfl, Nat.le_of_ble_eq_true rfl⟩ dX4_fault_4 ?_
  show lc_V _ _ _ _ _ 7 _ [.int (sp_fw (σ.2.1 9) p 0 48)] (σ)
  exact lc_iret hR dX4_fault_7 (rfl) (rfl)

set_option maxRecDepth 100000 in
set_option maxHeartbeats 4000000 in
theorem c_X4_line (l : Launch) (G : lc_G) (σ : lc_S) (p : Nat) (hp : σ.2.1 10 0 = nI p) (hp6 : p ≤ 6) : lc_M l G yX4_line cX4_line 1 (some .int) { frames := 2, cells := 0, slots := 0, locals := 43 } [.ref (G.1 (0))] (σ) (some (.int (if sp_isl (σ.2.1 9) p = true then σ.2.1 10 0 else -1003))) ((if sp_isl (σ.2.1 9) p = true then (lc_uo (lc_uo (sp_line σ 0 3 6 (σ.2.1 9) (σ.1 0 6) (σ.2.1 10 0)) 10 0 0) 10 1 (σ.2.1 10 1 + 1)) else σ)) := by
  refine lc_entry [(0, .ref (G.1 (0)))] (by decide) (Nat.le_of_ble_eq_true rfl) rfl rfl rfl ?_
  intro Γ hR
  refine lc_aload_n 0 dX4_line_0 rfl ?_
  refine lc_g_page fl_X4_10 dX4_line_1 ?_
  refine lc_callV (1) (c_X1_isLine l G (σ) p hp (by omega)) hR.2.2.2.1 hR.2.2.2.2 mt_X1_isLine (by omega) (rfl) rfl ml_X4_42 rfl rfl (Nat.le_of_ble_eq_true rfl) ⟨⟨rfl, rfl⟩, Nat.le_of_ble_eq_true rfl, Nat.le_of_ble_eq_true rfl⟩ dX4_line_4 ?_
  show lc_V _ _ _ _ _ 7 _ [.int (lc_bi (sp_isl (σ.2.1 9) p))] (σ)
  refine lc_ifb_ne 14 dX4_line_7 (by decide) (fun c_1 => ?_) (fun c_1 => ?_)
  · skip
    refine lc_eq (σ' := lc_w σ 0 ((σ.1 0, 0, 0, 0))) ((lc_w_w σ 0).symm) ?_
    refine lc_aload_n 0 dX4_line_14 rfl ?_
    refine lc_g_world fl_X4_19 dX4_line_15 ?_
    refine lc_aload_n 0 dX4_line_18 rfl ?_
    refine lc_g_page fl_X4_10 dX4_line_19 ?_
    refine lc_callV (4) (c_X3_startLine l G σ ((σ.1 0, 0, 0, 0))) hR.2.2.2.1 hR.2.2.2.2 mt_X3_startLine (by omega) (rfl) rfl ml_X4_46 rfl rfl (Nat.le_of_ble_eq_true rfl) ⟨⟨rfl, rfl⟩, Nat.le_of_ble_eq_true rfl, Nat.le_of_ble_eq_true rfl⟩ dX4_line_22 ?_
    show lc_V _ _ _ _ _ 25 _ [] ((sp_line σ 0 3 6 (σ.2.1 9) ((σ.1 0) 6) (σ.2.1 10 0)))
    refine lc_eq (σ' := (sp_line σ 0 3 6 (σ.2.1 9) (σ.1 0 6) (σ.2.1 10 0))) (rfl) ?_
    refine lc_aload_n 0 dX4_line_25 rfl ?_
    refine lc_g_page fl_X4_10 dX4_line_26 ?_
    refine lc_iconst (v := 0) dX4_line_29 (by decide) ?_
    refine lc_p_len fl_X4_30 dX4_line_30 ?_
    refine lc_aload_n 0 dX4_line_33 rfl ?_
    refine lc_dup dX4_line_34 rfl ?_
    refine lc_g_lines fl_X4_50 dX4_line_35 ?_
    refine lc_iconst (v := 1) dX4_line_38 (by decide) ?_
    refine lc_iadd dX4_line_39 ?_
    refine lc_topi (σ.2.1 10 1 + 1) (rfl) ?_
    refine lc_p_lines fl_X4_50 dX4_line_40 ?_
    refine lc_eq (σ' := lc_w ((lc_uo (lc_uo (sp_line σ 0 3 6 (σ.2.1 9) (σ.1 0 6) (σ.2.1 10 0)) 10 0 0) 10 1 (σ.2.1 10 1 + 1))) 0 (((lc_uo (lc_uo (sp_line σ 0 3 6 (σ.2.1 9) (σ.1 0 6) (σ.2.1 10 0)) 10 0 0) 10 1 (σ.2.1 10 1 + 1)).1 0, 0, 0, 0))) ((lc_w_w (lc_uo (lc_uo (sp_line σ 0 3 6 (σ.2.1 9) (σ.1 0 6) (σ.2.1 10 0)) 10 0 0) 10 1 (σ.2.1 10 1 + 1)) 0).symm) ?_
    refine lc_aload_n 0 dX4_line_43 rfl ?_
    refine lc_g_world fl_X4_19 dX4_line_44 ?_
    refine lc_gWSites 0 (by omega) fl_X4_53 dX4_line_47 ?_
    refine lc_topi (σ.2.1 10 0) rfl ?_
    refine lc_eq (σ' := (lc_uo (lc_uo (sp_line σ 0 3 6 (σ.2.1 9) (σ.1 0 6) (σ.2.1 10 0)) 10 0 0) 10 1 (σ.2.1 10 1 + 1))) (lc_w_w _ 0) ?_
    exact lc_iret hR dX4_line_50 (by simp [lc_bi, c_1]) (by simp [lc_bi, c_1])
  · skip
    refine lc_sipush (v := (-1003)) dX4_line_10 (by decide) ?_
    exact lc_iret hR dX4_line_13 (by simp [lc_bi, c_1]) (by simp [lc_bi, c_1])

set_option maxRecDepth 100000 in
set_option maxHeartbeats 4000000 in
theorem c_X4_set (l : Launch) (G : lc_G) (σ : lc_S) (x : lc_X) (n : Nat) (hn : n ≤ 6) (hs : x.1 7 0 = nI n) (what v : Int32) : lc_M l G yX4_set cX4_set 4 (some .int) { frames := 2, cells := 0, slots := 0, locals := 47 } [.ref (G.1 (0)), .int (what), .int (v)] (lc_w σ 0 x) (some (.int ((sp_set n x what v).1))) (lc_w σ 0 ((sp_set n x what v).2)) := by
  refine lc_entry [(0, .ref (G.1 (0))), (1, .int (what)), (2, .int (v))] (by decide) (Nat.le_of_ble_eq_true rfl) rfl rfl rfl ?_
  intro Γ hR
  refine lc_iload_n 1 dX4_set_0 rfl ?_
  refine lc_if_lt 9 dX4_set_1 (by decide) (fun c_1 => ?_) (fun c_1 => ?_)
  · skip
    refine lc_sipush (v := (-1002)) dX4_set_9 (by decide) ?_
    exact lc_iret hR dX4_set_12 (by simp [sp_set, sp_win, c_1]) (by simp [sp_set, sp_win, c_1])
  · skip
    refine lc_iload_n 1 dX4_set_4 rfl ?_
    refine lc_iconst (v := 3) dX4_set_5 (by decide) ?_
    refine lc_icmp_le 13 dX4_set_6 (by decide) (fun c_2 => ?_) (fun c_2 => ?_)
    · skip
      obtain ⟨w0, -, hw3, ew⟩ := sp_rng_nat (lo := 0) (hi := 3) (a := 0) (b := 3) (by decide) (by decide) c_1.1 c_2.1
      subst ew
      have hwc : (nI w0).toNatClampNeg = w0 := nI_clamp (by omega)
      refine lc_iload_n 2 dX4_set_13 rfl ?_
      refine lc_gsLEAST fl_X4_56 dX4_set_14 ?_
      refine lc_iload_n 1 dX4_set_17 rfl ?_
      refine lc_saLEAST w0 (rfl) (by omega) dX4_set_18 ?_
      refine lc_icmp_lt 31 dX4_set_19 (by decide) (fun c_3 => ?_) (fun c_3 => ?_)
      · skip
        refine lc_sipush (v := (-1002)) dX4_set_31 (by decide) ?_
        exact lc_iret hR dX4_set_34 (by simp [sp_set, sp_win, c_1, c_2, hwc, c_3]) (by simp [sp_set, sp_win, c_1, c_2, hwc, c_3])
      · skip
        refine lc_iload_n 2 dX4_set_22 rfl ?_
        refine lc_gsMOST fl_X4_60 dX4_set_23 ?_
        refine lc_iload_n 1 dX4_set_26 rfl ?_
        refine lc_saMOST w0 (rfl) (by omega) dX4_set_27 ?_
        refine lc_icmp_le 35 dX4_set_28 (by decide) (fun c_4 => ?_) (fun c_4 => ?_)
        · skip
          refine lc_aload_n 0 dX4_set_35 rfl ?_
          refine lc_g_world fl_X4_19 dX4_set_36 ?_
          refine lc_gWLim 0 (by omega) fl_X4_63 dX4_set_39 ?_
          refine lc_iload_n 1 dX4_set_42 rfl ?_
          refine lc_iald (6) w0 (by omega) (lc_eLim 0 (by omega)) (rfl) (by omega) (by decide) dX4_set_43 ?_
          refine lc_istore_n [(3, .int (x.1 6 w0)), (0, .ref (G.1 (0))), (1, .int (nI w0)), (2, .int (v))] dX4_set_44 (by decide) rfl ?_
          refine lc_aload_n 1 dX4_set_45 rfl ?_
          refine lc_g_world fl_X4_19 dX4_set_46 ?_
          refine lc_gWLim 0 (by omega) fl_X4_63 dX4_set_49 ?_
          refine lc_iload_n 2 dX4_set_52 rfl ?_
          refine lc_iload_n 3 dX4_set_53 rfl ?_
          refine lc_sc_lim0 w0 (rfl) (by omega) dX4_set_54 ?_
          refine lc_aload_n 1 dX4_set_55 rfl ?_
          refine lc_g_world fl_X4_19 dX4_set_56 ?_
          refine lc_callV (4) (c_X3_dropGone l G σ 0 ((lc_cu x.1 6 w0 v, x.2)) n (by omega) (by omega) (hs)) hR.2.2.2.1 hR.2.2.2.2 mt_X3_dropGone (by omega) (rfl) rfl ml_X4_66 rfl rfl (Nat.le_of_ble_eq_true rfl) ⟨⟨rfl, rfl⟩, Nat.le_of_ble_eq_true rfl, Nat.le_of_ble_eq_true rfl⟩ dX4_set_59 ?_
          show lc_V _ _ _ _ _ 62 _ [.int ((sp_drop n ((lc_cu x.1 6 w0 v, x.2))).1)] (lc_w σ 0 ((sp_drop n ((lc_cu x.1 6 w0 v, x.2))).2))
          refine lc_pop dX4_set_62 rfl ?_
          refine lc_iload_n 0 dX4_set_63 rfl ?_
          exact lc_iret hR dX4_set_64 (by simp [sp_set, sp_win, c_1, c_2, hwc, c_3, c_4]) (by simp [sp_set, sp_win, c_1, c_2, hwc, c_3, c_4])
        · skip
          refine lc_sipush (v := (-1002)) dX4_set_31 (by decide) ?_
          exact lc_iret hR dX4_set_34 (by simp [sp_set, sp_win, c_1, c_2, hwc, c_3, c_4]) (by simp [sp_set, sp_win, c_1, c_2, hwc, c_3, c_4])
    · skip
      refine lc_sipush (v := (-1002)) dX4_set_9 (by decide) ?_
      exact lc_iret hR dX4_set_12 (by simp [sp_set, sp_win, c_1, c_2]) (by simp [sp_set, sp_win, c_1, c_2])

set_option maxRecDepth 100000 in
set_option maxHeartbeats 4000000 in
theorem c_X4_put (l : Launch) (G : lc_G) (σ : lc_S) (x : lc_X) (n : Nat) (hn : n ≤ 6) (hs : x.1 7 0 = nI n) (s1 k1 v : Int32) : lc_M l G yX4_put cX4_put 4 (some .int) { frames := 4, cells := 0, slots := 0, locals := 91 } [.ref (G.1 (0)), .int (s1), .int (k1), .int (v)] (lc_w σ 0 x) (some (.int ((sp_put (decide (9999 ≤ x.1 7 1)) n x s1 k1 v).1))) (lc_w σ 0 ((sp_put (decide (9999 ≤ x.1 7 1)) n x s1 k1 v).2)) := by
  refine lc_entry [(0, .ref (G.1 (0))), (1, .int (s1)), (2, .int (k1)), (3, .int (v))] (by decide) (Nat.le_of_ble_eq_true rfl) rfl rfl rfl ?_
  intro Γ hR
  refine lc_aload_n 0 dX4_put_0 rfl ?_
  refine lc_g_world fl_X4_19 dX4_put_1 ?_
  refine lc_iload_n 1 dX4_put_4 rfl ?_
  refine lc_callV (4) (c_X3_knowsSite l G σ 0 x s1 (by omega)) hR.2.2.2.1 hR.2.2.2.2 mt_X3_knowsSite (by omega) (rfl) rfl ml_X4_69 rfl rfl (Nat.le_of_ble_eq_true rfl) ⟨⟨rfl, rfl⟩, Nat.le_of_ble_eq_true rfl, Nat.le_of_ble_eq_true rfl⟩ dX4_put_5 ?_
  show lc_V _ _ _ _ _ 8 _ [.int (lc_bi (sp_site x.1 s1))] (lc_w σ 0 x)
  refine lc_ifb_eq 18 dX4_put_8 (by decide) (fun c_1 => ?_) (fun c_1 => ?_)
  · skip
    refine lc_sipush (v := (-1001)) dX4_put_18 (by decide) ?_
    exact lc_iret hR dX4_put_21 (by simp [sp_put, sp_win, c_1]) (by simp [sp_put, sp_win, c_1])
  · skip
    obtain ⟨a1, ha1, ea1⟩ := sp_site_nat hn (hs) c_1
    subst ea1
    refine lc_iload_n 2 dX4_put_11 rfl ?_
    refine lc_callS (c_X4_isKey l G (lc_w σ 0 x) k1) hR.2.2.2.1 hR.2.2.2.2 mt_X4_isKey ml_X4_73 rfl rfl (Nat.le_of_ble_eq_true rfl) ⟨⟨rfl, rfl⟩, Nat.le_of_ble_eq_true rfl, Nat.le_of_ble_eq_true rfl⟩ dX4_put_12 ?_
    show lc_V _ _ _ _ _ 15 _ [.int (lc_bi (sp_key k1))] (lc_w σ 0 x)
    refine lc_ifb_ne 22 dX4_put_15 (by decide) (fun c_2 => ?_) (fun c_2 => ?_)
    · skip
      obtain ⟨k2, hk2, ek2⟩ := sp_key_nat c_2
      subst ek2
      refine lc_iload_n 3 dX4_put_22 rfl ?_
      refine lc_if_lt 32 dX4_put_23 (by decide) (fun c_3 => ?_) (fun c_3 => ?_)
      · skip
        refine lc_sipush (v := (-1002)) dX4_put_32 (by decide) ?_
        exact lc_iret hR dX4_put_35 (by simp [sp_put, sp_win, c_1, c_2, c_3]) (by simp [sp_put, sp_win, c_1, c_2, c_3])
      · skip
        refine lc_iload_n 3 dX4_put_26 rfl ?_
        refine lc_bipush (v := 9) dX4_put_27 (by decide) ?_
        refine lc_icmp_le 36 dX4_put_29 (by decide) (fun c_4 => ?_) (fun c_4 => ?_)
        · skip
          refine lc_aload_n 0 dX4_put_36 rfl ?_
          refine lc_g_world fl_X4_19 dX4_put_37 ?_
          refine lc_iload_n 1 dX4_put_40 rfl ?_
          refine lc_callV (4) (c_X3_isOff l G σ 0 x (nI a1) (by omega)) hR.2.2.2.1 hR.2.2.2.2 mt_X3_isOff (by omega) (rfl) rfl ml_X4_76 rfl rfl (Nat.le_of_ble_eq_true rfl) ⟨⟨rfl, rfl⟩, Nat.le_of_ble_eq_true rfl, Nat.le_of_ble_eq_true rfl⟩ dX4_put_41 ?_
          show lc_V _ _ _ _ _ 44 _ [.int (lc_bi (sp_bit (x.1 7 2) (nI a1)))] (lc_w σ 0 x)
          refine lc_ifb_eq 51 dX4_put_44 (by decide) (fun c_5 => ?_) (fun c_5 => ?_)
          · skip
            refine lc_aload_n 0 dX4_put_51 rfl ?_
            refine lc_g_world fl_X4_19 dX4_put_52 ?_
            refine lc_gWNow 0 (by omega) fl_X4_79 dX4_put_55 ?_
            refine lc_sipush (v := 9999) dX4_put_58 (by decide) ?_
            refine lc_icmp_lt 68 dX4_put_61 (by decide) (fun c_6 => ?_) (fun c_6 => ?_)
            · skip
              refine lc_aload_n 0 dX4_put_68 rfl ?_
              refine lc_g_world fl_X4_19 dX4_put_69 ?_
              refine lc_iload_n 1 dX4_put_72 rfl ?_
              refine lc_iload_n 2 dX4_put_73 rfl ?_
              refine lc_iload_n 3 dX4_put_74 rfl ?_
              refine lc_callV (4) (c_X3_putValue l G σ 0 x n a1 k2 (by omega) (by omega) (hs) (by omega) (by omega) v) hR.2.2.2.1 hR.2.2.2.2 mt_X3_putValue (by omega) (rfl) rfl ml_X4_82 rfl rfl (Nat.le_of_ble_eq_true rfl) ⟨⟨rfl, rfl⟩, Nat.le_of_ble_eq_true rfl, Nat.le_of_ble_eq_true rfl⟩ dX4_put_75 ?_
              show lc_V _ _ _ _ _ 78 _ [.int ((sp_putV n x a1 k2 v).1)] (lc_w σ 0 ((sp_putV n x a1 k2 v).2))
              exact lc_iret hR dX4_put_78 (by simp [sp_put, sp_win, nI_clamp (show a1 < 2 ^ 31 by omega), nI_clamp (show k2 < 2 ^ 31 by omega), c_1, c_2, c_3, c_4, c_5, c_6]) (by simp [sp_put, sp_win, nI_clamp (show a1 < 2 ^ 31 by omega), nI_clamp (show k2 < 2 ^ 31 by omega), c_1, c_2, c_3, c_4, c_5, c_6])
            · skip
              refine lc_sipush (v := (-1004)) dX4_put_64 (by decide) ?_
              exact lc_iret hR dX4_put_67 (by simp [sp_put, sp_win, c_1, c_2, c_3, c_4, c_5, c_6]) (by simp [sp_put, sp_win, c_1, c_2, c_3, c_4, c_5, c_6])
          · skip
            refine lc_sipush (v := (-1003)) dX4_put_47 (by decide) ?_
            exact lc_iret hR dX4_put_50 (by simp [sp_put, sp_win, c_1, c_2, c_3, c_4, c_5]) (by simp [sp_put, sp_win, c_1, c_2, c_3, c_4, c_5])
        · skip
          refine lc_sipush (v := (-1002)) dX4_put_32 (by decide) ?_
          exact lc_iret hR dX4_put_35 (by simp [sp_put, sp_win, c_1, c_2, c_3, c_4]) (by simp [sp_put, sp_win, c_1, c_2, c_3, c_4])
    · skip
      refine lc_sipush (v := (-1001)) dX4_put_18 (by decide) ?_
      exact lc_iret hR dX4_put_21 (by simp [sp_put, sp_win, c_1, c_2]) (by simp [sp_put, sp_win, c_1, c_2])

set_option maxRecDepth 100000 in
set_option maxHeartbeats 4000000 in
theorem c_X4_remove (l : Launch) (G : lc_G) (σ : lc_S) (x : lc_X) (n : Nat) (hn : n ≤ 6) (hs : x.1 7 0 = nI n) (s1 k1 m1 : Int32) : lc_M l G yX4_remove cX4_remove 4 (some .int) { frames := 4, cells := 0, slots := 0, locals := 91 } [.ref (G.1 (0)), .int (s1), .int (k1), .int (m1)] (lc_w σ 0 x) (some (.int ((sp_remo (decide (9999 ≤ x.1 7 1)) (sp_keepC (σ.2.1 6) s1.toNatClampNeg n m1.toNatClampNeg (sp_oth s1 ((sp_adv n x 1).2.1 7 0))) 3 0 n σ x s1 k1 m1).1))) ((sp_remo (decide (9999 ≤ x.1 7 1)) (sp_keepC (σ.2.1 6) s1.toNatClampNeg n m1.toNatClampNeg (sp_oth s1 ((sp_adv n x 1).2.1 7 0))) 3 0 n σ x s1 k1 m1).2) := by
  refine lc_entry [(0, .ref (G.1 (0))), (1, .int (s1)), (2, .int (k1)), (3, .int (m1))] (by decide) (Nat.le_of_ble_eq_true rfl) rfl rfl rfl ?_
  intro Γ hR
  refine lc_aload_n 0 dX4_remove_0 rfl ?_
  refine lc_g_world fl_X4_19 dX4_remove_1 ?_
  refine lc_iload_n 1 dX4_remove_4 rfl ?_
  refine lc_callV (4) (c_X3_knowsSite l G σ 0 x s1 (by omega)) hR.2.2.2.1 hR.2.2.2.2 mt_X3_knowsSite (by omega) (rfl) rfl ml_X4_69 rfl rfl (Nat.le_of_ble_eq_true rfl) ⟨⟨rfl, rfl⟩, Nat.le_of_ble_eq_true rfl, Nat.le_of_ble_eq_true rfl⟩ dX4_remove_5 ?_
  show lc_V _ _ _ _ _ 8 _ [.int (lc_bi (sp_site x.1 s1))] (lc_w σ 0 x)
  refine lc_ifb_eq 18 dX4_remove_8 (by decide) (fun c_1 => ?_) (fun c_1 => ?_)
  · skip
    refine lc_sipush (v := (-1001)) dX4_remove_18 (by decide) ?_
    exact lc_iret hR dX4_remove_21 (by simp [sp_remo, sp_win, c_1]) (by simp [sp_remo, sp_win, c_1])
  · skip
    obtain ⟨a1, ha1, ea1⟩ := sp_site_nat hn (hs) c_1
    subst ea1
    refine lc_iload_n 2 dX4_remove_11 rfl ?_
    refine lc_callS (c_X4_isKey l G (lc_w σ 0 x) k1) hR.2.2.2.1 hR.2.2.2.2 mt_X4_isKey ml_X4_73 rfl rfl (Nat.le_of_ble_eq_true rfl) ⟨⟨rfl, rfl⟩, Nat.le_of_ble_eq_true rfl, Nat.le_of_ble_eq_true rfl⟩ dX4_remove_12 ?_
    show lc_V _ _ _ _ _ 15 _ [.int (lc_bi (sp_key k1))] (lc_w σ 0 x)
    refine lc_ifb_ne 22 dX4_remove_15 (by decide) (fun c_2 => ?_) (fun c_2 => ?_)
    · skip
      obtain ⟨k2, hk2, ek2⟩ := sp_key_nat c_2
      subst ek2
      refine lc_iload_n 3 dX4_remove_22 rfl ?_
      refine lc_iconst (v := 1) dX4_remove_23 (by decide) ?_
      refine lc_icmp_lt 32 dX4_remove_24 (by decide) (fun c_3 => ?_) (fun c_3 => ?_)
      · skip
        refine lc_sipush (v := (-1002)) dX4_remove_32 (by decide) ?_
        exact lc_iret hR dX4_remove_35 (by simp [sp_remo, sp_win, c_1, c_2, c_3]) (by simp [sp_remo, sp_win, c_1, c_2, c_3])
      · skip
        refine lc_iload_n 3 dX4_remove_27 rfl ?_
        refine lc_iconst (v := 3) dX4_remove_28 (by decide) ?_
        refine lc_icmp_le 36 dX4_remove_29 (by decide) (fun c_4 => ?_) (fun c_4 => ?_)
        · skip
          obtain ⟨m2, hm1, hm3, em⟩ := sp_rng_nat (lo := 1) (hi := 3) (a := 1) (b := 3) (by decide) (by decide) c_3.1 c_4.1
          subst em
          have q1 : (nI a1).toNatClampNeg = a1 := nI_clamp (by omega)
          have q2 : (nI k2).toNatClampNeg = k2 := nI_clamp (by omega)
          have q3 : (nI m2).toNatClampNeg = m2 := nI_clamp (by omega)
          refine lc_aload_n 0 dX4_remove_36 rfl ?_
          refine lc_g_world fl_X4_19 dX4_remove_37 ?_
          refine lc_iload_n 1 dX4_remove_40 rfl ?_
          refine lc_callV (4) (c_X3_isOff l G σ 0 x (nI a1) (by omega)) hR.2.2.2.1 hR.2.2.2.2 mt_X3_isOff (by omega) (rfl) rfl ml_X4_76 rfl rfl (Nat.le_of_ble_eq_true rfl) ⟨⟨rfl, rfl⟩, Nat.le_of_ble_eq_true rfl, Nat.le_of_ble_eq_true rfl⟩ dX4_remove_41 ?_
          show lc_V _ _ _ _ _ 44 _ [.int (lc_bi (sp_bit (x.1 7 2) (nI a1)))] (lc_w σ 0 x)
          refine lc_ifb_ne 63 dX4_remove_44 (by decide) (fun c_5 => ?_) (fun c_5 => ?_)
          · skip
            refine lc_sipush (v := (-1003)) dX4_remove_63 (by decide) ?_
            exact lc_iret hR dX4_remove_66 (by simp [sp_remo, sp_win, c_1, c_2, c_3, c_4, q1, q2, q3, c_5]) (by simp [sp_remo, sp_win, c_1, c_2, c_3, c_4, q1, q2, q3, c_5])
          · skip
            refine lc_aload_n 0 dX4_remove_47 rfl ?_
            refine lc_g_world fl_X4_19 dX4_remove_48 ?_
            refine lc_iload_n 1 dX4_remove_51 rfl ?_
            refine lc_iload_n 2 dX4_remove_52 rfl ?_
            refine lc_callV (4) (c_X3_itemAt l G (lc_w σ 0 x) 0 a1 k2 (by omega) (by omega) (by omega)) hR.2.2.2.1 hR.2.2.2.2 mt_X3_itemAt (by omega) (rfl) rfl ml_X4_86 rfl rfl (Nat.le_of_ble_eq_true rfl) ⟨⟨rfl, rfl⟩, Nat.le_of_ble_eq_true rfl, Nat.le_of_ble_eq_true rfl⟩ dX4_remove_53 ?_
            show lc_V _ _ _ _ _ 56 _ [.ref (G.1 (lc_it 0 (4 * a1 + k2)))] (lc_w σ 0 x)
            refine lc_gIw 0 (4 * a1 + k2) 0 (by omega) (by omega) (by decide) fl_X4_90 dX4_remove_56 ?_
            refine lc_iconst (v := 1) dX4_remove_59 (by decide) ?_
            refine lc_icmp_eq 67 dX4_remove_60 (by decide) (fun c_6 => ?_) (fun c_6 => ?_)
            · skip
              refine lc_aload_n 0 dX4_remove_67 rfl ?_
              refine lc_g_world fl_X4_19 dX4_remove_68 ?_
              refine lc_gWNow 0 (by omega) fl_X4_79 dX4_remove_71 ?_
              refine lc_sipush (v := 9999) dX4_remove_74 (by decide) ?_
              refine lc_icmp_lt 84 dX4_remove_77 (by decide) (fun c_7 => ?_) (fun c_7 => ?_)
              · skip
                refine lc_aload_n 0 dX4_remove_84 rfl ?_
                refine lc_g_world fl_X4_19 dX4_remove_85 ?_
                refine lc_iload_n 1 dX4_remove_88 rfl ?_
                refine lc_iload_n 2 dX4_remove_89 rfl ?_
                refine lc_iload_n 3 dX4_remove_90 rfl ?_
                refine lc_callV (4) (c_X3_removeValue l G σ 0 x n a1 k2 m2 (by omega) (by omega) hs (by omega) (by omega) (by omega) (by omega)) hR.2.2.2.1 hR.2.2.2.2 mt_X3_removeValue (by omega) (rfl) rfl ml_X4_95 rfl rfl (Nat.le_of_ble_eq_true rfl) ⟨⟨rfl, rfl⟩, Nat.le_of_ble_eq_true rfl, Nat.le_of_ble_eq_true rfl⟩ dX4_remove_91 ?_
                show lc_V _ _ _ _ _ 94 _ [.int ((sp_remV n x a1 k2 (sp_keepC (σ.2.1 6) a1 n m2 (sp_oth (nI a1) ((sp_adv n x 1).2.1 7 0)))).1)] (lc_w ((lc_uo σ 3 k2 ((sp_adv n x 1).2.1 7 1))) 0 ((sp_remV n x a1 k2 (sp_keepC (σ.2.1 6) a1 n m2 (sp_oth (nI a1) ((sp_adv n x 1).2.1 7 0)))).2))
                exact lc_iret hR dX4_remove_94 (by simp [sp_remo, sp_win, c_1, c_2, c_3, c_4, q1, q2, q3, c_5, c_6, c_7]) (by simp [sp_remo, sp_win, c_1, c_2, c_3, c_4, q1, q2, q3, c_5, c_6, c_7])
              · skip
                refine lc_sipush (v := (-1004)) dX4_remove_80 (by decide) ?_
                exact lc_iret hR dX4_remove_83 (by simp [sp_remo, sp_win, c_1, c_2, c_3, c_4, q1, q2, q3, c_5, c_6, c_7]) (by simp [sp_remo, sp_win, c_1, c_2, c_3, c_4, q1, q2, q3, c_5, c_6, c_7])
            · skip
              refine lc_sipush (v := (-1003)) dX4_remove_63 (by decide) ?_
              exact lc_iret hR dX4_remove_66 (by simp [sp_remo, sp_win, c_1, c_2, c_3, c_4, q1, q2, q3, c_5, c_6]) (by simp [sp_remo, sp_win, c_1, c_2, c_3, c_4, q1, q2, q3, c_5, c_6])
        · skip
          refine lc_sipush (v := (-1002)) dX4_remove_32 (by decide) ?_
          exact lc_iret hR dX4_remove_35 (by simp [sp_remo, sp_win, c_1, c_2, c_3, c_4]) (by simp [sp_remo, sp_win, c_1, c_2, c_3, c_4])
    · skip
      refine lc_sipush (v := (-1001)) dX4_remove_18 (by decide) ?_
      exact lc_iret hR dX4_remove_21 (by simp [sp_remo, sp_win, c_1, c_2]) (by simp [sp_remo, sp_win, c_1, c_2])

set_option maxRecDepth 100000 in
set_option maxHeartbeats 4000000 in
theorem c_X4_pass (l : Launch) (G : lc_G) (σ : lc_S) (x : lc_X) (n : Nat) (hn : n ≤ 6) (hs : x.1 7 0 = nI n) (d : Int32) : lc_M l G yX4_pass cX4_pass 2 (some .int) { frames := 3, cells := 0, slots := 0, locals := 68 } [.ref (G.1 (0)), .int (d)] (lc_w σ 0 x) (some (.int ((sp_pass (decide (9999 - d < x.1 7 1)) n x d).1))) (lc_w σ 0 ((sp_pass (decide (9999 - d < x.1 7 1)) n x d).2)) := by
  refine lc_entry [(0, .ref (G.1 (0))), (1, .int (d))] (by decide) (Nat.le_of_ble_eq_true rfl) rfl rfl rfl ?_
  intro Γ hR
  refine lc_iload_n 1 dX4_pass_0 rfl ?_
  refine lc_iconst (v := 1) dX4_pass_1 (by decide) ?_
  refine lc_icmp_lt 12 dX4_pass_2 (by decide) (fun c_1 => ?_) (fun c_1 => ?_)
  · skip
    refine lc_sipush (v := (-1002)) dX4_pass_12 (by decide) ?_
    exact lc_iret hR dX4_pass_15 (by simp [sp_pass, sp_win, c_1]) (by simp [sp_pass, sp_win, c_1])
  · skip
    refine lc_iload_n 1 dX4_pass_5 rfl ?_
    refine lc_sipush (v := 300) dX4_pass_6 (by decide) ?_
    refine lc_icmp_le 16 dX4_pass_9 (by decide) (fun c_2 => ?_) (fun c_2 => ?_)
    · skip
      refine lc_aload_n 0 dX4_pass_16 rfl ?_
      refine lc_g_world fl_X4_19 dX4_pass_17 ?_
      refine lc_gWSites 0 (by omega) fl_X4_53 dX4_pass_20 ?_
      refine lc_if_ne 30 dX4_pass_23 (by decide) (fun c_3 => ?_) (fun c_3 => ?_)
      · skip
        refine lc_aload_n 0 dX4_pass_30 rfl ?_
        refine lc_g_world fl_X4_19 dX4_pass_31 ?_
        refine lc_gWNow 0 (by omega) fl_X4_79 dX4_pass_34 ?_
        refine lc_sipush (v := 9999) dX4_pass_37 (by decide) ?_
        refine lc_iload_n 1 dX4_pass_40 rfl ?_
        refine lc_isub dX4_pass_41 ?_
        refine lc_icmp_le 49 dX4_pass_42 (by decide) (fun c_4 => ?_) (fun c_4 => ?_)
        · skip
          refine lc_aload_n 0 dX4_pass_49 rfl ?_
          refine lc_g_world fl_X4_19 dX4_pass_50 ?_
          refine lc_iload_n 1 dX4_pass_53 rfl ?_
          refine lc_callV (4) (c_X3_advance l G σ 0 x n (by omega) (by omega) (hs) d) hR.2.2.2.1 hR.2.2.2.2 mt_X3_advance (by omega) (rfl) rfl ml_X4_98 rfl rfl (Nat.le_of_ble_eq_true rfl) ⟨⟨rfl, rfl⟩, Nat.le_of_ble_eq_true rfl, Nat.le_of_ble_eq_true rfl⟩ dX4_pass_54 ?_
          show lc_V _ _ _ _ _ 57 _ [.int ((sp_adv n x d).1)] (lc_w σ 0 ((sp_adv n x d).2))
          exact lc_iret hR dX4_pass_57 (by simp [sp_pass, sp_win, c_1, c_2, c_3, c_4]) (by simp [sp_pass, sp_win, c_1, c_2, c_3, c_4])
        · skip
          refine lc_sipush (v := (-1004)) dX4_pass_45 (by decide) ?_
          exact lc_iret hR dX4_pass_48 (by simp [sp_pass, sp_win, c_1, c_2, c_3, c_4]) (by simp [sp_pass, sp_win, c_1, c_2, c_3, c_4])
      · skip
        refine lc_sipush (v := (-1003)) dX4_pass_26 (by decide) ?_
        exact lc_iret hR dX4_pass_29 (by simp [sp_pass, sp_win, c_1, c_2, c_3]) (by simp [sp_pass, sp_win, c_1, c_2, c_3])
    · skip
      refine lc_sipush (v := (-1002)) dX4_pass_12 (by decide) ?_
      exact lc_iret hR dX4_pass_15 (by simp [sp_pass, sp_win, c_1, c_2]) (by simp [sp_pass, sp_win, c_1, c_2])

set_option maxRecDepth 100000 in
set_option maxHeartbeats 4000000 in
theorem c_X4_off (l : Launch) (G : lc_G) (σ : lc_S) (x : lc_X) (n : Nat) (hn : n ≤ 6) (hs : x.1 7 0 = nI n) (s1 : Int32) (b : Bool) : lc_M l G yX4_off cX4_off 5 (some .int) { frames := 1, cells := 0, slots := 0, locals := 21 } [.ref (G.1 (0)), .int (s1), .int (lc_bi (b))] (lc_w σ 0 x) (some (.int ((sp_off x s1 b).1))) (lc_w σ 0 ((sp_off x s1 b).2)) := by
  refine lc_entry [(0, .ref (G.1 (0))), (1, .int (s1)), (2, .int (lc_bi (b)))] (by decide) (Nat.le_of_ble_eq_true rfl) rfl rfl rfl ?_
  intro Γ hR
  refine lc_aload_n 0 dX4_off_0 rfl ?_
  refine lc_g_world fl_X4_19 dX4_off_1 ?_
  refine lc_iload_n 1 dX4_off_4 rfl ?_
  refine lc_callV (4) (c_X3_knowsSite l G σ 0 x s1 (by omega)) hR.2.2.2.1 hR.2.2.2.2 mt_X3_knowsSite (by omega) (rfl) rfl ml_X4_69 rfl rfl (Nat.le_of_ble_eq_true rfl) ⟨⟨rfl, rfl⟩, Nat.le_of_ble_eq_true rfl, Nat.le_of_ble_eq_true rfl⟩ dX4_off_5 ?_
  show lc_V _ _ _ _ _ 8 _ [.int (lc_bi (sp_site x.1 s1))] (lc_w σ 0 x)
  refine lc_ifb_ne 15 dX4_off_8 (by decide) (fun c_1 => ?_) (fun c_1 => ?_)
  · skip
    refine lc_aload_n 0 dX4_off_15 rfl ?_
    refine lc_g_world fl_X4_19 dX4_off_16 ?_
    refine lc_iload_n 1 dX4_off_19 rfl ?_
    refine lc_callV (4) (c_X3_isOff l G σ 0 x s1 (by omega)) hR.2.2.2.1 hR.2.2.2.2 mt_X3_isOff (by omega) (rfl) rfl ml_X4_76 rfl rfl (Nat.le_of_ble_eq_true rfl) ⟨⟨rfl, rfl⟩, Nat.le_of_ble_eq_true rfl, Nat.le_of_ble_eq_true rfl⟩ dX4_off_20 ?_
    show lc_V _ _ _ _ _ 23 _ [.int (lc_bi (sp_bit (x.1 7 2) s1))] (lc_w σ 0 x)
    refine lc_tern 30 31 dX4_off_23 (by decide) dX4_off_26 dX4_off_27 (by decide) dX4_off_30 rfl ?_
    refine lc_istore_n [(3, .int (lc_bi (sp_bit (x.1 7 2) s1))), (0, .ref (G.1 (0))), (1, .int (s1)), (2, .int (lc_bi (b)))] dX4_off_31 (by decide) rfl ?_
    refine lc_iconst (v := 1) dX4_off_32 (by decide) ?_
    refine lc_iload_n 2 dX4_off_33 rfl ?_
    refine lc_ishl dX4_off_34 ?_
    refine lc_istore [(4, .int (((1 : Int32) <<< (s1 &&& 31)))), (3, .int (lc_bi (sp_bit (x.1 7 2) s1))), (0, .ref (G.1 (0))), (1, .int (s1)), (2, .int (lc_bi (b)))] dX4_off_35 (by decide) rfl ?_
    refine lc_aload_n 2 dX4_off_37 rfl ?_
    refine lc_g_world fl_X4_19 dX4_off_38 ?_
    refine lc_iload_n 4 dX4_off_41 rfl ?_
    refine lc_ifb_eq 58 dX4_off_42 (by decide) (fun c_3 => ?_) (fun c_3 => ?_)
    · skip
      refine lc_aload_n 2 dX4_off_58 rfl ?_
      refine lc_g_world fl_X4_19 dX4_off_59 ?_
      refine lc_gWOff 0 (by omega) fl_X4_102 dX4_off_62 ?_
      refine lc_iload 0 dX4_off_65 rfl ?_
      refine lc_iconst (v := (-1)) dX4_off_67 (by decide) ?_
      refine lc_ixor dX4_off_68 ?_
      refine lc_iand dX4_off_69 ?_
      refine lc_pWOff 0 (by omega) fl_X4_102 dX4_off_70 ?_
      refine lc_iload_n 1 dX4_off_73 rfl ?_
      exact lc_iret hR dX4_off_74 (by simp [sp_off, c_1, c_3]) (by simp [sp_off, c_1, c_3])
    · skip
      refine lc_aload_n 2 dX4_off_45 rfl ?_
      refine lc_g_world fl_X4_19 dX4_off_46 ?_
      refine lc_gWOff 0 (by omega) fl_X4_102 dX4_off_49 ?_
      refine lc_iload 0 dX4_off_52 rfl ?_
      refine lc_ior dX4_off_54 ?_
      refine lc_goto 70 dX4_off_55 (by decide) ?_
      refine lc_pWOff 0 (by omega) fl_X4_102 dX4_off_70 ?_
      refine lc_iload_n 1 dX4_off_73 rfl ?_
      exact lc_iret hR dX4_off_74 (by simp [sp_off, c_1, c_3]) (by simp [sp_off, c_1, c_3])
  · skip
    refine lc_sipush (v := (-1001)) dX4_off_11 (by decide) ?_
    exact lc_iret hR dX4_off_14 (by simp [sp_off, c_1]) (by simp [sp_off, c_1])

set_option maxRecDepth 100000 in
set_option maxHeartbeats 4000000 in
theorem c_X4_refusalOfPair (l : Launch) (G : lc_G) (σ : lc_S) (x : lc_X) (n : Nat) (hn : n ≤ 6) (hs : x.1 7 0 = nI n) (a1 b1 : Int32) : lc_M l G yX4_refusalOfPair cX4_refusalOfPair 3 (some .int) { frames := 1, cells := 0, slots := 0, locals := 21 } [.ref (G.1 (0)), .int (a1), .int (b1)] (lc_w σ 0 x) (some (.int (sp_pair x.1 a1 b1))) (lc_w σ 0 x) := by
  refine lc_entry [(0, .ref (G.1 (0))), (1, .int (a1)), (2, .int (b1))] (by decide) (Nat.le_of_ble_eq_true rfl) rfl rfl rfl ?_
  intro Γ hR
  refine lc_aload_n 0 dX4_refusalOfPair_0 rfl ?_
  refine lc_g_world fl_X4_19 dX4_refusalOfPair_1 ?_
  refine lc_iload_n 1 dX4_refusalOfPair_4 rfl ?_
  refine lc_callV (4) (c_X3_knowsSite l G σ 0 x a1 (by omega)) hR.2.2.2.1 hR.2.2.2.2 mt_X3_knowsSite (by omega) (rfl) rfl ml_X4_69 rfl rfl (Nat.le_of_ble_eq_true rfl) ⟨⟨rfl, rfl⟩, Nat.le_of_ble_eq_true rfl, Nat.le_of_ble_eq_true rfl⟩ dX4_refusalOfPair_5 ?_
  show lc_V _ _ _ _ _ 8 _ [.int (lc_bi (sp_site x.1 a1))] (lc_w σ 0 x)
  refine lc_ifb_eq 27 dX4_refusalOfPair_8 (by decide) (fun c_1 => ?_) (fun c_1 => ?_)
  · skip
    refine lc_sipush (v := (-1001)) dX4_refusalOfPair_27 (by decide) ?_
    exact lc_iret hR dX4_refusalOfPair_30 (by simp [sp_pair, c_1]) (rfl)
  · skip
    refine lc_aload_n 0 dX4_refusalOfPair_11 rfl ?_
    refine lc_g_world fl_X4_19 dX4_refusalOfPair_12 ?_
    refine lc_iload_n 2 dX4_refusalOfPair_15 rfl ?_
    refine lc_callV (4) (c_X3_knowsSite l G σ 0 x b1 (by omega)) hR.2.2.2.1 hR.2.2.2.2 mt_X3_knowsSite (by omega) (rfl) rfl ml_X4_69 rfl rfl (Nat.le_of_ble_eq_true rfl) ⟨⟨rfl, rfl⟩, Nat.le_of_ble_eq_true rfl, Nat.le_of_ble_eq_true rfl⟩ dX4_refusalOfPair_16 ?_
    show lc_V _ _ _ _ _ 19 _ [.int (lc_bi (sp_site x.1 b1))] (lc_w σ 0 x)
    refine lc_ifb_eq 27 dX4_refusalOfPair_19 (by decide) (fun c_2 => ?_) (fun c_2 => ?_)
    · skip
      refine lc_sipush (v := (-1001)) dX4_refusalOfPair_27 (by decide) ?_
      exact lc_iret hR dX4_refusalOfPair_30 (by simp [sp_pair, c_1, c_2]) (rfl)
    · skip
      refine lc_iload_n 1 dX4_refusalOfPair_22 rfl ?_
      refine lc_iload_n 2 dX4_refusalOfPair_23 rfl ?_
      refine lc_icmp_ne 31 dX4_refusalOfPair_24 (by decide) (fun c_3 => ?_) (fun c_3 => ?_)
      · skip
        refine lc_aload_n 0 dX4_refusalOfPair_31 rfl ?_
        refine lc_g_world fl_X4_19 dX4_refusalOfPair_32 ?_
        refine lc_iload_n 1 dX4_refusalOfPair_35 rfl ?_
        refine lc_callV (4) (c_X3_isOff l G σ 0 x a1 (by omega)) hR.2.2.2.1 hR.2.2.2.2 mt_X3_isOff (by omega) (rfl) rfl ml_X4_76 rfl rfl (Nat.le_of_ble_eq_true rfl) ⟨⟨rfl, rfl⟩, Nat.le_of_ble_eq_true rfl, Nat.le_of_ble_eq_true rfl⟩ dX4_refusalOfPair_36 ?_
        show lc_V _ _ _ _ _ 39 _ [.int (lc_bi (sp_bit (x.1 7 2) a1))] (lc_w σ 0 x)
        refine lc_ifb_ne 53 dX4_refusalOfPair_39 (by decide) (fun c_4 => ?_) (fun c_4 => ?_)
        · skip
          refine lc_sipush (v := (-1003)) dX4_refusalOfPair_53 (by decide) ?_
          refine lc_goto 60 dX4_refusalOfPair_56 (by decide) ?_
          exact lc_iret hR dX4_refusalOfPair_60 (by simp [sp_pair, c_1, c_2, c_3, c_4]) (rfl)
        · skip
          refine lc_aload_n 0 dX4_refusalOfPair_42 rfl ?_
          refine lc_g_world fl_X4_19 dX4_refusalOfPair_43 ?_
          refine lc_iload_n 2 dX4_refusalOfPair_46 rfl ?_
          refine lc_callV (4) (c_X3_isOff l G σ 0 x b1 (by omega)) hR.2.2.2.1 hR.2.2.2.2 mt_X3_isOff (by omega) (rfl) rfl ml_X4_76 rfl rfl (Nat.le_of_ble_eq_true rfl) ⟨⟨rfl, rfl⟩, Nat.le_of_ble_eq_true rfl, Nat.le_of_ble_eq_true rfl⟩ dX4_refusalOfPair_47 ?_
          show lc_V _ _ _ _ _ 50 _ [.int (lc_bi (sp_bit (x.1 7 2) b1))] (lc_w σ 0 x)
          refine lc_ifb_eq 59 dX4_refusalOfPair_50 (by decide) (fun c_5 => ?_) (fun c_5 => ?_)
          · skip
            refine lc_iconst (v := 0) dX4_refusalOfPair_59 (by decide) ?_
            exact lc_iret hR dX4_refusalOfPair_60 (by simp [sp_pair, c_1, c_2, c_3, c_4, c_5]) (rfl)
          · skip
            refine lc_sipush (v := (-1003)) dX4_refusalOfPair_53 (by decide) ?_
            refine lc_goto 60 dX4_refusalOfPair_56 (by decide) ?_
            exact lc_iret hR dX4_refusalOfPair_60 (by simp [sp_pair, c_1, c_2, c_3, c_4, c_5]) (rfl)
      · skip
        refine lc_sipush (v := (-1001)) dX4_refusalOfPair_27 (by decide) ?_
        exact lc_iret hR dX4_refusalOfPair_30 (by simp [sp_pair, c_1, c_2, c_3]) (rfl)

set_option maxRecDepth 100000 in
set_option maxHeartbeats 4000000 in
theorem c_X4_exchange (l : Launch) (G : lc_G) (σ : lc_S) (x : lc_X) (n : Nat) (hn : n ≤ 6) (hs : x.1 7 0 = nI n) (a1 b1 : Int32) : lc_M l G yX4_exchange cX4_exchange 4 (some .int) { frames := 4, cells := 0, slots := 0, locals := 95 } [.ref (G.1 (0)), .int (a1), .int (b1)] (lc_w σ 0 x) (some (.int ((sp_exch sp_cmp x a1 b1).1))) (lc_w σ 0 ((sp_exch sp_cmp x a1 b1).2)) := by
  refine lc_entry [(0, .ref (G.1 (0))), (1, .int (a1)), (2, .int (b1))] (by decide) (Nat.le_of_ble_eq_true rfl) rfl rfl rfl ?_
  intro Γ hR
  refine lc_aload_n 0 dX4_exchange_0 rfl ?_
  refine lc_iload_n 1 dX4_exchange_1 rfl ?_
  refine lc_iload_n 2 dX4_exchange_2 rfl ?_
  refine lc_callV (0) (c_X4_refusalOfPair l G σ x n hn hs a1 b1) hR.2.2.2.1 hR.2.2.2.2 mt_X4_refusalOfPair (by omega) (rfl) rfl ml_X4_105 rfl rfl (Nat.le_of_ble_eq_true rfl) ⟨⟨rfl, rfl⟩, Nat.le_of_ble_eq_true rfl, Nat.le_of_ble_eq_true rfl⟩ dX4_exchange_3 ?_
  show lc_V _ _ _ _ _ 6 _ [.int (sp_pair x.1 a1 b1)] (lc_w σ 0 x)
  refine lc_istore_n [(3, .int (sp_pair x.1 a1 b1)), (0, .ref (G.1 (0))), (1, .int (a1)), (2, .int (b1))] dX4_exchange_6 (by decide) rfl ?_
  refine lc_iload_n 0 dX4_exchange_7 rfl ?_
  refine lc_if_eq 15 dX4_exchange_8 (by decide) (fun c_1 => ?_) (fun c_1 => ?_)
  · skip
    obtain ⟨a2, b2, ha2, hb2, ea2, eb2⟩ := sp_pair_nat hn hs c_1
    subst ea2
    subst eb2
    have q1 : (nI a2).toNatClampNeg = a2 := nI_clamp (by omega)
    have q2 : (nI b2).toNatClampNeg = b2 := nI_clamp (by omega)
    refine lc_aload_n 1 dX4_exchange_15 rfl ?_
    refine lc_g_world fl_X4_19 dX4_exchange_16 ?_
    refine lc_iload_n 2 dX4_exchange_19 rfl ?_
    refine lc_iload_n 3 dX4_exchange_20 rfl ?_
    refine lc_callV (4) (c_X3_compareAll l G σ 0 x a2 b2 (by omega) (by omega) (by omega)) hR.2.2.2.1 hR.2.2.2.2 mt_X3_compareAll (by omega) (rfl) rfl ml_X4_109 rfl rfl (Nat.le_of_ble_eq_true rfl) ⟨⟨rfl, rfl⟩, Nat.le_of_ble_eq_true rfl, Nat.le_of_ble_eq_true rfl⟩ dX4_exchange_21 ?_
    show lc_V _ _ _ _ _ 24 _ [.int ((sp_cmp x a2 b2).1)] (lc_w σ 0 ((sp_cmp x a2 b2).2))
    exact lc_iret hR dX4_exchange_24 (by simp [sp_exch, c_1, q1, q2]) (by simp [sp_exch, c_1, q1, q2])
  · skip
    refine lc_iload_n 0 dX4_exchange_11 rfl ?_
    refine lc_goto 24 dX4_exchange_12 (by decide) ?_
    exact lc_iret hR dX4_exchange_24 (by simp [sp_exch, c_1]) (by simp [sp_exch, c_1])

set_option maxRecDepth 100000 in
set_option maxHeartbeats 4000000 in
theorem c_X4_rumour (l : Launch) (G : lc_G) (σ : lc_S) (x : lc_X) (n : Nat) (hn : n ≤ 6) (hs : x.1 7 0 = nI n) (a1 b1 : Int32) : lc_M l G yX4_rumour cX4_rumour 4 (some .int) { frames := 3, cells := 0, slots := 0, locals := 69 } [.ref (G.1 (0)), .int (a1), .int (b1)] (lc_w σ 0 x) (some (.int ((sp_exch sp_hots x a1 b1).1))) (lc_w σ 0 ((sp_exch sp_hots x a1 b1).2)) := by
  refine lc_entry [(0, .ref (G.1 (0))), (1, .int (a1)), (2, .int (b1))] (by decide) (Nat.le_of_ble_eq_true rfl) rfl rfl rfl ?_
  intro Γ hR
  refine lc_aload_n 0 dX4_rumour_0 rfl ?_
  refine lc_iload_n 1 dX4_rumour_1 rfl ?_
  refine lc_iload_n 2 dX4_rumour_2 rfl ?_
  refine lc_callV (0) (c_X4_refusalOfPair l G σ x n hn hs a1 b1) hR.2.2.2.1 hR.2.2.2.2 mt_X4_refusalOfPair (by omega) (rfl) rfl ml_X4_105 rfl rfl (Nat.le_of_ble_eq_true rfl) ⟨⟨rfl, rfl⟩, Nat.le_of_ble_eq_true rfl, Nat.le_of_ble_eq_true rfl⟩ dX4_rumour_3 ?_
  show lc_V _ _ _ _ _ 6 _ [.int (sp_pair x.1 a1 b1)] (lc_w σ 0 x)
  refine lc_istore_n [(3, .int (sp_pair x.1 a1 b1)), (0, .ref (G.1 (0))), (1, .int (a1)), (2, .int (b1))] dX4_rumour_6 (by decide) rfl ?_
  refine lc_iload_n 0 dX4_rumour_7 rfl ?_
  refine lc_if_eq 15 dX4_rumour_8 (by decide) (fun c_1 => ?_) (fun c_1 => ?_)
  · skip
    obtain ⟨a2, b2, ha2, hb2, ea2, eb2⟩ := sp_pair_nat hn hs c_1
    subst ea2
    subst eb2
    have q1 : (nI a2).toNatClampNeg = a2 := nI_clamp (by omega)
    have q2 : (nI b2).toNatClampNeg = b2 := nI_clamp (by omega)
    refine lc_aload_n 1 dX4_rumour_15 rfl ?_
    refine lc_g_world fl_X4_19 dX4_rumour_16 ?_
    refine lc_iload_n 2 dX4_rumour_19 rfl ?_
    refine lc_iload_n 3 dX4_rumour_20 rfl ?_
    refine lc_callV (4) (c_X3_tellHot l G σ 0 x a2 b2 (by omega) (by omega) (by omega)) hR.2.2.2.1 hR.2.2.2.2 mt_X3_tellHot (by omega) (rfl) rfl ml_X4_112 rfl rfl (Nat.le_of_ble_eq_true rfl) ⟨⟨rfl, rfl⟩, Nat.le_of_ble_eq_true rfl, Nat.le_of_ble_eq_true rfl⟩ dX4_rumour_21 ?_
    show lc_V _ _ _ _ _ 24 _ [.int ((sp_hots x a2 b2).1)] (lc_w σ 0 ((sp_hots x a2 b2).2))
    exact lc_iret hR dX4_rumour_24 (by simp [sp_exch, c_1, q1, q2]) (by simp [sp_exch, c_1, q1, q2])
  · skip
    refine lc_iload_n 0 dX4_rumour_11 rfl ?_
    refine lc_goto 24 dX4_rumour_12 (by decide) ?_
    exact lc_iret hR dX4_rumour_24 (by simp [sp_exch, c_1]) (by simp [sp_exch, c_1])

set_option maxRecDepth 100000 in
set_option maxHeartbeats 4000000 in
theorem c_X4_has (l : Launch) (G : lc_G) (σ : lc_S) (x : lc_X) (n : Nat) (hn : n ≤ 6) (hs : x.1 7 0 = nI n) (s1 k1 what : Int32) : lc_M l G yX4_has cX4_has 5 (some .int) { frames := 1, cells := 0, slots := 0, locals := 22 } [.ref (G.1 (0)), .int (s1), .int (k1), .int (what)] (lc_w σ 0 x) (some (.int (sp_has x.1 s1 k1 what))) (lc_w σ 0 x) := by
  refine lc_entry [(0, .ref (G.1 (0))), (1, .int (s1)), (2, .int (k1)), (3, .int (what))] (by decide) (Nat.le_of_ble_eq_true rfl) rfl rfl rfl ?_
  intro Γ hR
  refine lc_aload_n 0 dX4_has_0 rfl ?_
  refine lc_g_world fl_X4_19 dX4_has_1 ?_
  refine lc_iload_n 1 dX4_has_4 rfl ?_
  refine lc_callV (4) (c_X3_knowsSite l G σ 0 x s1 (by omega)) hR.2.2.2.1 hR.2.2.2.2 mt_X3_knowsSite (by omega) (rfl) rfl ml_X4_69 rfl rfl (Nat.le_of_ble_eq_true rfl) ⟨⟨rfl, rfl⟩, Nat.le_of_ble_eq_true rfl, Nat.le_of_ble_eq_true rfl⟩ dX4_has_5 ?_
  show lc_V _ _ _ _ _ 8 _ [.int (lc_bi (sp_site x.1 s1))] (lc_w σ 0 x)
  refine lc_ifb_eq 18 dX4_has_8 (by decide) (fun c_1 => ?_) (fun c_1 => ?_)
  · skip
    refine lc_sipush (v := (-1001)) dX4_has_18 (by decide) ?_
    exact lc_iret hR dX4_has_21 (by simp [sp_has, c_1]) (rfl)
  · skip
    obtain ⟨a1, ha1, ea1⟩ := sp_site_nat hn (hs) c_1
    subst ea1
    refine lc_iload_n 2 dX4_has_11 rfl ?_
    refine lc_callS (c_X4_isKey l G (lc_w σ 0 x) k1) hR.2.2.2.1 hR.2.2.2.2 mt_X4_isKey ml_X4_73 rfl rfl (Nat.le_of_ble_eq_true rfl) ⟨⟨rfl, rfl⟩, Nat.le_of_ble_eq_true rfl, Nat.le_of_ble_eq_true rfl⟩ dX4_has_12 ?_
    show lc_V _ _ _ _ _ 15 _ [.int (lc_bi (sp_key k1))] (lc_w σ 0 x)
    refine lc_ifb_ne 22 dX4_has_15 (by decide) (fun c_2 => ?_) (fun c_2 => ?_)
    · skip
      obtain ⟨k2, hk2, ek2⟩ := sp_key_nat c_2
      subst ek2
      refine lc_aload_n 0 dX4_has_22 rfl ?_
      refine lc_g_world fl_X4_19 dX4_has_23 ?_
      refine lc_iload_n 1 dX4_has_26 rfl ?_
      refine lc_iload_n 2 dX4_has_27 rfl ?_
      refine lc_callV (4) (c_X3_itemAt l G (lc_w σ 0 x) 0 a1 k2 (by omega) (by omega) (by omega)) hR.2.2.2.1 hR.2.2.2.2 mt_X3_itemAt (by omega) (rfl) rfl ml_X4_86 rfl rfl (Nat.le_of_ble_eq_true rfl) ⟨⟨rfl, rfl⟩, Nat.le_of_ble_eq_true rfl, Nat.le_of_ble_eq_true rfl⟩ dX4_has_28 ?_
      show lc_V _ _ _ _ _ 31 _ [.ref (G.1 (lc_it 0 (4 * a1 + k2)))] (lc_w σ 0 x)
      refine lc_astore [(4, .ref (G.1 (lc_it 0 (4 * a1 + k2)))), (0, .ref (G.1 (0))), (1, .int (nI a1)), (2, .int (nI k2)), (3, .int (what))] dX4_has_31 (by decide) rfl ?_
      refine lc_iload_n 4 dX4_has_33 rfl ?_
      rcases pk_ix what (n := 7) (by decide) with hw0 | hw0 | ⟨wi, hwi, ewi⟩
      · skip
        refine lc_tabOut 130 dX4_has_34 (Or.inl (Int32.lt_iff_toInt_lt.mp hw0)) (by decide) ?_
        refine lc_sipush (v := (-1002)) dX4_has_130 (by decide) ?_
        exact lc_iret hR dX4_has_133 (by simp [sp_has, sp_win_out (lo := 0) (hi := 6) (v := what) (Or.inl hw0), c_1, c_2]) (rfl)
      · skip
        refine lc_tabOut 130 dX4_has_34 (Or.inr (by have h9 := Int32.le_iff_toInt_le.mp hw0; rw [nI_toInt (by decide)] at h9; omega)) (by decide) ?_
        refine lc_sipush (v := (-1002)) dX4_has_130 (by decide) ?_
        exact lc_iret hR dX4_has_133 (by simp [sp_has, sp_win_out (lo := 0) (hi := 6) (v := what) (Or.inr (Int32.lt_of_lt_of_le (by decide) hw0)), c_1, c_2]) (rfl)
      · skip
        subst ewi
        match wi, hwi with
        | 0, _ =>
          refine lc_tabIn 76 0 dX4_has_34 (by decide) (by decide) rfl (by decide) ?_
          refine lc_aload 0 dX4_has_76 rfl ?_
          refine lc_gIw 0 (4 * a1 + k2) 0 (by omega) (by omega) (by decide) fl_X4_90 dX4_has_78 ?_
          exact lc_iret hR dX4_has_81 (by simp [sp_has, sp_hasv, show sp_win (nI 0) 0 6 = true by decide, show (nI 0).toNatClampNeg = 0 by decide, nI_clamp (show a1 < 2 ^ 31 by omega), nI_clamp (show k2 < 2 ^ 31 by omega), c_1, c_2]) (rfl)
        | 1, _ =>
          refine lc_tabIn 82 1 dX4_has_34 (by decide) (by decide) rfl (by decide) ?_
          refine lc_aload 0 dX4_has_82 rfl ?_
          refine lc_gIw 0 (4 * a1 + k2) 1 (by omega) (by omega) (by decide) fl_X4_115 dX4_has_84 ?_
          exact lc_iret hR dX4_has_87 (by simp [sp_has, sp_hasv, show sp_win (nI 1) 0 6 = true by decide, show (nI 1).toNatClampNeg = 1 by decide, nI_clamp (show a1 < 2 ^ 31 by omega), nI_clamp (show k2 < 2 ^ 31 by omega), c_1, c_2]) (rfl)
        | 2, _ =>
          refine lc_tabIn 88 2 dX4_has_34 (by decide) (by decide) rfl (by decide) ?_
          refine lc_aload 0 dX4_has_88 rfl ?_
          refine lc_gIw 0 (4 * a1 + k2) 2 (by omega) (by omega) (by decide) fl_X4_118 dX4_has_90 ?_
          exact lc_iret hR dX4_has_93 (by simp [sp_has, sp_hasv, show sp_win (nI 2) 0 6 = true by decide, show (nI 2).toNatClampNeg = 2 by decide, nI_clamp (show a1 < 2 ^ 31 by omega), nI_clamp (show k2 < 2 ^ 31 by omega), c_1, c_2]) (rfl)
        | 3, _ =>
          refine lc_tabIn 94 3 dX4_has_34 (by decide) (by decide) rfl (by decide) ?_
          refine lc_aload 0 dX4_has_94 rfl ?_
          refine lc_gIw 0 (4 * a1 + k2) 3 (by omega) (by omega) (by decide) fl_X4_121 dX4_has_96 ?_
          exact lc_iret hR dX4_has_99 (by simp [sp_has, sp_hasv, show sp_win (nI 3) 0 6 = true by decide, show (nI 3).toNatClampNeg = 3 by decide, nI_clamp (show a1 < 2 ^ 31 by omega), nI_clamp (show k2 < 2 ^ 31 by omega), c_1, c_2]) (rfl)
        | 4, _ =>
          refine lc_tabIn 100 4 dX4_has_34 (by decide) (by decide) rfl (by decide) ?_
          refine lc_aload 0 dX4_has_100 rfl ?_
          refine lc_gIw 0 (4 * a1 + k2) 4 (by omega) (by omega) (by decide) fl_X4_124 dX4_has_102 ?_
          exact lc_iret hR dX4_has_105 (by simp [sp_has, sp_hasv, show sp_win (nI 4) 0 6 = true by decide, show (nI 4).toNatClampNeg = 4 by decide, nI_clamp (show a1 < 2 ^ 31 by omega), nI_clamp (show k2 < 2 ^ 31 by omega), c_1, c_2]) (rfl)
        | 5, _ =>
          refine lc_tabIn 106 5 dX4_has_34 (by decide) (by decide) rfl (by decide) ?_
          refine lc_aload_n 1 dX4_has_106 rfl ?_
          refine lc_g_world fl_X4_19 dX4_has_107 ?_
          refine lc_aload 0 dX4_has_110 rfl ?_
          refine lc_callV (4) (c_X3_isDormant l G σ 0 x (4 * a1 + k2) (by omega) (by omega)) hR.2.2.2.1 hR.2.2.2.2 mt_X3_isDormant (by omega) (rfl) rfl ml_X4_127 rfl rfl (Nat.le_of_ble_eq_true rfl) ⟨⟨rfl, rfl⟩, Nat.le_of_ble_eq_true rfl, Nat.le_of_ble_eq_true rfl⟩ dX4_has_112 ?_
          show lc_V _ _ _ _ _ 115 _ [.int (lc_bi (sp_dor x.1 (4 * a1 + k2)))] (lc_w σ 0 x)
          refine lc_tern 122 123 dX4_has_115 (by decide) dX4_has_118 dX4_has_119 (by decide) dX4_has_122 rfl ?_
          exact lc_iret hR dX4_has_123 (by simp [sp_has, sp_hasv, show sp_win (nI 5) 0 6 = true by decide, show (nI 5).toNatClampNeg = 5 by decide, nI_clamp (show a1 < 2 ^ 31 by omega), nI_clamp (show k2 < 2 ^ 31 by omega), c_1, c_2]) (rfl)
        | 6, _ =>
          refine lc_tabIn 124 6 dX4_has_34 (by decide) (by decide) rfl (by decide) ?_
          refine lc_aload 0 dX4_has_124 rfl ?_
          refine lc_gIw 0 (4 * a1 + k2) 5 (by omega) (by omega) (by decide) fl_X4_131 dX4_has_126 ?_
          exact lc_iret hR dX4_has_129 (by simp [sp_has, sp_hasv, show sp_win (nI 6) 0 6 = true by decide, show (nI 6).toNatClampNeg = 6 by decide, nI_clamp (show a1 < 2 ^ 31 by omega), nI_clamp (show k2 < 2 ^ 31 by omega), c_1, c_2]) (rfl)
        | wi + 7, h => exact absurd h (by omega)
    · skip
      refine lc_sipush (v := (-1001)) dX4_has_18 (by decide) ?_
      exact lc_iret hR dX4_has_21 (by simp [sp_has, c_1, c_2]) (rfl)

set_option maxRecDepth 100000 in
set_option maxHeartbeats 4000000 in
theorem c_X4_newest (l : Launch) (G : lc_G) (σ : lc_S) (x : lc_X) (n : Nat) (hn : n ≤ 6) (hs : x.1 7 0 = nI n) (s1 kind : Int32) : lc_M l G yX4_newest cX4_newest 3 (some .int) { frames := 2, cells := 0, slots := 0, locals := 48 } [.ref (G.1 (0)), .int (s1), .int (kind)] (lc_w σ 0 x) (some (.int (sp_newest x.1 s1 kind))) (lc_w σ 0 x) := by
  refine lc_entry [(0, .ref (G.1 (0))), (1, .int (s1)), (2, .int (kind))] (by decide) (Nat.le_of_ble_eq_true rfl) rfl rfl rfl ?_
  intro Γ hR
  refine lc_aload_n 0 dX4_newest_0 rfl ?_
  refine lc_g_world fl_X4_19 dX4_newest_1 ?_
  refine lc_iload_n 1 dX4_newest_4 rfl ?_
  refine lc_callV (4) (c_X3_knowsSite l G σ 0 x s1 (by omega)) hR.2.2.2.1 hR.2.2.2.2 mt_X3_knowsSite (by omega) (rfl) rfl ml_X4_69 rfl rfl (Nat.le_of_ble_eq_true rfl) ⟨⟨rfl, rfl⟩, Nat.le_of_ble_eq_true rfl, Nat.le_of_ble_eq_true rfl⟩ dX4_newest_5 ?_
  show lc_V _ _ _ _ _ 8 _ [.int (lc_bi (sp_site x.1 s1))] (lc_w σ 0 x)
  refine lc_ifb_ne 15 dX4_newest_8 (by decide) (fun c_1 => ?_) (fun c_1 => ?_)
  · skip
    obtain ⟨a1, ha1, ea1⟩ := sp_site_nat hn (hs) c_1
    subst ea1
    refine lc_iload_n 2 dX4_newest_15 rfl ?_
    refine lc_if_lt 24 dX4_newest_16 (by decide) (fun c_2 => ?_) (fun c_2 => ?_)
    · skip
      refine lc_sipush (v := (-1002)) dX4_newest_24 (by decide) ?_
      exact lc_iret hR dX4_newest_27 (by simp [sp_newest, sp_win, c_1, c_2]) (rfl)
    · skip
      refine lc_iload_n 2 dX4_newest_19 rfl ?_
      refine lc_iconst (v := 2) dX4_newest_20 (by decide) ?_
      refine lc_icmp_le 28 dX4_newest_21 (by decide) (fun c_3 => ?_) (fun c_3 => ?_)
      · skip
        refine lc_aload_n 0 dX4_newest_28 rfl ?_
        refine lc_g_world fl_X4_19 dX4_newest_29 ?_
        refine lc_iload_n 1 dX4_newest_32 rfl ?_
        refine lc_iload_n 2 dX4_newest_33 rfl ?_
        refine lc_callV (4) (c_X3_newestKey l G σ 0 x a1 kind (by omega) (by omega)) hR.2.2.2.1 hR.2.2.2.2 mt_X3_newestKey (by omega) (rfl) rfl ml_X4_134 rfl rfl (Nat.le_of_ble_eq_true rfl) ⟨⟨rfl, rfl⟩, Nat.le_of_ble_eq_true rfl, Nat.le_of_ble_eq_true rfl⟩ dX4_newest_34 ?_
        show lc_V _ _ _ _ _ 37 _ [.int (sp_on (sp_nks x.1 a1 kind))] (lc_w σ 0 x)
        exact lc_iret hR dX4_newest_37 (by simp [sp_newest, sp_win, nI_clamp (show a1 < 2 ^ 31 by omega), c_1, c_2, c_3]) (rfl)
      · skip
        refine lc_sipush (v := (-1002)) dX4_newest_24 (by decide) ?_
        exact lc_iret hR dX4_newest_27 (by simp [sp_newest, sp_win, c_1, c_2, c_3]) (rfl)
  · skip
    refine lc_sipush (v := (-1001)) dX4_newest_11 (by decide) ?_
    exact lc_iret hR dX4_newest_14 (by simp [sp_newest, sp_win, c_1]) (rfl)

set_option maxRecDepth 100000 in
set_option maxHeartbeats 4000000 in
theorem c_X4_alike (l : Launch) (G : lc_G) (σ : lc_S) (x : lc_X) (n : Nat) (hn : n ≤ 6) (hs : x.1 7 0 = nI n) (s1 s2 : Int32) : lc_M l G yX4_alike cX4_alike 3 (some .int) { frames := 3, cells := 0, slots := 0, locals := 66 } [.ref (G.1 (0)), .int (s1), .int (s2)] (lc_w σ 0 x) (some (.int (sp_alk sp_alike x.1 s1 s2))) (lc_w σ 0 x) := by
  refine lc_entry [(0, .ref (G.1 (0))), (1, .int (s1)), (2, .int (s2))] (by decide) (Nat.le_of_ble_eq_true rfl) rfl rfl rfl ?_
  intro Γ hR
  refine lc_aload_n 0 dX4_alike_0 rfl ?_
  refine lc_g_world fl_X4_19 dX4_alike_1 ?_
  refine lc_iload_n 1 dX4_alike_4 rfl ?_
  refine lc_callV (4) (c_X3_knowsSite l G σ 0 x s1 (by omega)) hR.2.2.2.1 hR.2.2.2.2 mt_X3_knowsSite (by omega) (rfl) rfl ml_X4_69 rfl rfl (Nat.le_of_ble_eq_true rfl) ⟨⟨rfl, rfl⟩, Nat.le_of_ble_eq_true rfl, Nat.le_of_ble_eq_true rfl⟩ dX4_alike_5 ?_
  show lc_V _ _ _ _ _ 8 _ [.int (lc_bi (sp_site x.1 s1))] (lc_w σ 0 x)
  refine lc_ifb_eq 22 dX4_alike_8 (by decide) (fun c_1 => ?_) (fun c_1 => ?_)
  · skip
    refine lc_sipush (v := (-1001)) dX4_alike_22 (by decide) ?_
    exact lc_iret hR dX4_alike_25 (by simp [sp_alk, c_1]) (rfl)
  · skip
    obtain ⟨a1, ha1, ea1⟩ := sp_site_nat hn (hs) c_1
    subst ea1
    refine lc_aload_n 0 dX4_alike_11 rfl ?_
    refine lc_g_world fl_X4_19 dX4_alike_12 ?_
    refine lc_iload_n 2 dX4_alike_15 rfl ?_
    refine lc_callV (4) (c_X3_knowsSite l G σ 0 x s2 (by omega)) hR.2.2.2.1 hR.2.2.2.2 mt_X3_knowsSite (by omega) (rfl) rfl ml_X4_69 rfl rfl (Nat.le_of_ble_eq_true rfl) ⟨⟨rfl, rfl⟩, Nat.le_of_ble_eq_true rfl, Nat.le_of_ble_eq_true rfl⟩ dX4_alike_16 ?_
    show lc_V _ _ _ _ _ 19 _ [.int (lc_bi (sp_site x.1 s2))] (lc_w σ 0 x)
    refine lc_ifb_ne 26 dX4_alike_19 (by decide) (fun c_2 => ?_) (fun c_2 => ?_)
    · skip
      obtain ⟨a2, ha2, ea2⟩ := sp_site_nat hn (hs) c_2
      subst ea2
      refine lc_aload_n 0 dX4_alike_26 rfl ?_
      refine lc_g_world fl_X4_19 dX4_alike_27 ?_
      refine lc_iload_n 1 dX4_alike_30 rfl ?_
      refine lc_iload_n 2 dX4_alike_31 rfl ?_
      refine lc_callV (4) (c_X3_areAlike l G σ 0 x a1 a2 (by omega) (by omega) (by omega)) hR.2.2.2.1 hR.2.2.2.2 mt_X3_areAlike (by omega) (rfl) rfl ml_X4_137 rfl rfl (Nat.le_of_ble_eq_true rfl) ⟨⟨rfl, rfl⟩, Nat.le_of_ble_eq_true rfl, Nat.le_of_ble_eq_true rfl⟩ dX4_alike_32 ?_
      show lc_V _ _ _ _ _ 35 _ [.int (lc_bi (sp_alike x.1 a1 a2))] (lc_w σ 0 x)
      refine lc_tern 42 43 dX4_alike_35 (by decide) dX4_alike_38 dX4_alike_39 (by decide) dX4_alike_42 rfl ?_
      exact lc_iret hR dX4_alike_43 (by simp [sp_alk, nI_clamp (show a1 < 2 ^ 31 by omega), nI_clamp (show a2 < 2 ^ 31 by omega), c_1, c_2]) (rfl)
    · skip
      refine lc_sipush (v := (-1001)) dX4_alike_22 (by decide) ?_
      exact lc_iret hR dX4_alike_25 (by simp [sp_alk, c_1, c_2]) (rfl)

set_option maxRecDepth 100000 in
set_option maxHeartbeats 4000000 in
theorem c_X4_risen (l : Launch) (G : lc_G) (σ : lc_S) (x : lc_X) (n : Nat) (hn : n ≤ 6) (hs : x.1 7 0 = nI n) (k1 : Int32) : lc_M l G yX4_risen cX4_risen 2 (some .int) { frames := 2, cells := 0, slots := 0, locals := 46 } [.ref (G.1 (0)), .int (k1)] (lc_w σ 0 x) (some (.int (sp_risen x.1 (σ.2.1 3) n k1))) (lc_w σ 0 x) := by
  refine lc_entry [(0, .ref (G.1 (0))), (1, .int (k1))] (by decide) (Nat.le_of_ble_eq_true rfl) rfl rfl rfl ?_
  intro Γ hR
  refine lc_iload_n 1 dX4_risen_0 rfl ?_
  refine lc_callS (c_X4_isKey l G (lc_w σ 0 x) k1) hR.2.2.2.1 hR.2.2.2.2 mt_X4_isKey ml_X4_73 rfl rfl (Nat.le_of_ble_eq_true rfl) ⟨⟨rfl, rfl⟩, Nat.le_of_ble_eq_true rfl, Nat.le_of_ble_eq_true rfl⟩ dX4_risen_1 ?_
  show lc_V _ _ _ _ _ 4 _ [.int (lc_bi (sp_key k1))] (lc_w σ 0 x)
  refine lc_ifb_ne 11 dX4_risen_4 (by decide) (fun c_1 => ?_) (fun c_1 => ?_)
  · skip
    obtain ⟨k2, hk2, ek2⟩ := sp_key_nat c_1
    subst ek2
    refine lc_aload_n 0 dX4_risen_11 rfl ?_
    refine lc_g_world fl_X4_19 dX4_risen_12 ?_
    refine lc_iload_n 1 dX4_risen_15 rfl ?_
    refine lc_callV (4) (c_X3_risenSites l G σ 0 x n k2 (by omega) (by omega) (hs) (by omega)) hR.2.2.2.1 hR.2.2.2.2 mt_X3_risenSites (by omega) (rfl) rfl ml_X4_141 rfl rfl (Nat.le_of_ble_eq_true rfl) ⟨⟨rfl, rfl⟩, Nat.le_of_ble_eq_true rfl, Nat.le_of_ble_eq_true rfl⟩ dX4_risen_16 ?_
    show lc_V _ _ _ _ _ 19 _ [.int (sp_rss x.1 (σ.2.1 (3)) k2 n)] (lc_w σ 0 x)
    exact lc_iret hR dX4_risen_19 (by simp [sp_risen, nI_clamp (show k2 < 2 ^ 31 by omega), c_1]) (rfl)
  · skip
    refine lc_sipush (v := (-1001)) dX4_risen_7 (by decide) ?_
    exact lc_iret hR dX4_risen_10 (by simp [sp_risen, c_1]) (rfl)

set_option maxRecDepth 100000 in
set_option maxHeartbeats 4000000 in
theorem c_X4_partner (l : Launch) (G : lc_G) (σ : lc_S) (x : lc_X) (n : Nat) (hn : n ≤ 6) (hs : x.1 7 0 = nI n) (s1 seed what : Int32) : lc_M l G yX4_partner cX4_partner 5 (some .int) { frames := 3, cells := 0, slots := 0, locals := 70 } [.ref (G.1 (0)), .int (s1), .int (seed), .int (what)] (lc_w σ 0 x) (some (.int (sp_pnr x.1 (σ.2.1 6) n s1 seed what))) (lc_w σ 0 x) := by
  refine lc_entry [(0, .ref (G.1 (0))), (1, .int (s1)), (2, .int (seed)), (3, .int (what))] (by decide) (Nat.le_of_ble_eq_true rfl) rfl rfl rfl ?_
  intro Γ hR
  refine lc_aload_n 0 dX4_partner_0 rfl ?_
  refine lc_g_world fl_X4_19 dX4_partner_1 ?_
  refine lc_iload_n 1 dX4_partner_4 rfl ?_
  refine lc_callV (4) (c_X3_knowsSite l G σ 0 x s1 (by omega)) hR.2.2.2.1 hR.2.2.2.2 mt_X3_knowsSite (by omega) (rfl) rfl ml_X4_69 rfl rfl (Nat.le_of_ble_eq_true rfl) ⟨⟨rfl, rfl⟩, Nat.le_of_ble_eq_true rfl, Nat.le_of_ble_eq_true rfl⟩ dX4_partner_5 ?_
  show lc_V _ _ _ _ _ 8 _ [.int (lc_bi (sp_site x.1 s1))] (lc_w σ 0 x)
  refine lc_ifb_ne 15 dX4_partner_8 (by decide) (fun c_1 => ?_) (fun c_1 => ?_)
  · skip
    obtain ⟨a1, ha1, ea1⟩ := sp_site_nat hn (hs) c_1
    subst ea1
    refine lc_iload_n 2 dX4_partner_15 rfl ?_
    refine lc_if_lt 28 dX4_partner_16 (by decide) (fun c_2 => ?_) (fun c_2 => ?_)
    · skip
      refine lc_sipush (v := (-1002)) dX4_partner_28 (by decide) ?_
      exact lc_iret hR dX4_partner_31 (by simp [sp_pnr, sp_win, c_1, c_2]) (rfl)
    · skip
      refine lc_iload_n 3 dX4_partner_19 rfl ?_
      refine lc_if_lt 28 dX4_partner_20 (by decide) (fun c_3 => ?_) (fun c_3 => ?_)
      · skip
        refine lc_sipush (v := (-1002)) dX4_partner_28 (by decide) ?_
        exact lc_iret hR dX4_partner_31 (by simp [sp_pnr, sp_win, c_1, c_2, c_3]) (rfl)
      · skip
        refine lc_iload_n 3 dX4_partner_23 rfl ?_
        refine lc_iconst (v := 1) dX4_partner_24 (by decide) ?_
        refine lc_icmp_le 32 dX4_partner_25 (by decide) (fun c_4 => ?_) (fun c_4 => ?_)
        · skip
          refine lc_aload_n 0 dX4_partner_32 rfl ?_
          refine lc_g_world fl_X4_19 dX4_partner_33 ?_
          refine lc_iload_n 1 dX4_partner_36 rfl ?_
          refine lc_callV (4) (c_X3_othersOn l G σ 0 x (nI a1) (by omega)) hR.2.2.2.1 hR.2.2.2.2 mt_X3_othersOn (by omega) (rfl) rfl ml_X4_144 rfl rfl (Nat.le_of_ble_eq_true rfl) ⟨⟨rfl, rfl⟩, Nat.le_of_ble_eq_true rfl, Nat.le_of_ble_eq_true rfl⟩ dX4_partner_37 ?_
          show lc_V _ _ _ _ _ 40 _ [.int (sp_othOn x.1 (nI a1))] (lc_w σ 0 x)
          refine lc_if_ne 47 dX4_partner_40 (by decide) (fun c_5 => ?_) (fun c_5 => ?_)
          · skip
            refine lc_iload_n 2 dX4_partner_47 rfl ?_
            refine lc_callS (c_X4_nextSeed l G (lc_w σ 0 x) seed) hR.2.2.2.1 hR.2.2.2.2 mt_X4_nextSeed ml_X4_147 rfl rfl (Nat.le_of_ble_eq_true rfl) ⟨⟨rfl, rfl⟩, Nat.le_of_ble_eq_true rfl, Nat.le_of_ble_eq_true rfl⟩ dX4_partner_48 ?_
            show lc_V _ _ _ _ _ 51 _ [.int (sp_next seed)] (lc_w σ 0 x)
            refine lc_istore [(4, .int (sp_next seed)), (0, .ref (G.1 (0))), (1, .int (nI a1)), (2, .int (seed)), (3, .int (what))] dX4_partner_51 (by decide) rfl ?_
            refine lc_iload_n 4 dX4_partner_53 rfl ?_
            refine lc_if_ne 70 dX4_partner_54 (by decide) (fun c_6 => ?_) (fun c_6 => ?_)
            · skip
              refine lc_iload 0 dX4_partner_70 rfl ?_
              exact lc_iret hR dX4_partner_72 (by simp [sp_pnr, sp_win, c_1, c_2, c_3, c_4, c_5, c_6]) (rfl)
            · skip
              refine lc_aload_n 1 dX4_partner_57 rfl ?_
              refine lc_g_world fl_X4_19 dX4_partner_58 ?_
              refine lc_iload_n 2 dX4_partner_61 rfl ?_
              refine lc_iload 0 dX4_partner_62 rfl ?_
              refine lc_callV (4) (c_X3_partnerBy l G σ 0 x n a1 (sp_next seed) (by omega) (by omega) (by omega) (hs)) hR.2.2.2.1 hR.2.2.2.2 mt_X3_partnerBy (by omega) (rfl) rfl ml_X4_150 rfl rfl (Nat.le_of_ble_eq_true rfl) ⟨⟨rfl, rfl⟩, Nat.le_of_ble_eq_true rfl, Nat.le_of_ble_eq_true rfl⟩ dX4_partner_64 ?_
              show lc_V _ _ _ _ _ 67 _ [.int (sp_partC x.1 (σ.2.1 6) a1 n (sp_next seed))] (lc_w σ 0 x)
              refine lc_goto 72 dX4_partner_67 (by decide) ?_
              exact lc_iret hR dX4_partner_72 (by simp [sp_pnr, sp_win, nI_clamp (show a1 < 2 ^ 31 by omega), c_1, c_2, c_3, c_4, c_5, c_6]) (rfl)
          · skip
            refine lc_iload_n 2 dX4_partner_43 rfl ?_
            refine lc_goto 51 dX4_partner_44 (by decide) ?_
            refine lc_istore [(4, .int (seed)), (0, .ref (G.1 (0))), (1, .int (nI a1)), (2, .int (seed)), (3, .int (what))] dX4_partner_51 (by decide) rfl ?_
            refine lc_iload_n 4 dX4_partner_53 rfl ?_
            refine lc_if_ne 70 dX4_partner_54 (by decide) (fun c_7 => ?_) (fun c_7 => ?_)
            · skip
              refine lc_iload 0 dX4_partner_70 rfl ?_
              exact lc_iret hR dX4_partner_72 (by simp [sp_pnr, sp_win, c_1, c_2, c_3, c_4, c_5, c_7]) (rfl)
            · skip
              refine lc_aload_n 1 dX4_partner_57 rfl ?_
              refine lc_g_world fl_X4_19 dX4_partner_58 ?_
              refine lc_iload_n 2 dX4_partner_61 rfl ?_
              refine lc_iload 0 dX4_partner_62 rfl ?_
              refine lc_callV (4) (c_X3_partnerBy l G σ 0 x n a1 seed (by omega) (by omega) (by omega) (hs)) hR.2.2.2.1 hR.2.2.2.2 mt_X3_partnerBy (by omega) (rfl) rfl ml_X4_150 rfl rfl (Nat.le_of_ble_eq_true rfl) ⟨⟨rfl, rfl⟩, Nat.le_of_ble_eq_true rfl, Nat.le_of_ble_eq_true rfl⟩ dX4_partner_64 ?_
              show lc_V _ _ _ _ _ 67 _ [.int (sp_partC x.1 (σ.2.1 6) a1 n seed)] (lc_w σ 0 x)
              refine lc_goto 72 dX4_partner_67 (by decide) ?_
              exact lc_iret hR dX4_partner_72 (by simp [sp_pnr, sp_win, nI_clamp (show a1 < 2 ^ 31 by omega), c_1, c_2, c_3, c_4, c_5, c_7]) (rfl)
        · skip
          refine lc_sipush (v := (-1002)) dX4_partner_28 (by decide) ?_
          exact lc_iret hR dX4_partner_31 (by simp [sp_pnr, sp_win, c_1, c_2, c_3, c_4]) (rfl)
  · skip
    refine lc_sipush (v := (-1001)) dX4_partner_11 (by decide) ?_
    exact lc_iret hR dX4_partner_14 (by simp [sp_pnr, sp_win, c_1]) (rfl)

set_option maxRecDepth 100000 in
set_option maxHeartbeats 4000000 in
theorem c_X4_count (l : Launch) (G : lc_G) (σ : lc_S) (x : lc_X) (n : Nat) (hn : n ≤ 6) (hs : x.1 7 0 = nI n) (what : Int32) : lc_M l G yX4_count cX4_count 2 (some .int) { frames := 0, cells := 0, slots := 0, locals := 0 } [.ref (G.1 (0)), .int (what)] (lc_w σ 0 x) (some (.int (sp_count σ x 0 10 what))) (lc_w σ 0 x) := by
  refine lc_entry [(0, .ref (G.1 (0))), (1, .int (what))] (by decide) (Nat.le_of_ble_eq_true rfl) rfl rfl rfl ?_
  intro Γ hR
  refine lc_iload_n 1 dX4_count_0 rfl ?_
  rcases pk_ix what (n := 12) (by decide) with hw0 | hw0 | ⟨wi, hwi, ewi⟩
  · skip
    refine lc_tabOut 165 dX4_count_1 (Or.inl (Int32.lt_iff_toInt_lt.mp hw0)) (by decide) ?_
    refine lc_sipush (v := (-1002)) dX4_count_165 (by decide) ?_
    exact lc_iret hR dX4_count_168 (by simp [sp_count, sp_win_out (lo := 0) (hi := 11) (v := what) (Or.inl hw0)]) (rfl)
  · skip
    refine lc_tabOut 165 dX4_count_1 (Or.inr (by have h9 := Int32.le_iff_toInt_le.mp hw0; rw [nI_toInt (by decide)] at h9; omega)) (by decide) ?_
    refine lc_sipush (v := (-1002)) dX4_count_165 (by decide) ?_
    exact lc_iret hR dX4_count_168 (by simp [sp_count, sp_win_out (lo := 0) (hi := 11) (v := what) (Or.inr (Int32.lt_of_lt_of_le (by decide) hw0))]) (rfl)
  · skip
    subst ewi
    match wi, hwi with
    | 0, _ =>
      refine lc_tabIn 64 0 dX4_count_1 (by decide) (by decide) rfl (by decide) ?_
      refine lc_aload_n 0 dX4_count_64 rfl ?_
      refine lc_g_page fl_X4_10 dX4_count_65 ?_
      refine lc_gw_len 0 (by omega) fl_X4_30 dX4_count_68 ?_
      exact lc_iret hR dX4_count_71 (by simp [sp_count, sp_cntv, show sp_win (nI 0) 0 11 = true by decide, show (nI 0).toNatClampNeg = 0 by decide]) (rfl)
    | 1, _ =>
      refine lc_tabIn 72 1 dX4_count_1 (by decide) (by decide) rfl (by decide) ?_
      refine lc_aload_n 0 dX4_count_72 rfl ?_
      refine lc_g_world fl_X4_19 dX4_count_73 ?_
      refine lc_gWSites 0 (by omega) fl_X4_53 dX4_count_76 ?_
      exact lc_iret hR dX4_count_79 (by simp [sp_count, sp_cntv, show sp_win (nI 1) 0 11 = true by decide, show (nI 1).toNatClampNeg = 1 by decide]) (rfl)
    | 2, _ =>
      refine lc_tabIn 80 2 dX4_count_1 (by decide) (by decide) rfl (by decide) ?_
      refine lc_aload_n 0 dX4_count_80 rfl ?_
      refine lc_g_world fl_X4_19 dX4_count_81 ?_
      refine lc_gWNow 0 (by omega) fl_X4_79 dX4_count_84 ?_
      exact lc_iret hR dX4_count_87 (by simp [sp_count, sp_cntv, show sp_win (nI 2) 0 11 = true by decide, show (nI 2).toNatClampNeg = 2 by decide]) (rfl)
    | 3, _ =>
      refine lc_tabIn 88 3 dX4_count_1 (by decide) (by decide) rfl (by decide) ?_
      refine lc_aload_n 0 dX4_count_88 rfl ?_
      refine lc_g_world fl_X4_19 dX4_count_89 ?_
      refine lc_gWOff 0 (by omega) fl_X4_102 dX4_count_92 ?_
      exact lc_iret hR dX4_count_95 (by simp [sp_count, sp_cntv, show sp_win (nI 3) 0 11 = true by decide, show (nI 3).toNatClampNeg = 3 by decide]) (rfl)
    | 4, _ =>
      refine lc_tabIn 96 4 dX4_count_1 (by decide) (by decide) rfl (by decide) ?_
      refine lc_aload_n 0 dX4_count_96 rfl ?_
      refine lc_g_world fl_X4_19 dX4_count_97 ?_
      refine lc_gWTra 0 (by omega) fl_X4_160 dX4_count_100 ?_
      exact lc_iret hR dX4_count_103 (by simp [sp_count, sp_cntv, show sp_win (nI 4) 0 11 = true by decide, show (nI 4).toNatClampNeg = 4 by decide]) (rfl)
    | 5, _ =>
      refine lc_tabIn 104 5 dX4_count_1 (by decide) (by decide) rfl (by decide) ?_
      refine lc_aload_n 0 dX4_count_104 rfl ?_
      refine lc_g_world fl_X4_19 dX4_count_105 ?_
      refine lc_gWWok 0 (by omega) fl_X4_163 dX4_count_108 ?_
      exact lc_iret hR dX4_count_111 (by simp [sp_count, sp_cntv, show sp_win (nI 5) 0 11 = true by decide, show (nI 5).toNatClampNeg = 5 by decide]) (rfl)
    | 6, _ =>
      refine lc_tabIn 112 6 dX4_count_1 (by decide) (by decide) rfl (by decide) ?_
      refine lc_aload_n 0 dX4_count_112 rfl ?_
      refine lc_g_world fl_X4_19 dX4_count_113 ?_
      refine lc_gWGon 0 (by omega) fl_X4_166 dX4_count_116 ?_
      exact lc_iret hR dX4_count_119 (by simp [sp_count, sp_cntv, show sp_win (nI 6) 0 11 = true by decide, show (nI 6).toNatClampNeg = 6 by decide]) (rfl)
    | 7, _ =>
      refine lc_tabIn 120 7 dX4_count_1 (by decide) (by decide) rfl (by decide) ?_
      refine lc_aload_n 0 dX4_count_120 rfl ?_
      refine lc_g_world fl_X4_19 dX4_count_121 ?_
      refine lc_gWLim 0 (by omega) fl_X4_63 dX4_count_124 ?_
      refine lc_iconst (v := 0) dX4_count_127 (by decide) ?_
      refine lc_iald (6) 0 (by omega) (lc_eLim 0 (by omega)) (rfl) (by omega) (by decide) dX4_count_128 ?_
      exact lc_iret hR dX4_count_129 (by simp [sp_count, sp_cntv, show sp_win (nI 7) 0 11 = true by decide, show (nI 7).toNatClampNeg = 7 by decide]) (rfl)
    | 8, _ =>
      refine lc_tabIn 130 8 dX4_count_1 (by decide) (by decide) rfl (by decide) ?_
      refine lc_aload_n 0 dX4_count_130 rfl ?_
      refine lc_g_world fl_X4_19 dX4_count_131 ?_
      refine lc_gWLim 0 (by omega) fl_X4_63 dX4_count_134 ?_
      refine lc_iconst (v := 1) dX4_count_137 (by decide) ?_
      refine lc_iald (6) 1 (by omega) (lc_eLim 0 (by omega)) (rfl) (by omega) (by decide) dX4_count_138 ?_
      exact lc_iret hR dX4_count_139 (by simp [sp_count, sp_cntv, show sp_win (nI 8) 0 11 = true by decide, show (nI 8).toNatClampNeg = 8 by decide]) (rfl)
    | 9, _ =>
      refine lc_tabIn 140 9 dX4_count_1 (by decide) (by decide) rfl (by decide) ?_
      refine lc_aload_n 0 dX4_count_140 rfl ?_
      refine lc_g_world fl_X4_19 dX4_count_141 ?_
      refine lc_gWLim 0 (by omega) fl_X4_63 dX4_count_144 ?_
      refine lc_iconst (v := 2) dX4_count_147 (by decide) ?_
      refine lc_iald (6) 2 (by omega) (lc_eLim 0 (by omega)) (rfl) (by omega) (by decide) dX4_count_148 ?_
      exact lc_iret hR dX4_count_149 (by simp [sp_count, sp_cntv, show sp_win (nI 9) 0 11 = true by decide, show (nI 9).toNatClampNeg = 9 by decide]) (rfl)
    | 10, _ =>
      refine lc_tabIn 150 10 dX4_count_1 (by decide) (by decide) rfl (by decide) ?_
      refine lc_aload_n 0 dX4_count_150 rfl ?_
      refine lc_g_world fl_X4_19 dX4_count_151 ?_
      refine lc_gWLim 0 (by omega) fl_X4_63 dX4_count_154 ?_
      refine lc_iconst (v := 3) dX4_count_157 (by decide) ?_
      refine lc_iald (6) 3 (by omega) (lc_eLim 0 (by omega)) (rfl) (by omega) (by decide) dX4_count_158 ?_
      exact lc_iret hR dX4_count_159 (by simp [sp_count, sp_cntv, show sp_win (nI 10) 0 11 = true by decide, show (nI 10).toNatClampNeg = 10 by decide]) (rfl)
    | 11, _ =>
      refine lc_tabIn 160 11 dX4_count_1 (by decide) (by decide) rfl (by decide) ?_
      refine lc_aload_n 0 dX4_count_160 rfl ?_
      refine lc_gw_lines 0 (by omega) fl_X4_50 dX4_count_161 ?_
      exact lc_iret hR dX4_count_164 (by simp [sp_count, sp_cntv, show sp_win (nI 11) 0 11 = true by decide, show (nI 11).toNatClampNeg = 11 by decide]) (rfl)
    | wi + 12, h => exact absurd h (by omega)
end
section
/-! pure words: settling, the digest -/
def sp_RUN (σ : lc_S) (n : Nat) (seed : Int32) (rum : Bool) : Int32 × Int32 × lc_X := sp_run (fun B => sp_aaC B n) (sp_rdC (σ.2.1 6) n rum) 40 0 (seed, (σ.1 0, 0, 0, 0))
def sp_stl (σ : lc_S) (n : Nat) (seed : Int32) (rum : Bool) : lc_S := lc_w (lc_uo (lc_uo (sp_trial σ) 10 3 (sp_RUN σ n seed rum).2.1) 10 2 (sp_RUN σ n seed rum).1) 1 (sp_RUN σ n seed rum).2.2
def sp_pick (what : Int32) (r : Int32 × Int32 × lc_X) : Int32 := if what = 0 then r.1 else if what = 1 then r.2.2.2.1 else r.2.1
def sp_stv (σ : lc_S) (n : Nat) (seed : Int32) (rum : Bool) (what : Int32) : Int32 × lc_S := if (decide (0 ≤ seed) && sp_win what 0 2) = false then (-1002, σ) else if σ.1 0 7 0 = 0 then (-1003, σ) else (sp_pick what (sp_RUN σ n seed rum), sp_stl σ n seed rum)
theorem sp_site_in {B : lc_C} {n s : Nat} (hn : n ≤ 6) (hs : B 7 0 = nI n) (h : s < n) : sp_site B (nI s) = true := by
  unfold sp_site
  rw [hs, decide_eq_true (nI_pos' (by omega)), decide_eq_true (nI_lt h (by omega))]
  rfl
theorem sp_key_in {k : Nat} (h : k < 4) : sp_key (nI k) = true := by
  unfold sp_key
  rw [decide_eq_true (nI_pos' (by omega)), decide_eq_true (show nI k < 4 from nI_lt (b := 4) h (by omega))]
  rfl
theorem sp_has_in {B : lc_C} {n s k w : Nat} (hn : n ≤ 6) (hs : B 7 0 = nI n) (h1 : s < n) (h2 : k < 4) (h3 : w < 7) : sp_has B (nI s) (nI k) (nI w) = sp_hasv B (4 * s + k) w := by
  have e : sp_win (nI w) 0 6 = true := sp_win_in (a := w) (lo := 0) (hi := 6) (by omega) (by omega) (by omega)
  unfold sp_has
  rw [sp_site_in hn hs h1, sp_key_in h2, e, nI_clamp (by omega), nI_clamp (by omega), nI_clamp (by omega)]
  rfl
theorem sp_newest_in {B : lc_C} {n s w : Nat} (hn : n ≤ 6) (hs : B 7 0 = nI n) (h1 : s < n) (h3 : w < 3) : sp_newest B (nI s) (nI w) = sp_on (sp_nks B s (nI w)) := by
  have e : sp_win (nI w) 0 2 = true := sp_win_in (a := w) (lo := 0) (hi := 2) (by omega) (by omega) (by omega)
  unfold sp_newest
  rw [sp_site_in hn hs h1, e, nI_clamp (by omega)]
  rfl
theorem sp_alk_in {al : lc_C → Nat → Nat → Bool} {B : lc_C} {n s o : Nat} (hn : n ≤ 6) (hs : B 7 0 = nI n) (h1 : s < n) (h2 : o < n) : sp_alk al B (nI s) (nI o) = lc_bi (al B s o) := by
  unfold sp_alk
  rw [sp_site_in hn hs h1, sp_site_in hn hs h2, nI_clamp (by omega), nI_clamp (by omega)]
  rfl
theorem sp_risen_in {B : lc_C} {lat : Nat → Int32} {n k : Nat} (h2 : k < 4) : sp_risen B lat n (nI k) = sp_rss B lat k n := by
  unfold sp_risen
  rw [sp_key_in h2, nI_clamp (by omega)]
  rfl
theorem sp_count_in {σ : lc_S} {x : lc_X} {j rl w : Nat} (h : w < 12) : sp_count σ x j rl (nI w) = sp_cntv σ x j rl w := by
  have e : sp_win (nI w) 0 11 = true := sp_win_in (a := w) (lo := 0) (hi := 11) (by omega) (by omega) (by omega)
  unfold sp_count
  rw [e, nI_clamp (by omega)]
  rfl
def sp_h2 (al : lc_C → Nat → Nat → Bool) (B : lc_C) (lat : Nat → Int32) (n : Nat) : Int64 := sp_it (fun k h => sp_mx h (sp_rss B lat k n)) 4 (sp_it (sp_msh al B n) n 1741)
def sp_h3 (h : Int64) (a0 a1 a2 b0 b1 b2 : Int32) : Int64 := sp_mx (sp_mx (sp_mx (sp_mx (sp_mx (sp_mx h a0) a1) a2) b0) b1) b2
def sp_h5 (codes : Nat → Int32) (p : Nat) (cnt : Nat → Int32) (h : Int64) : Int64 := sp_it (fun w h => sp_mx h (cnt w)) 12 (sp_it (fun i h => sp_mx h (codes i)) p h)
def sp_st2 (σ : lc_S) (n : Nat) : lc_S := sp_stl (sp_stl σ n 7 false) n 7 true
def sp_digC (σ : lc_S) (n p : Nat) : Int64 × lc_S := if n = 0 then (sp_h5 (σ.2.1 9) p (sp_cntv σ (σ.1 0, 0, 0, 0) 0 10) (sp_h2 sp_alike (σ.1 0) (σ.2.1 3) n), σ) else (sp_h5 (σ.2.1 9) p (sp_cntv (sp_st2 σ n) ((sp_st2 σ n).1 0, 0, 0, 0) 0 10) (sp_h3 (sp_h2 sp_alike (σ.1 0) (σ.2.1 3) n) (sp_RUN σ n 7 false).1 (sp_RUN σ n 7 false).2.2.2.1 (sp_RUN σ n 7 false).2.1 (sp_RUN σ n 7 true).1 (sp_RUN σ n 7 true).2.2.2.1 (sp_RUN σ n 7 true).2.1), sp_st2 σ n)
end
section
set_option maxRecDepth 100000 in
set_option maxHeartbeats 4000000 in
theorem c_X4_settle (l : Launch) (G : lc_G) (σ : lc_S) (n : Nat) (hn : n ≤ 6) (hs : σ.1 0 7 0 = nI n) (seed : Int32) (rum : Bool) (what : Int32) : lc_M l G yX4_settle cX4_settle 4 (some .int) { frames := 6, cells := 0, slots := 0, locals := 143 } [.ref (G.1 (0)), .int (seed), .int (lc_bi (rum)), .int (what)] (σ) (some (.int ((sp_stv σ n seed rum what).1))) ((sp_stv σ n seed rum what).2) := by
  refine lc_entry [(0, .ref (G.1 (0))), (1, .int (seed)), (2, .int (lc_bi (rum))), (3, .int (what))] (by decide) (Nat.le_of_ble_eq_true rfl) rfl rfl rfl ?_
  intro Γ hR
  refine lc_iload_n 1 dX4_settle_0 rfl ?_
  refine lc_if_lt 13 dX4_settle_1 (by decide) (fun c_1 => ?_) (fun c_1 => ?_)
  · skip
    refine lc_sipush (v := (-1002)) dX4_settle_13 (by decide) ?_
    exact lc_iret hR dX4_settle_16 (by simp [sp_stv, sp_win, c_1]) (by simp [sp_stv, sp_win, c_1])
  · skip
    refine lc_iload_n 3 dX4_settle_4 rfl ?_
    refine lc_if_lt 13 dX4_settle_5 (by decide) (fun c_2 => ?_) (fun c_2 => ?_)
    · skip
      refine lc_sipush (v := (-1002)) dX4_settle_13 (by decide) ?_
      exact lc_iret hR dX4_settle_16 (by simp [sp_stv, sp_win, c_1, c_2]) (by simp [sp_stv, sp_win, c_1, c_2])
    · skip
      refine lc_iload_n 3 dX4_settle_8 rfl ?_
      refine lc_iconst (v := 2) dX4_settle_9 (by decide) ?_
      refine lc_icmp_le 17 dX4_settle_10 (by decide) (fun c_3 => ?_) (fun c_3 => ?_)
      · skip
        refine lc_eq (σ' := lc_w σ 0 ((σ.1 0, 0, 0, 0))) ((lc_w_w σ 0).symm) ?_
        refine lc_aload_n 0 dX4_settle_17 rfl ?_
        refine lc_g_world fl_X4_19 dX4_settle_18 ?_
        refine lc_gWSites 0 (by omega) fl_X4_53 dX4_settle_21 ?_
        refine lc_topi (σ.1 0 7 0) (rfl) ?_
        refine lc_if_ne 31 dX4_settle_24 (by decide) (fun c_4 => ?_) (fun c_4 => ?_)
        · skip
          refine lc_eq (σ' := σ) (lc_w_w σ 0) ?_
          refine lc_aload_n 0 dX4_settle_31 rfl ?_
          refine lc_g_settling fl_X4_26 dX4_settle_32 ?_
          refine lc_aload_n 0 dX4_settle_35 rfl ?_
          refine lc_g_world fl_X4_19 dX4_settle_36 ?_
          refine lc_iload_n 1 dX4_settle_39 rfl ?_
          refine lc_iload_n 2 dX4_settle_40 rfl ?_
          refine lc_callV (3) (c_X2_run l G σ n seed rum hn hs) hR.2.2.2.1 hR.2.2.2.2 mt_X2_run (by omega) (rfl) rfl ml_X4_153 rfl rfl (Nat.le_of_ble_eq_true rfl) ⟨⟨rfl, rfl⟩, Nat.le_of_ble_eq_true rfl, Nat.le_of_ble_eq_true rfl⟩ dX4_settle_41 ?_
          show lc_V _ _ _ _ _ 44 _ [] (lc_w ((lc_uo (lc_uo (sp_trial σ) 10 3 (sp_RUN σ n seed rum).2.1) 10 2 (sp_RUN σ n seed rum).1)) 1 ((sp_RUN σ n seed rum).2.2))
          refine lc_aload_n 0 dX4_settle_44 rfl ?_
          refine lc_g_settling fl_X4_26 dX4_settle_45 ?_
          refine lc_iload_n 3 dX4_settle_48 rfl ?_
          refine lc_callV (3) (c_X2_outcome l G ((lc_uo (lc_uo (sp_trial σ) 10 3 (sp_RUN σ n seed rum).2.1) 10 2 (sp_RUN σ n seed rum).1)) ((sp_RUN σ n seed rum).2.2) what) hR.2.2.2.1 hR.2.2.2.2 mt_X2_outcome (by omega) (rfl) rfl ml_X4_157 rfl rfl (Nat.le_of_ble_eq_true rfl) ⟨⟨rfl, rfl⟩, Nat.le_of_ble_eq_true rfl, Nat.le_of_ble_eq_true rfl⟩ dX4_settle_49 ?_
          show lc_V _ _ _ _ _ 52 _ [.int (if what = 0 then ((lc_uo (lc_uo (sp_trial σ) 10 3 (sp_RUN σ n seed rum).2.1) 10 2 (sp_RUN σ n seed rum).1)).2.1 10 2 else if what = 1 then ((lc_uo (lc_uo (sp_trial σ) 10 3 (sp_RUN σ n seed rum).2.1) 10 2 (sp_RUN σ n seed rum).1)).2.1 1 0 + ((sp_RUN σ n seed rum).2.2).2.1 else ((lc_uo (lc_uo (sp_trial σ) 10 3 (sp_RUN σ n seed rum).2.1) 10 2 (sp_RUN σ n seed rum).1)).2.1 10 3)] (lc_w ((lc_uo (lc_uo (sp_trial σ) 10 3 (sp_RUN σ n seed rum).2.1) 10 2 (sp_RUN σ n seed rum).1)) 1 ((sp_RUN σ n seed rum).2.2))
          refine lc_topi (sp_pick what (sp_RUN σ n seed rum)) (by show (if what = 0 then (sp_RUN σ n seed rum).1 else if what = 1 then 0 + (sp_RUN σ n seed rum).2.2.2.1 else (sp_RUN σ n seed rum).2.1) = _; rw [Int32.zero_add]; rfl) ?_
          refine lc_eq (σ' := sp_stl σ n seed rum) rfl ?_
          exact lc_iret hR dX4_settle_52 (by simp [sp_stv, sp_win, c_1, c_2, c_3, c_4]) (by simp [sp_stv, sp_win, c_1, c_2, c_3, c_4])
        · skip
          refine lc_eq (σ' := σ) (lc_w_w σ 0) ?_
          refine lc_sipush (v := (-1003)) dX4_settle_27 (by decide) ?_
          exact lc_iret hR dX4_settle_30 (by simp [sp_stv, sp_win, c_1, c_2, c_3, c_4]) (by simp [sp_stv, sp_win, c_1, c_2, c_3, c_4])
      · skip
        refine lc_sipush (v := (-1002)) dX4_settle_13 (by decide) ?_
        exact lc_iret hR dX4_settle_16 (by simp [sp_stv, sp_win, c_1, c_2, c_3]) (by simp [sp_stv, sp_win, c_1, c_2, c_3])

set_option maxRecDepth 100000 in
set_option maxHeartbeats 4000000 in
theorem c_X4_mixSite (l : Launch) (G : lc_G) (σ : lc_S) (x : lc_X) (n s : Nat) (hn : n ≤ 6) (hs : x.1 7 0 = nI n) (hsn : s < n) (h : Int64) : lc_M l G yX4_mixSite cX4_mixSite 8 (some .long) { frames := 4, cells := 0, slots := 0, locals := 88 } [.ref (G.1 (0)), .long (h), .int (nI s)] (lc_w σ 0 x) (some (.long (sp_msh sp_alike x.1 n s h))) (lc_w σ 0 x) := by
  refine lc_entry [(0, .ref (G.1 (0))), (1, .long (h)), (3, .int (nI s))] (by decide) (Nat.le_of_ble_eq_true rfl) rfl rfl rfl ?_
  intro Γ hR
  refine lc_lload_n 1 dX4_mixSite_0 rfl ?_
  refine lc_lstore [(4, .long (h)), (0, .ref (G.1 (0))), (1, .long (h)), (3, .int (nI s))] dX4_mixSite_1 (by decide) rfl ?_
  refine lc_iconst (v := 0) dX4_mixSite_3 (by decide) ?_
  refine lc_istore [(6, .int (0)), (4, .long (h)), (0, .ref (G.1 (0))), (1, .long (h)), (3, .int (nI s))] dX4_mixSite_4 (by decide) rfl ?_
  refine lc_lv (lv' := [(0, .ref (G.1 (0))), (3, .int (nI s)), (4, .long (h)), (6, .int (0))]) [2, 4, 1, 0] rfl ?_
  refine lc_forI (α := Int64) (fun k z => lc_V G Γ cX4_mixSite 8 RX4 6 [(0, .ref (G.1 (0))), (3, .int (nI s)), (4, .long (z)), (6, .int (nI k))] [] (lc_w σ 0 x)) (fun _ _ => True) (sp_ksh x.1 s) 4 (fun _ _ _ _ => trivial) (fun k z hk hIk kk => ?_) h (trivial) (fun hIk => ?_)
  · skip
    show lc_V G Γ cX4_mixSite 8 RX4 6 [(0, .ref (G.1 (0))), (3, .int (nI s)), (4, .long (z)), (6, .int (nI k))] [] (lc_w σ 0 x)
    refine lc_iload 3 dX4_mixSite_6 rfl ?_
    refine lc_iconst (v := 4) dX4_mixSite_8 (by decide) ?_
    refine lc_icmp_ge 50 dX4_mixSite_9 (by decide) (fun h => absurd h.1 (by exact nI_ge (b := 4) hk (by omega))) (fun _ => ?_)
    refine lc_iconst (v := 0) dX4_mixSite_12 (by decide) ?_
    refine lc_istore [(7, .int (0)), (0, .ref (G.1 (0))), (3, .int (nI s)), (4, .long (z)), (6, .int (nI k))] dX4_mixSite_13 (by decide) rfl ?_
    refine lc_lv (lv' := [(0, .ref (G.1 (0))), (3, .int (nI s)), (4, .long (z)), (6, .int (nI k)), (7, .int (0))]) [1, 2, 3, 4, 0] rfl ?_
    refine lc_forI (α := Int64) (fun w y => lc_V G Γ cX4_mixSite 8 RX4 15 [(0, .ref (G.1 (0))), (3, .int (nI s)), (4, .long (y)), (6, .int (nI k)), (7, .int (nI w))] [] (lc_w σ 0 x)) (fun _ _ => True) (fun w h => sp_mx h (sp_hasv x.1 (4 * s + k) w)) 7 (fun _ _ _ _ => trivial) (fun w y hw hIw kw => ?_) z (trivial) (fun hIw => ?_)
    · skip
      show lc_V G Γ cX4_mixSite 8 RX4 15 [(0, .ref (G.1 (0))), (3, .int (nI s)), (4, .long (y)), (6, .int (nI k)), (7, .int (nI w))] [] (lc_w σ 0 x)
      refine lc_iload 4 dX4_mixSite_15 rfl ?_
      refine lc_bipush (v := 6) dX4_mixSite_17 (by decide) ?_
      refine lc_icmp_gt 44 dX4_mixSite_19 (by decide) (fun h => absurd h.1 (by exact nI_nlt (a := 6) (b := w) (by omega) (by omega))) (fun _ => ?_)
      refine lc_lload 2 dX4_mixSite_22 rfl ?_
      refine lc_aload_n 0 dX4_mixSite_24 rfl ?_
      refine lc_iload_n 1 dX4_mixSite_25 rfl ?_
      refine lc_iload 3 dX4_mixSite_26 rfl ?_
      refine lc_iload 4 dX4_mixSite_28 rfl ?_
      refine lc_callV (0) (c_X4_has l G σ x n hn hs (nI s) (nI k) (nI w)) hR.2.2.2.1 hR.2.2.2.2 mt_X4_has (by omega) (rfl) rfl ml_X4_187 rfl rfl (Nat.le_of_ble_eq_true rfl) ⟨⟨rfl, rfl⟩, Nat.le_of_ble_eq_true rfl, Nat.le_of_ble_eq_true rfl⟩ dX4_mixSite_30 ?_
      show lc_V _ _ _ _ _ 33 _ [.int (sp_has x.1 (nI s) (nI k) (nI w)), .long (y)] (lc_w σ 0 x)
      refine lc_topi (sp_hasv x.1 (4 * s + k) w) (sp_has_in hn hs hsn hk hw) ?_
      refine lc_callS (c_X4_mix l G (lc_w σ 0 x) y (sp_hasv x.1 (4 * s + k) w)) hR.2.2.2.1 hR.2.2.2.2 mt_X4_mix ml_X4_178 rfl rfl (Nat.le_of_ble_eq_true rfl) ⟨⟨rfl, rfl⟩, Nat.le_of_ble_eq_true rfl, Nat.le_of_ble_eq_true rfl⟩ dX4_mixSite_33 ?_
      show lc_V _ _ _ _ _ 36 _ [.long (sp_mx y (sp_hasv x.1 (4 * s + k) w))] (lc_w σ 0 x)
      refine lc_lstore [(4, .long (sp_mx y (sp_hasv x.1 (4 * s + k) w))), (0, .ref (G.1 (0))), (3, .int (nI s)), (6, .int (nI k)), (7, .int (nI w))] dX4_mixSite_36 (by decide) rfl ?_
      refine lc_iinc 4 (nI (w + 1)) [(7, .int (nI (w + 1))), (4, .long (sp_mx y (sp_hasv x.1 (4 * s + k) w))), (0, .ref (G.1 (0))), (3, .int (nI s)), (6, .int (nI k))] dX4_mixSite_38 rfl (lc_inc1 w) (by decide) rfl ?_
      refine lc_goto 15 dX4_mixSite_41 (by decide) ?_
      refine lc_lv (lv' := [(0, .ref (G.1 (0))), (3, .int (nI s)), (4, .long (sp_mx y (sp_hasv x.1 (4 * s + k) w))), (6, .int (nI k)), (7, .int (nI (w + 1)))]) [2, 3, 1, 4, 0] rfl ?_
      rw [show sp_mx y (sp_hasv x.1 (4 * s + k) w) = sp_mx y (sp_hasv x.1 (4 * s + k) w) from rfl] at kw
      exact kw
    · skip
      show lc_V G Γ cX4_mixSite 8 RX4 15 [(0, .ref (G.1 (0))), (3, .int (nI s)), (4, .long ((sp_ksh x.1 s k z))), (6, .int (nI k)), (7, .int (nI 7))] [] (lc_w σ 0 x)
      refine lc_iload 4 dX4_mixSite_15 rfl ?_
      refine lc_bipush (v := 6) dX4_mixSite_17 (by decide) ?_
      refine lc_icmp_gt 44 dX4_mixSite_19 (by decide) (fun _ => ?_) (fun h => absurd h.1 (by decide))
      refine lc_iinc 3 (nI (k + 1)) [(6, .int (nI (k + 1))), (0, .ref (G.1 (0))), (3, .int (nI s)), (4, .long ((sp_ksh x.1 s k z))), (7, .int (nI 7))] dX4_mixSite_44 rfl (lc_inc1 k) (by decide) rfl ?_
      refine lc_goto 6 dX4_mixSite_47 (by decide) ?_
      refine lc_lv (lv' := [(0, .ref (G.1 (0))), (3, .int (nI s)), (4, .long ((sp_ksh x.1 s k z))), (6, .int (nI (k + 1)))]) [1, 2, 3, 0] rfl ?_
      rw [show (sp_ksh x.1 s) k z = sp_ksh x.1 s k z from rfl] at kk
      exact kk
  · skip
    show lc_V G Γ cX4_mixSite 8 RX4 6 [(0, .ref (G.1 (0))), (3, .int (nI s)), (4, .long ((sp_it (sp_ksh x.1 s) 4 h))), (6, .int (nI 4))] [] (lc_w σ 0 x)
    refine lc_iload 3 dX4_mixSite_6 rfl ?_
    refine lc_iconst (v := 4) dX4_mixSite_8 (by decide) ?_
    refine lc_icmp_ge 50 dX4_mixSite_9 (by decide) (fun _ => ?_) (fun h => absurd h.1 (by exact nI_nlt (a := 4) (b := 4) (Nat.le_refl _) (by omega)))
    refine lc_iconst (v := 0) dX4_mixSite_50 (by decide) ?_
    refine lc_istore [(6, .int (0)), (0, .ref (G.1 (0))), (3, .int (nI s)), (4, .long ((sp_it (sp_ksh x.1 s) 4 h)))] dX4_mixSite_51 (by decide) rfl ?_
    refine lc_lv (lv' := [(0, .ref (G.1 (0))), (3, .int (nI s)), (4, .long ((sp_it (sp_ksh x.1 s) 4 h))), (6, .int (0))]) [1, 2, 3, 0] rfl ?_
    refine lc_forI (α := Int64) (fun kd z => lc_V G Γ cX4_mixSite 8 RX4 53 [(0, .ref (G.1 (0))), (3, .int (nI s)), (4, .long (z)), (6, .int (nI kd))] [] (lc_w σ 0 x)) (fun _ _ => True) (fun kd h => sp_mx h (sp_on (sp_nks x.1 s (nI kd)))) 3 (fun _ _ _ _ => trivial) (fun kd z hkd hIkd kkd => ?_) ((sp_it (sp_ksh x.1 s) 4 h)) (trivial) (fun hIkd => ?_)
    · skip
      show lc_V G Γ cX4_mixSite 8 RX4 53 [(0, .ref (G.1 (0))), (3, .int (nI s)), (4, .long (z)), (6, .int (nI kd))] [] (lc_w σ 0 x)
      refine lc_iload 3 dX4_mixSite_53 rfl ?_
      refine lc_iconst (v := 2) dX4_mixSite_55 (by decide) ?_
      refine lc_icmp_gt 79 dX4_mixSite_56 (by decide) (fun h => absurd h.1 (by exact nI_nlt (a := 2) (b := kd) (by omega) (by omega))) (fun _ => ?_)
      refine lc_lload 2 dX4_mixSite_59 rfl ?_
      refine lc_aload_n 0 dX4_mixSite_61 rfl ?_
      refine lc_iload_n 1 dX4_mixSite_62 rfl ?_
      refine lc_iload 3 dX4_mixSite_63 rfl ?_
      refine lc_callV (0) (c_X4_newest l G σ x n hn hs (nI s) (nI kd)) hR.2.2.2.1 hR.2.2.2.2 mt_X4_newest (by omega) (rfl) rfl ml_X4_190 rfl rfl (Nat.le_of_ble_eq_true rfl) ⟨⟨rfl, rfl⟩, Nat.le_of_ble_eq_true rfl, Nat.le_of_ble_eq_true rfl⟩ dX4_mixSite_65 ?_
      show lc_V _ _ _ _ _ 68 _ [.int (sp_newest x.1 (nI s) (nI kd)), .long (z)] (lc_w σ 0 x)
      refine lc_topi (sp_on (sp_nks x.1 s (nI kd))) (sp_newest_in hn hs hsn hkd) ?_
      refine lc_callS (c_X4_mix l G (lc_w σ 0 x) z (sp_on (sp_nks x.1 s (nI kd)))) hR.2.2.2.1 hR.2.2.2.2 mt_X4_mix ml_X4_178 rfl rfl (Nat.le_of_ble_eq_true rfl) ⟨⟨rfl, rfl⟩, Nat.le_of_ble_eq_true rfl, Nat.le_of_ble_eq_true rfl⟩ dX4_mixSite_68 ?_
      show lc_V _ _ _ _ _ 71 _ [.long (sp_mx z (sp_on (sp_nks x.1 s (nI kd))))] (lc_w σ 0 x)
      refine lc_lstore [(4, .long (sp_mx z (sp_on (sp_nks x.1 s (nI kd))))), (0, .ref (G.1 (0))), (3, .int (nI s)), (6, .int (nI kd))] dX4_mixSite_71 (by decide) rfl ?_
      refine lc_iinc 3 (nI (kd + 1)) [(6, .int (nI (kd + 1))), (4, .long (sp_mx z (sp_on (sp_nks x.1 s (nI kd))))), (0, .ref (G.1 (0))), (3, .int (nI s))] dX4_mixSite_73 rfl (lc_inc1 kd) (by decide) rfl ?_
      refine lc_goto 53 dX4_mixSite_76 (by decide) ?_
      refine lc_lv (lv' := [(0, .ref (G.1 (0))), (3, .int (nI s)), (4, .long (sp_mx z (sp_on (sp_nks x.1 s (nI kd))))), (6, .int (nI (kd + 1)))]) [2, 3, 1, 0] rfl ?_
      rw [show sp_mx z (sp_on (sp_nks x.1 s (nI kd))) = sp_mx z (sp_on (sp_nks x.1 s (nI kd))) from rfl] at kkd
      exact kkd
    · skip
      show lc_V G Γ cX4_mixSite 8 RX4 53 [(0, .ref (G.1 (0))), (3, .int (nI s)), (4, .long ((sp_it (fun kd h => sp_mx h (sp_on (sp_nks x.1 s (nI kd)))) 3 (sp_it (sp_ksh x.1 s) 4 h)))), (6, .int (nI 3))] [] (lc_w σ 0 x)
      refine lc_iload 3 dX4_mixSite_53 rfl ?_
      refine lc_iconst (v := 2) dX4_mixSite_55 (by decide) ?_
      refine lc_icmp_gt 79 dX4_mixSite_56 (by decide) (fun _ => ?_) (fun h => absurd h.1 (by decide))
      refine lc_iconst (v := 0) dX4_mixSite_79 (by decide) ?_
      refine lc_istore [(6, .int (0)), (0, .ref (G.1 (0))), (3, .int (nI s)), (4, .long ((sp_it (fun kd h => sp_mx h (sp_on (sp_nks x.1 s (nI kd)))) 3 (sp_it (sp_ksh x.1 s) 4 h))))] dX4_mixSite_80 (by decide) rfl ?_
      refine lc_lv (lv' := [(0, .ref (G.1 (0))), (3, .int (nI s)), (4, .long ((sp_it (fun kd h => sp_mx h (sp_on (sp_nks x.1 s (nI kd)))) 3 (sp_it (sp_ksh x.1 s) 4 h)))), (6, .int (0))]) [1, 2, 3, 0] rfl ?_
      refine lc_forI (α := Int64) (fun o z => lc_V G Γ cX4_mixSite 8 RX4 82 [(0, .ref (G.1 (0))), (3, .int (nI s)), (4, .long (z)), (6, .int (nI o))] [] (lc_w σ 0 x)) (fun _ _ => True) (fun o h => sp_mx h (lc_bi (sp_alike x.1 s o))) n (fun _ _ _ _ => trivial) (fun o z ho hIo ko => ?_) ((sp_it (fun kd h => sp_mx h (sp_on (sp_nks x.1 s (nI kd)))) 3 (sp_it (sp_ksh x.1 s) 4 h))) (trivial) (fun hIo => ?_)
      · skip
        show lc_V G Γ cX4_mixSite 8 RX4 82 [(0, .ref (G.1 (0))), (3, .int (nI s)), (4, .long (z)), (6, .int (nI o))] [] (lc_w σ 0 x)
        refine lc_iload 3 dX4_mixSite_82 rfl ?_
        refine lc_aload_n 0 dX4_mixSite_84 rfl ?_
        refine lc_g_world fl_X4_19 dX4_mixSite_85 ?_
        refine lc_gWSites 0 (by omega) fl_X4_53 dX4_mixSite_88 ?_
        refine lc_icmp_ge 114 dX4_mixSite_91 (by decide) (fun h => absurd h.1 (by rw [hs]; exact nI_ge (b := n) ho (by omega))) (fun _ => ?_)
        refine lc_lload 2 dX4_mixSite_94 rfl ?_
        refine lc_aload_n 0 dX4_mixSite_96 rfl ?_
        refine lc_iload_n 1 dX4_mixSite_97 rfl ?_
        refine lc_iload 3 dX4_mixSite_98 rfl ?_
        refine lc_callV (0) (c_X4_alike l G σ x n hn hs (nI s) (nI o)) hR.2.2.2.1 hR.2.2.2.2 mt_X4_alike (by omega) (rfl) rfl ml_X4_193 rfl rfl (Nat.le_of_ble_eq_true rfl) ⟨⟨rfl, rfl⟩, Nat.le_of_ble_eq_true rfl, Nat.le_of_ble_eq_true rfl⟩ dX4_mixSite_100 ?_
        show lc_V _ _ _ _ _ 103 _ [.int (sp_alk sp_alike x.1 (nI s) (nI o)), .long (z)] (lc_w σ 0 x)
        refine lc_topi (lc_bi (sp_alike x.1 s o)) (sp_alk_in hn hs hsn ho) ?_
        refine lc_callS (c_X4_mix l G (lc_w σ 0 x) z (lc_bi (sp_alike x.1 s o))) hR.2.2.2.1 hR.2.2.2.2 mt_X4_mix ml_X4_178 rfl rfl (Nat.le_of_ble_eq_true rfl) ⟨⟨rfl, rfl⟩, Nat.le_of_ble_eq_true rfl, Nat.le_of_ble_eq_true rfl⟩ dX4_mixSite_103 ?_
        show lc_V _ _ _ _ _ 106 _ [.long (sp_mx z (lc_bi (sp_alike x.1 s o)))] (lc_w σ 0 x)
        refine lc_lstore [(4, .long (sp_mx z (lc_bi (sp_alike x.1 s o)))), (0, .ref (G.1 (0))), (3, .int (nI s)), (6, .int (nI o))] dX4_mixSite_106 (by decide) rfl ?_
        refine lc_iinc 3 (nI (o + 1)) [(6, .int (nI (o + 1))), (4, .long (sp_mx z (lc_bi (sp_alike x.1 s o)))), (0, .ref (G.1 (0))), (3, .int (nI s))] dX4_mixSite_108 rfl (lc_inc1 o) (by decide) rfl ?_
        refine lc_goto 82 dX4_mixSite_111 (by decide) ?_
        refine lc_lv (lv' := [(0, .ref (G.1 (0))), (3, .int (nI s)), (4, .long (sp_mx z (lc_bi (sp_alike x.1 s o)))), (6, .int (nI (o + 1)))]) [2, 3, 1, 0] rfl ?_
        rw [show sp_mx z (lc_bi (sp_alike x.1 s o)) = sp_mx z (lc_bi (sp_alike x.1 s o)) from rfl] at ko
        exact ko
      · skip
        show lc_V G Γ cX4_mixSite 8 RX4 82 [(0, .ref (G.1 (0))), (3, .int (nI s)), (4, .long ((sp_msh sp_alike x.1 n s h))), (6, .int (nI n))] [] (lc_w σ 0 x)
        refine lc_iload 3 dX4_mixSite_82 rfl ?_
        refine lc_aload_n 0 dX4_mixSite_84 rfl ?_
        refine lc_g_world fl_X4_19 dX4_mixSite_85 ?_
        refine lc_gWSites 0 (by omega) fl_X4_53 dX4_mixSite_88 ?_
        refine lc_icmp_ge 114 dX4_mixSite_91 (by decide) (fun _ => ?_) (fun h => absurd h.1 (by rw [hs]; exact nI_nlt (a := n) (b := n) (Nat.le_refl _) (by omega)))
        refine lc_lload 2 dX4_mixSite_114 rfl ?_
        exact lc_lret hR dX4_mixSite_116 (rfl) (rfl)

set_option maxRecDepth 100000 in
set_option maxHeartbeats 4000000 in
theorem c_X4_digest (l : Launch) (G : lc_G) (σ : lc_S) (n p : Nat) (hn : n ≤ 6) (hs : σ.1 0 7 0 = nI n) (hp : σ.2.1 10 0 = nI p) (hp6 : p ≤ 6) : lc_M l G yX4_digest cX4_digest 5 (some .long) { frames := 6, cells := 0, slots := 0, locals := 143 } [.ref (G.1 (0))] (σ) (some (.long ((sp_digC σ n p).1))) ((sp_digC σ n p).2) := by
  refine lc_entry [(0, .ref (G.1 (0)))] (by decide) (Nat.le_of_ble_eq_true rfl) rfl rfl rfl ?_
  intro Γ hR
  refine lc_eq (σ' := lc_w σ 0 ((σ.1 0, 0, 0, 0))) ((lc_w_w σ 0).symm) ?_
  refine lc_ldc2 kc_X4_169 dX4_digest_0 ?_
  refine lc_lstore_n [(1, .long (1741)), (0, .ref (G.1 (0)))] dX4_digest_3 (by decide) rfl ?_
  refine lc_iconst (v := 0) dX4_digest_4 (by decide) ?_
  refine lc_istore_n [(3, .int (0)), (1, .long (1741)), (0, .ref (G.1 (0)))] dX4_digest_5 (by decide) rfl ?_
  refine lc_lv (lv' := [(0, .ref (G.1 (0))), (1, .long (1741)), (3, .int (0))]) [2, 1, 0] rfl ?_
  refine lc_forI (α := Int64) (fun i z => lc_V G Γ cX4_digest 5 RX4 6 [(0, .ref (G.1 (0))), (1, .long (z)), (3, .int (nI i))] [] (lc_w σ 0 ((σ.1 0, 0, 0, 0)))) (fun _ _ => True) (sp_msh sp_alike (σ.1 0) n) n (fun _ _ _ _ => trivial) (fun i z hi hIi ki => ?_) 1741 (trivial) (fun hIi => ?_)
  · skip
    show lc_V G Γ cX4_digest 5 RX4 6 [(0, .ref (G.1 (0))), (1, .long (z)), (3, .int (nI i))] [] (lc_w σ 0 ((σ.1 0, 0, 0, 0)))
    refine lc_iload_n 2 dX4_digest_6 rfl ?_
    refine lc_aload_n 0 dX4_digest_7 rfl ?_
    refine lc_g_world fl_X4_19 dX4_digest_8 ?_
    refine lc_gWSites 0 (by omega) fl_X4_53 dX4_digest_11 ?_
    refine lc_topi (σ.1 0 7 0) (rfl) ?_
    refine lc_icmp_ge 30 dX4_digest_14 (by decide) (fun h => absurd h.1 (by rw [hs]; exact nI_ge (b := n) hi (by omega))) (fun _ => ?_)
    refine lc_aload_n 0 dX4_digest_17 rfl ?_
    refine lc_lload_n 1 dX4_digest_18 rfl ?_
    refine lc_iload_n 2 dX4_digest_19 rfl ?_
    refine lc_callV (0) (c_X4_mixSite l G σ ((σ.1 0, 0, 0, 0)) n i hn hs (by omega) z) hR.2.2.2.1 hR.2.2.2.2 mt_X4_mixSite (by omega) (rfl) rfl ml_X4_171 rfl rfl (Nat.le_of_ble_eq_true rfl) ⟨⟨rfl, rfl⟩, Nat.le_of_ble_eq_true rfl, Nat.le_of_ble_eq_true rfl⟩ dX4_digest_20 ?_
    show lc_V _ _ _ _ _ 23 _ [.long (sp_msh sp_alike (σ.1 0) n i z)] (lc_w σ 0 ((σ.1 0, 0, 0, 0)))
    refine lc_lstore_n [(1, .long (sp_msh sp_alike (σ.1 0) n i z)), (0, .ref (G.1 (0))), (3, .int (nI i))] dX4_digest_23 (by decide) rfl ?_
    refine lc_iinc 2 (nI (i + 1)) [(3, .int (nI (i + 1))), (1, .long (sp_msh sp_alike (σ.1 0) n i z)), (0, .ref (G.1 (0)))] dX4_digest_24 rfl (lc_inc1 i) (by decide) rfl ?_
    refine lc_goto 6 dX4_digest_27 (by decide) ?_
    refine lc_lv (lv' := [(0, .ref (G.1 (0))), (1, .long (sp_msh sp_alike (σ.1 0) n i z)), (3, .int (nI (i + 1)))]) [2, 1, 0] rfl ?_
    rw [show (sp_msh sp_alike (σ.1 0) n) i z = sp_msh sp_alike (σ.1 0) n i z from rfl] at ki
    exact ki
  · skip
    show lc_V G Γ cX4_digest 5 RX4 6 [(0, .ref (G.1 (0))), (1, .long ((sp_it (sp_msh sp_alike (σ.1 0) n) n 1741))), (3, .int (nI n))] [] (lc_w σ 0 ((σ.1 0, 0, 0, 0)))
    refine lc_iload_n 2 dX4_digest_6 rfl ?_
    refine lc_aload_n 0 dX4_digest_7 rfl ?_
    refine lc_g_world fl_X4_19 dX4_digest_8 ?_
    refine lc_gWSites 0 (by omega) fl_X4_53 dX4_digest_11 ?_
    refine lc_topi (σ.1 0 7 0) (rfl) ?_
    refine lc_icmp_ge 30 dX4_digest_14 (by decide) (fun _ => ?_) (fun h => absurd h.1 (by rw [hs]; exact nI_nlt (a := n) (b := n) (Nat.le_refl _) (by omega)))
    refine lc_iconst (v := 0) dX4_digest_30 (by decide) ?_
    refine lc_istore_n [(3, .int (0)), (0, .ref (G.1 (0))), (1, .long ((sp_it (sp_msh sp_alike (σ.1 0) n) n 1741)))] dX4_digest_31 (by decide) rfl ?_
    refine lc_lv (lv' := [(0, .ref (G.1 (0))), (1, .long ((sp_it (sp_msh sp_alike (σ.1 0) n) n 1741))), (3, .int (0))]) [1, 2, 0] rfl ?_
    refine lc_forI (α := Int64) (fun k z => lc_V G Γ cX4_digest 5 RX4 32 [(0, .ref (G.1 (0))), (1, .long (z)), (3, .int (nI k))] [] (lc_w σ 0 ((σ.1 0, 0, 0, 0)))) (fun _ _ => True) (fun k h => sp_mx h (sp_rss (σ.1 0) (σ.2.1 3) k n)) 4 (fun _ _ _ _ => trivial) (fun k z hk hIk kk => ?_) ((sp_it (sp_msh sp_alike (σ.1 0) n) n 1741)) (trivial) (fun hIk => ?_)
    · skip
      show lc_V G Γ cX4_digest 5 RX4 32 [(0, .ref (G.1 (0))), (1, .long (z)), (3, .int (nI k))] [] (lc_w σ 0 ((σ.1 0, 0, 0, 0)))
      refine lc_iload_n 2 dX4_digest_32 rfl ?_
      refine lc_iconst (v := 4) dX4_digest_33 (by decide) ?_
      refine lc_icmp_ge 53 dX4_digest_34 (by decide) (fun h => absurd h.1 (by exact nI_ge (b := 4) hk (by omega))) (fun _ => ?_)
      refine lc_lload_n 1 dX4_digest_37 rfl ?_
      refine lc_aload_n 0 dX4_digest_38 rfl ?_
      refine lc_iload_n 2 dX4_digest_39 rfl ?_
      refine lc_callV (0) (c_X4_risen l G σ ((σ.1 0, 0, 0, 0)) n hn hs (nI k)) hR.2.2.2.1 hR.2.2.2.2 mt_X4_risen (by omega) (rfl) rfl ml_X4_175 rfl rfl (Nat.le_of_ble_eq_true rfl) ⟨⟨rfl, rfl⟩, Nat.le_of_ble_eq_true rfl, Nat.le_of_ble_eq_true rfl⟩ dX4_digest_40 ?_
      show lc_V _ _ _ _ _ 43 _ [.int (sp_risen (σ.1 0) (σ.2.1 3) n (nI k)), .long (z)] (lc_w σ 0 ((σ.1 0, 0, 0, 0)))
      refine lc_topi (sp_rss (σ.1 0) (σ.2.1 3) k n) (sp_risen_in hk) ?_
      refine lc_callS (c_X4_mix l G (lc_w σ 0 ((σ.1 0, 0, 0, 0))) z (sp_rss (σ.1 0) (σ.2.1 3) k n)) hR.2.2.2.1 hR.2.2.2.2 mt_X4_mix ml_X4_178 rfl rfl (Nat.le_of_ble_eq_true rfl) ⟨⟨rfl, rfl⟩, Nat.le_of_ble_eq_true rfl, Nat.le_of_ble_eq_true rfl⟩ dX4_digest_43 ?_
      show lc_V _ _ _ _ _ 46 _ [.long (sp_mx z (sp_rss (σ.1 0) (σ.2.1 3) k n))] (lc_w σ 0 ((σ.1 0, 0, 0, 0)))
      refine lc_lstore_n [(1, .long (sp_mx z (sp_rss (σ.1 0) (σ.2.1 3) k n))), (0, .ref (G.1 (0))), (3, .int (nI k))] dX4_digest_46 (by decide) rfl ?_
      refine lc_iinc 2 (nI (k + 1)) [(3, .int (nI (k + 1))), (1, .long (sp_mx z (sp_rss (σ.1 0) (σ.2.1 3) k n))), (0, .ref (G.1 (0)))] dX4_digest_47 rfl (lc_inc1 k) (by decide) rfl ?_
      refine lc_goto 32 dX4_digest_50 (by decide) ?_
      refine lc_lv (lv' := [(0, .ref (G.1 (0))), (1, .long (sp_mx z (sp_rss (σ.1 0) (σ.2.1 3) k n))), (3, .int (nI (k + 1)))]) [2, 1, 0] rfl ?_
      rw [show sp_mx z (sp_rss (σ.1 0) (σ.2.1 3) k n) = sp_mx z (sp_rss (σ.1 0) (σ.2.1 3) k n) from rfl] at kk
      exact kk
    · skip
      show lc_V G Γ cX4_digest 5 RX4 32 [(0, .ref (G.1 (0))), (1, .long ((sp_h2 sp_alike (σ.1 0) (σ.2.1 3) n))), (3, .int (nI 4))] [] (lc_w σ 0 ((σ.1 0, 0, 0, 0)))
      refine lc_iload_n 2 dX4_digest_32 rfl ?_
      refine lc_iconst (v := 4) dX4_digest_33 (by decide) ?_
      refine lc_icmp_ge 53 dX4_digest_34 (by decide) (fun _ => ?_) (fun h => absurd h.1 (by exact nI_nlt (a := 4) (b := 4) (Nat.le_refl _) (by omega)))
      refine lc_iconst (v := 0) dX4_digest_53 (by decide) ?_
      refine lc_istore_n [(3, .int (0)), (0, .ref (G.1 (0))), (1, .long ((sp_h2 sp_alike (σ.1 0) (σ.2.1 3) n)))] dX4_digest_54 (by decide) rfl ?_
      refine lc_iload_n 0 dX4_digest_55 rfl ?_
      refine lc_iconst (v := 2) dX4_digest_56 (by decide) ?_
      refine lc_icmp_ge 128 dX4_digest_57 (by decide) (fun h => absurd h (by decide)) (fun _ => ?_)
      by_cases h0 : n = 0
      · skip
        refine lc_aload_n 1 dX4_digest_60 rfl ?_
        refine lc_g_world fl_X4_19 dX4_digest_61 ?_
        refine lc_gWSites 0 (by omega) fl_X4_53 dX4_digest_64 ?_
        refine lc_topi (σ.1 0 7 0) (rfl) ?_
        refine lc_if_le 128 dX4_digest_67 (by decide) (fun _ => ?_) (fun h => absurd h.1 (by rw [hs, h0]; decide))
        refine lc_iconst (v := 0) dX4_digest_128 (by decide) ?_
        refine lc_istore_n [(3, .int (0)), (0, .ref (G.1 (0))), (1, .long ((sp_h2 sp_alike (σ.1 0) (σ.2.1 3) n)))] dX4_digest_129 (by decide) rfl ?_
        refine lc_lv (lv' := [(0, .ref (G.1 (0))), (1, .long ((sp_h2 sp_alike (σ.1 0) (σ.2.1 3) n))), (3, .int (0))]) [1, 2, 0] rfl ?_
        refine lc_forI (α := Int64) (fun i z => lc_V G Γ cX4_digest 5 RX4 130 [(0, .ref (G.1 (0))), (1, .long (z)), (3, .int (nI i))] [] (lc_w σ 0 ((σ.1 0, 0, 0, 0)))) (fun _ _ => True) (fun i h => sp_mx h (σ.2.1 9 i)) p (fun _ _ _ _ => trivial) (fun i z hi hIi ki => ?_) ((sp_h2 sp_alike (σ.1 0) (σ.2.1 3) n)) (trivial) (fun hIi => ?_)
        · skip
          show lc_V G Γ cX4_digest 5 RX4 130 [(0, .ref (G.1 (0))), (1, .long (z)), (3, .int (nI i))] [] (lc_w σ 0 ((σ.1 0, 0, 0, 0)))
          refine lc_iload_n 2 dX4_digest_130 rfl ?_
          refine lc_aload_n 0 dX4_digest_131 rfl ?_
          refine lc_g_page fl_X4_10 dX4_digest_132 ?_
          refine lc_gw_len 0 (by omega) fl_X4_30 dX4_digest_135 ?_
          refine lc_icmp_ge 161 dX4_digest_138 (by decide) (fun h => absurd h.1 (by exact (show ¬ (σ.2.1 10 0) ≤ nI i by rw [hp]; exact nI_ge (b := p) hi (by omega)))) (fun _ => ?_)
          refine lc_lload_n 1 dX4_digest_141 rfl ?_
          refine lc_aload_n 0 dX4_digest_142 rfl ?_
          refine lc_g_page fl_X4_10 dX4_digest_143 ?_
          refine lc_g_codes fl_X4_181 dX4_digest_146 ?_
          refine lc_iload_n 2 dX4_digest_149 rfl ?_
          refine lc_iald (2) i (by omega) (rfl) (rfl) (by omega) (by decide) dX4_digest_150 ?_
          refine lc_topi (σ.2.1 9 i) rfl ?_
          refine lc_callS (c_X4_mix l G (lc_w σ 0 ((σ.1 0, 0, 0, 0))) z (σ.2.1 9 i)) hR.2.2.2.1 hR.2.2.2.2 mt_X4_mix ml_X4_178 rfl rfl (Nat.le_of_ble_eq_true rfl) ⟨⟨rfl, rfl⟩, Nat.le_of_ble_eq_true rfl, Nat.le_of_ble_eq_true rfl⟩ dX4_digest_151 ?_
          show lc_V _ _ _ _ _ 154 _ [.long (sp_mx z (σ.2.1 9 i))] (lc_w σ 0 ((σ.1 0, 0, 0, 0)))
          refine lc_lstore_n [(1, .long (sp_mx z (σ.2.1 9 i))), (0, .ref (G.1 (0))), (3, .int (nI i))] dX4_digest_154 (by decide) rfl ?_
          refine lc_iinc 2 (nI (i + 1)) [(3, .int (nI (i + 1))), (1, .long (sp_mx z (σ.2.1 9 i))), (0, .ref (G.1 (0)))] dX4_digest_155 rfl (lc_inc1 i) (by decide) rfl ?_
          refine lc_goto 130 dX4_digest_158 (by decide) ?_
          refine lc_lv (lv' := [(0, .ref (G.1 (0))), (1, .long (sp_mx z (σ.2.1 9 i))), (3, .int (nI (i + 1)))]) [2, 1, 0] rfl ?_
          rw [show sp_mx z (σ.2.1 9 i) = sp_mx z (σ.2.1 9 i) from rfl] at ki
          exact ki
        · skip
          show lc_V G Γ cX4_digest 5 RX4 130 [(0, .ref (G.1 (0))), (1, .long ((sp_it (fun i h => sp_mx h (σ.2.1 9 i)) p ((sp_h2 sp_alike (σ.1 0) (σ.2.1 3) n))))), (3, .int (nI p))] [] (lc_w σ 0 ((σ.1 0, 0, 0, 0)))
          refine lc_iload_n 2 dX4_digest_130 rfl ?_
          refine lc_aload_n 0 dX4_digest_131 rfl ?_
          refine lc_g_page fl_X4_10 dX4_digest_132 ?_
          refine lc_gw_len 0 (by omega) fl_X4_30 dX4_digest_135 ?_
          refine lc_icmp_ge 161 dX4_digest_138 (by decide) (fun _ => ?_) (fun h => absurd h.1 (by exact (show ¬ nI p < (σ.2.1 10 0) by rw [hp]; exact nI_nlt (a := p) (b := p) (Nat.le_refl _) (by omega))))
          refine lc_iconst (v := 0) dX4_digest_161 (by decide) ?_
          refine lc_istore_n [(3, .int (0)), (0, .ref (G.1 (0))), (1, .long ((sp_it (fun i h => sp_mx h (σ.2.1 9 i)) p ((sp_h2 sp_alike (σ.1 0) (σ.2.1 3) n)))))] dX4_digest_162 (by decide) rfl ?_
          refine lc_lv (lv' := [(0, .ref (G.1 (0))), (1, .long ((sp_it (fun i h => sp_mx h (σ.2.1 9 i)) p ((sp_h2 sp_alike (σ.1 0) (σ.2.1 3) n))))), (3, .int (0))]) [1, 2, 0] rfl ?_
          refine lc_forI (α := Int64) (fun w z => lc_V G Γ cX4_digest 5 RX4 163 [(0, .ref (G.1 (0))), (1, .long (z)), (3, .int (nI w))] [] (lc_w σ 0 ((σ.1 0, 0, 0, 0)))) (fun _ _ => True) (fun w h => sp_mx h (sp_cntv σ ((σ.1 0, 0, 0, 0)) 0 10 w)) 12 (fun _ _ _ _ => trivial) (fun w z hw hIw kw => ?_) ((sp_it (fun i h => sp_mx h (σ.2.1 9 i)) p ((sp_h2 sp_alike (σ.1 0) (σ.2.1 3) n)))) (trivial) (fun hIw => ?_)
          · skip
            show lc_V G Γ cX4_digest 5 RX4 163 [(0, .ref (G.1 (0))), (1, .long (z)), (3, .int (nI w))] [] (lc_w σ 0 ((σ.1 0, 0, 0, 0)))
            refine lc_iload_n 2 dX4_digest_163 rfl ?_
            refine lc_bipush (v := 12) dX4_digest_164 (by decide) ?_
            refine lc_icmp_ge 185 dX4_digest_166 (by decide) (fun h => absurd h.1 (by exact nI_ge (b := 12) hw (by omega))) (fun _ => ?_)
            refine lc_lload_n 1 dX4_digest_169 rfl ?_
            refine lc_aload_n 0 dX4_digest_170 rfl ?_
            refine lc_iload_n 2 dX4_digest_171 rfl ?_
            refine lc_callV (0) (c_X4_count l G σ ((σ.1 0, 0, 0, 0)) n hn hs (nI w)) hR.2.2.2.1 hR.2.2.2.2 mt_X4_count (by omega) (rfl) rfl ml_X4_184 rfl rfl (Nat.le_of_ble_eq_true rfl) ⟨⟨rfl, rfl⟩, Nat.le_of_ble_eq_true rfl, Nat.le_of_ble_eq_true rfl⟩ dX4_digest_172 ?_
            show lc_V _ _ _ _ _ 175 _ [.int (sp_count σ ((σ.1 0, 0, 0, 0)) 0 10 (nI w)), .long (z)] (lc_w σ 0 ((σ.1 0, 0, 0, 0)))
            refine lc_topi (sp_cntv σ ((σ.1 0, 0, 0, 0)) 0 10 w) (sp_count_in hw) ?_
            refine lc_callS (c_X4_mix l G (lc_w σ 0 ((σ.1 0, 0, 0, 0))) z (sp_cntv σ ((σ.1 0, 0, 0, 0)) 0 10 w)) hR.2.2.2.1 hR.2.2.2.2 mt_X4_mix ml_X4_178 rfl rfl (Nat.le_of_ble_eq_true rfl) ⟨⟨rfl, rfl⟩, Nat.le_of_ble_eq_true rfl, Nat.le_of_ble_eq_true rfl⟩ dX4_digest_175 ?_
            show lc_V _ _ _ _ _ 178 _ [.long (sp_mx z (sp_cntv σ ((σ.1 0, 0, 0, 0)) 0 10 w))] (lc_w σ 0 ((σ.1 0, 0, 0, 0)))
            refine lc_lstore_n [(1, .long (sp_mx z (sp_cntv σ ((σ.1 0, 0, 0, 0)) 0 10 w))), (0, .ref (G.1 (0))), (3, .int (nI w))] dX4_digest_178 (by decide) rfl ?_
            refine lc_iinc 2 (nI (w + 1)) [(3, .int (nI (w + 1))), (1, .long (sp_mx z (sp_cntv σ ((σ.1 0, 0, 0, 0)) 0 10 w))), (0, .ref (G.1 (0)))] dX4_digest_179 rfl (lc_inc1 w) (by decide) rfl ?_
            refine lc_goto 163 dX4_digest_182 (by decide) ?_
            refine lc_lv (lv' := [(0, .ref (G.1 (0))), (1, .long (sp_mx z (sp_cntv σ ((σ.1 0, 0, 0, 0)) 0 10 w))), (3, .int (nI (w + 1)))]) [2, 1, 0] rfl ?_
            rw [show sp_mx z (sp_cntv σ ((σ.1 0, 0, 0, 0)) 0 10 w) = sp_mx z (sp_cntv σ ((σ.1 0, 0, 0, 0)) 0 10 w) from rfl] at kw
            exact kw
          · skip
            show lc_V G Γ cX4_digest 5 RX4 163 [(0, .ref (G.1 (0))), (1, .long ((sp_it (fun w h => sp_mx h (sp_cntv σ ((σ.1 0, 0, 0, 0)) 0 10 w)) 12 ((sp_it (fun i h => sp_mx h (σ.2.1 9 i)) p ((sp_h2 sp_alike (σ.1 0) (σ.2.1 3) n))))))), (3, .int (nI 12))] [] (lc_w σ 0 ((σ.1 0, 0, 0, 0)))
            refine lc_iload_n 2 dX4_digest_163 rfl ?_
            refine lc_bipush (v := 12) dX4_digest_164 (by decide) ?_
            refine lc_icmp_ge 185 dX4_digest_166 (by decide) (fun _ => ?_) (fun h => absurd h.1 (by exact nI_nlt (a := 12) (b := 12) (Nat.le_refl _) (by omega)))
            refine lc_eq (σ' := σ) (lc_w_w σ 0) ?_
            refine lc_lload_n 1 dX4_digest_185 rfl ?_
            exact lc_lret hR dX4_digest_186 (by rw [sp_digC, if_pos h0]; rfl) (by rw [sp_digC, if_pos h0])
      · skip
        refine lc_aload_n 1 dX4_digest_60 rfl ?_
        refine lc_g_world fl_X4_19 dX4_digest_61 ?_
        refine lc_gWSites 0 (by omega) fl_X4_53 dX4_digest_64 ?_
        refine lc_topi (σ.1 0 7 0) (rfl) ?_
        refine lc_if_le 128 dX4_digest_67 (by decide) (fun h => absurd h.1 (by rw [hs]; exact nI_nle (by omega) (by omega))) (fun _ => ?_)
        refine lc_eq (σ' := σ) (lc_w_w σ 0) ?_
        refine lc_aload_n 1 dX4_digest_70 rfl ?_
        refine lc_g_settling fl_X4_26 dX4_digest_71 ?_
        refine lc_aload_n 1 dX4_digest_74 rfl ?_
        refine lc_g_world fl_X4_19 dX4_digest_75 ?_
        refine lc_bipush (v := 7) dX4_digest_78 (by decide) ?_
        refine lc_iload_n 0 dX4_digest_80 rfl ?_
        refine lc_iconst (v := 1) dX4_digest_81 (by decide) ?_
        refine lc_icmp_ne 89 dX4_digest_82 (by decide) (fun _ => ?_) (fun h => absurd h (by decide))
        refine lc_iconst (v := 0) dX4_digest_89 (by decide) ?_
        refine lc_topi (lc_bi false) rfl ?_
        refine lc_callV (3) (c_X2_run l G σ n 7 false hn hs) hR.2.2.2.1 hR.2.2.2.2 mt_X2_run (by omega) (rfl) rfl ml_X4_153 rfl rfl (Nat.le_of_ble_eq_true rfl) ⟨⟨rfl, rfl⟩, Nat.le_of_ble_eq_true rfl, Nat.le_of_ble_eq_true rfl⟩ dX4_digest_90 ?_
        show lc_V _ _ _ _ _ 93 _ [] (lc_w ((lc_uo (lc_uo (sp_trial σ) 10 3 (sp_RUN σ n 7 false).2.1) 10 2 (sp_RUN σ n 7 false).1)) 1 ((sp_RUN σ n 7 false).2.2))
        refine lc_iconst (v := 0) dX4_digest_93 (by decide) ?_
        refine lc_istore [(4, .int (0)), (3, .int (0)), (0, .ref (G.1 (0))), (1, .long ((sp_h2 sp_alike (σ.1 0) (σ.2.1 3) n)))] dX4_digest_94 (by decide) rfl ?_
        refine lc_iload 0 dX4_digest_96 rfl ?_
        refine lc_iconst (v := 2) dX4_digest_98 (by decide) ?_
        refine lc_icmp_gt 122 dX4_digest_99 (by decide) (fun h => absurd h (by decide)) (fun _ => ?_)
        refine lc_lload_n 3 dX4_digest_102 rfl ?_
        refine lc_aload_n 2 dX4_digest_103 rfl ?_
        refine lc_g_settling fl_X4_26 dX4_digest_104 ?_
        refine lc_iload 0 dX4_digest_107 rfl ?_
        refine lc_callV (3) (c_X2_outcome l G ((lc_uo (lc_uo (sp_trial σ) 10 3 (sp_RUN σ n 7 false).2.1) 10 2 (sp_RUN σ n 7 false).1)) ((sp_RUN σ n 7 false).2.2) 0) hR.2.2.2.1 hR.2.2.2.2 mt_X2_outcome (by omega) (rfl) rfl ml_X4_157 rfl rfl (Nat.le_of_ble_eq_true rfl) ⟨⟨rfl, rfl⟩, Nat.le_of_ble_eq_true rfl, Nat.le_of_ble_eq_true rfl⟩ dX4_digest_109 ?_
        show lc_V _ _ _ _ _ 112 _ [.int (if 0 = 0 then ((lc_uo (lc_uo (sp_trial σ) 10 3 (sp_RUN σ n 7 false).2.1) 10 2 (sp_RUN σ n 7 false).1)).2.1 10 2 else if 0 = 1 then ((lc_uo (lc_uo (sp_trial σ) 10 3 (sp_RUN σ n 7 false).2.1) 10 2 (sp_RUN σ n 7 false).1)).2.1 1 0 + ((sp_RUN σ n 7 false).2.2).2.1 else ((lc_uo (lc_uo (sp_trial σ) 10 3 (sp_RUN σ n 7 false).2.1) 10 2 (sp_RUN σ n 7 false).1)).2.1 10 3), .long ((sp_h2 sp_alike (σ.1 0) (σ.2.1 3) n))] (lc_w ((lc_uo (lc_uo (sp_trial σ) 10 3 (sp_RUN σ n 7 false).2.1) 10 2 (sp_RUN σ n 7 false).1)) 1 ((sp_RUN σ n 7 false).2.2))
        refine lc_topi ((sp_RUN σ n 7 false).1) (rfl) ?_
        refine lc_callS (c_X4_mix l G (lc_w ((lc_uo (lc_uo (sp_trial σ) 10 3 (sp_RUN σ n 7 false).2.1) 10 2 (sp_RUN σ n 7 false).1)) 1 ((sp_RUN σ n 7 false).2.2)) ((sp_h2 sp_alike (σ.1 0) (σ.2.1 3) n)) ((sp_RUN σ n 7 false).1)) hR.2.2.2.1 hR.2.2.2.2 mt_X4_mix ml_X4_178 rfl rfl (Nat.le_of_ble_eq_true rfl) ⟨⟨rfl, rfl⟩, Nat.le_of_ble_eq_true rfl, Nat.le_of_ble_eq_true rfl⟩ dX4_digest_112 ?_
        show lc_V _ _ _ _ _ 115 _ [.long (sp_mx ((sp_h2 sp_alike (σ.1 0) (σ.2.1 3) n)) ((sp_RUN σ n 7 false).1))] (lc_w ((lc_uo (lc_uo (sp_trial σ) 10 3 (sp_RUN σ n 7 false).2.1) 10 2 (sp_RUN σ n 7 false).1)) 1 ((sp_RUN σ n 7 false).2.2))
        refine lc_lstore_n [(1, .long (sp_mx ((sp_h2 sp_alike (σ.1 0) (σ.2.1 3) n)) ((sp_RUN σ n 7 false).1))), (4, .int (0)), (3, .int (0)), (0, .ref (G.1 (0)))] dX4_digest_115 (by decide) rfl ?_
        refine lc_iinc 1 (1) [(4, .int (1)), (1, .long (sp_mx ((sp_h2 sp_alike (σ.1 0) (σ.2.1 3) n)) ((sp_RUN σ n 7 false).1))), (3, .int (0)), (0, .ref (G.1 (0)))] dX4_digest_116 rfl (by decide) (by decide) rfl ?_
        refine lc_goto 96 dX4_digest_119 (by decide) ?_
        refine lc_iload 0 dX4_digest_96 rfl ?_
        refine lc_iconst (v := 2) dX4_digest_98 (by decide) ?_
        refine lc_icmp_gt 122 dX4_digest_99 (by decide) (fun h => absurd h (by decide)) (fun _ => ?_)
        refine lc_lload_n 1 dX4_digest_102 rfl ?_
        refine lc_aload_n 3 dX4_digest_103 rfl ?_
        refine lc_g_settling fl_X4_26 dX4_digest_104 ?_
        refine lc_iload 0 dX4_digest_107 rfl ?_
        refine lc_callV (3) (c_X2_outcome l G ((lc_uo (lc_uo (sp_trial σ) 10 3 (sp_RUN σ n 7 false).2.1) 10 2 (sp_RUN σ n 7 false).1)) ((sp_RUN σ n 7 false).2.2) 1) hR.2.2.2.1 hR.2.2.2.2 mt_X2_outcome (by omega) (rfl) rfl ml_X4_157 rfl rfl (Nat.le_of_ble_eq_true rfl) ⟨⟨rfl, rfl⟩, Nat.le_of_ble_eq_true rfl, Nat.le_of_ble_eq_true rfl⟩ dX4_digest_109 ?_
        show lc_V _ _ _ _ _ 112 _ [.int (if 1 = 0 then ((lc_uo (lc_uo (sp_trial σ) 10 3 (sp_RUN σ n 7 false).2.1) 10 2 (sp_RUN σ n 7 false).1)).2.1 10 2 else if 1 = 1 then ((lc_uo (lc_uo (sp_trial σ) 10 3 (sp_RUN σ n 7 false).2.1) 10 2 (sp_RUN σ n 7 false).1)).2.1 1 0 + ((sp_RUN σ n 7 false).2.2).2.1 else ((lc_uo (lc_uo (sp_trial σ) 10 3 (sp_RUN σ n 7 false).2.1) 10 2 (sp_RUN σ n 7 false).1)).2.1 10 3), .long (sp_mx ((sp_h2 sp_alike (σ.1 0) (σ.2.1 3) n)) ((sp_RUN σ n 7 false).1))] (lc_w ((lc_uo (lc_uo (sp_trial σ) 10 3 (sp_RUN σ n 7 false).2.1) 10 2 (sp_RUN σ n 7 false).1)) 1 ((sp_RUN σ n 7 false).2.2))
        refine lc_topi ((sp_RUN σ n 7 false).2.2.2.1) (by show 0 + (sp_RUN σ n 7 false).2.2.2.1 = _; rw [Int32.zero_add]) ?_
        refine lc_callS (c_X4_mix l G (lc_w ((lc_uo (lc_uo (sp_trial σ) 10 3 (sp_RUN σ n 7 false).2.1) 10 2 (sp_RUN σ n 7 false).1)) 1 ((sp_RUN σ n 7 false).2.2)) (sp_mx ((sp_h2 sp_alike (σ.1 0) (σ.2.1 3) n)) ((sp_RUN σ n 7 false).1)) ((sp_RUN σ n 7 false).2.2.2.1)) hR.2.2.2.1 hR.2.2.2.2 mt_X4_mix ml_X4_178 rfl rfl (Nat.le_of_ble_eq_true rfl) ⟨⟨rfl, rfl⟩, Nat.le_of_ble_eq_true rfl, Nat.le_of_ble_eq_true rfl⟩ dX4_digest_112 ?_
        show lc_V _ _ _ _ _ 115 _ [.long (sp_mx (sp_mx ((sp_h2 sp_alike (σ.1 0) (σ.2.1 3) n)) ((sp_RUN σ n 7 false).1)) ((sp_RUN σ n 7 false).2.2.2.1))] (lc_w ((lc_uo (lc_uo (sp_trial σ) 10 3 (sp_RUN σ n 7 false).2.1) 10 2 (sp_RUN σ n 7 false).1)) 1 ((sp_RUN σ n 7 false).2.2))
        refine lc_lstore_n [(1, .long (sp_mx (sp_mx ((sp_h2 sp_alike (σ.1 0) (σ.2.1 3) n)) ((sp_RUN σ n 7 false).1)) ((sp_RUN σ n 7 false).2.2.2.1))), (4, .int (1)), (3, .int (0)), (0, .ref (G.1 (0)))] dX4_digest_115 (by decide) rfl ?_
        refine lc_iinc 1 (2) [(4, .int (2)), (1, .long (sp_mx (sp_mx ((sp_h2 sp_alike (σ.1 0) (σ.2.1 3) n)) ((sp_RUN σ n 7 false).1)) ((sp_RUN σ n 7 false).2.2.2.1))), (3, .int (0)), (0, .ref (G.1 (0)))] dX4_digest_116 rfl (by decide) (by decide) rfl ?_
        refine lc_goto 96 dX4_digest_119 (by decide) ?_
        refine lc_iload 0 dX4_digest_96 rfl ?_
        refine lc_iconst (v := 2) dX4_digest_98 (by decide) ?_
        refine lc_icmp_gt 122 dX4_digest_99 (by decide) (fun h => absurd h (by decide)) (fun _ => ?_)
        refine lc_lload_n 1 dX4_digest_102 rfl ?_
        refine lc_aload_n 3 dX4_digest_103 rfl ?_
        refine lc_g_settling fl_X4_26 dX4_digest_104 ?_
        refine lc_iload 0 dX4_digest_107 rfl ?_
        refine lc_callV (3) (c_X2_outcome l G ((lc_uo (lc_uo (sp_trial σ) 10 3 (sp_RUN σ n 7 false).2.1) 10 2 (sp_RUN σ n 7 false).1)) ((sp_RUN σ n 7 false).2.2) 2) hR.2.2.2.1 hR.2.2.2.2 mt_X2_outcome (by omega) (rfl) rfl ml_X4_157 rfl rfl (Nat.le_of_ble_eq_true rfl) ⟨⟨rfl, rfl⟩, Nat.le_of_ble_eq_true rfl, Nat.le_of_ble_eq_true rfl⟩ dX4_digest_109 ?_
        show lc_V _ _ _ _ _ 112 _ [.int (if 2 = 0 then ((lc_uo (lc_uo (sp_trial σ) 10 3 (sp_RUN σ n 7 false).2.1) 10 2 (sp_RUN σ n 7 false).1)).2.1 10 2 else if 2 = 1 then ((lc_uo (lc_uo (sp_trial σ) 10 3 (sp_RUN σ n 7 false).2.1) 10 2 (sp_RUN σ n 7 false).1)).2.1 1 0 + ((sp_RUN σ n 7 false).2.2).2.1 else ((lc_uo (lc_uo (sp_trial σ) 10 3 (sp_RUN σ n 7 false).2.1) 10 2 (sp_RUN σ n 7 false).1)).2.1 10 3), .long (sp_mx (sp_mx ((sp_h2 sp_alike (σ.1 0) (σ.2.1 3) n)) ((sp_RUN σ n 7 false).1)) ((sp_RUN σ n 7 false).2.2.2.1))] (lc_w ((lc_uo (lc_uo (sp_trial σ) 10 3 (sp_RUN σ n 7 false).2.1) 10 2 (sp_RUN σ n 7 false).1)) 1 ((sp_RUN σ n 7 false).2.2))
        refine lc_topi ((sp_RUN σ n 7 false).2.1) (rfl) ?_
        refine lc_callS (c_X4_mix l G (lc_w ((lc_uo (lc_uo (sp_trial σ) 10 3 (sp_RUN σ n 7 false).2.1) 10 2 (sp_RUN σ n 7 false).1)) 1 ((sp_RUN σ n 7 false).2.2)) (sp_mx (sp_mx ((sp_h2 sp_alike (σ.1 0) (σ.2.1 3) n)) ((sp_RUN σ n 7 false).1)) ((sp_RUN σ n 7 false).2.2.2.1)) ((sp_RUN σ n 7 false).2.1)) hR.2.2.2.1 hR.2.2.2.2 mt_X4_mix ml_X4_178 rfl rfl (Nat.le_of_ble_eq_true rfl) ⟨⟨rfl, rfl⟩, Nat.le_of_ble_eq_true rfl, Nat.le_of_ble_eq_true rfl⟩ dX4_digest_112 ?_
        show lc_V _ _ _ _ _ 115 _ [.long (sp_mx (sp_mx (sp_mx ((sp_h2 sp_alike (σ.1 0) (σ.2.1 3) n)) ((sp_RUN σ n 7 false).1)) ((sp_RUN σ n 7 false).2.2.2.1)) ((sp_RUN σ n 7 false).2.1))] (lc_w ((lc_uo (lc_uo (sp_trial σ) 10 3 (sp_RUN σ n 7 false).2.1) 10 2 (sp_RUN σ n 7 false).1)) 1 ((sp_RUN σ n 7 false).2.2))
        refine lc_lstore_n [(1, .long (sp_mx (sp_mx (sp_mx ((sp_h2 sp_alike (σ.1 0) (σ.2.1 3) n)) ((sp_RUN σ n 7 false).1)) ((sp_RUN σ n 7 false).2.2.2.1)) ((sp_RUN σ n 7 false).2.1))), (4, .int (2)), (3, .int (0)), (0, .ref (G.1 (0)))] dX4_digest_115 (by decide) rfl ?_
        refine lc_iinc 1 (3) [(4, .int (3)), (1, .long (sp_mx (sp_mx (sp_mx ((sp_h2 sp_alike (σ.1 0) (σ.2.1 3) n)) ((sp_RUN σ n 7 false).1)) ((sp_RUN σ n 7 false).2.2.2.1)) ((sp_RUN σ n 7 false).2.1))), (3, .int (0)), (0, .ref (G.1 (0)))] dX4_digest_116 rfl (by decide) (by decide) rfl ?_
        refine lc_goto 96 dX4_digest_119 (by decide) ?_
        refine lc_iload 0 dX4_digest_96 rfl ?_
        refine lc_iconst (v := 2) dX4_digest_98 (by decide) ?_
        refine lc_icmp_gt 122 dX4_digest_99 (by decide) (fun _ => ?_) (fun h => absurd h (by decide))
        refine lc_eq (σ' := lc_w (sp_stl σ n 7 false) 0 ((sp_stl σ n 7 false).1 0, 0, 0, 0)) ((lc_w_w (sp_stl σ n 7 false) 0).symm) ?_
        refine lc_iinc 2 (1) [(3, .int (1)), (4, .int (3)), (1, .long (sp_mx (sp_mx (sp_mx ((sp_h2 sp_alike (σ.1 0) (σ.2.1 3) n)) ((sp_RUN σ n 7 false).1)) ((sp_RUN σ n 7 false).2.2.2.1)) ((sp_RUN σ n 7 false).2.1))), (0, .ref (G.1 (0)))] dX4_digest_122 rfl (by decide) (by decide) rfl ?_
        refine lc_goto 55 dX4_digest_125 (by decide) ?_
        refine lc_iload_n 0 dX4_digest_55 rfl ?_
        refine lc_iconst (v := 2) dX4_digest_56 (by decide) ?_
        refine lc_icmp_ge 128 dX4_digest_57 (by decide) (fun h => absurd h (by decide)) (fun _ => ?_)
        refine lc_aload_n 3 dX4_digest_60 rfl ?_
        refine lc_g_world fl_X4_19 dX4_digest_61 ?_
        refine lc_gWSites 0 (by omega) fl_X4_53 dX4_digest_64 ?_
        refine lc_topi (σ.1 0 7 0) (rfl) ?_
        refine lc_if_le 128 dX4_digest_67 (by decide) (fun h => absurd h.1 (by rw [hs]; exact nI_nle (by omega) (by omega))) (fun _ => ?_)
        refine lc_eq (σ' := (sp_stl σ n 7 false)) (lc_w_w (sp_stl σ n 7 false) 0) ?_
        refine lc_aload_n 3 dX4_digest_70 rfl ?_
        refine lc_g_settling fl_X4_26 dX4_digest_71 ?_
        refine lc_aload_n 3 dX4_digest_74 rfl ?_
        refine lc_g_world fl_X4_19 dX4_digest_75 ?_
        refine lc_bipush (v := 7) dX4_digest_78 (by decide) ?_
        refine lc_iload_n 0 dX4_digest_80 rfl ?_
        refine lc_iconst (v := 1) dX4_digest_81 (by decide) ?_
        refine lc_icmp_ne 89 dX4_digest_82 (by decide) (fun h => absurd h (by decide)) (fun _ => ?_)
        refine lc_iconst (v := 1) dX4_digest_85 (by decide) ?_
        refine lc_goto 90 dX4_digest_86 (by decide) ?_
        refine lc_topi (lc_bi true) rfl ?_
        refine lc_callV (3) (c_X2_run l G ((sp_stl σ n 7 false)) n 7 true hn hs) hR.2.2.2.1 hR.2.2.2.2 mt_X2_run (by omega) (rfl) rfl ml_X4_153 rfl rfl (Nat.le_of_ble_eq_true rfl) ⟨⟨rfl, rfl⟩, Nat.le_of_ble_eq_true rfl, Nat.le_of_ble_eq_true rfl⟩ dX4_digest_90 ?_
        show lc_V _ _ _ _ _ 93 _ [] (lc_w ((lc_uo (lc_uo (sp_trial ((sp_stl σ n 7 false))) 10 3 (sp_RUN ((sp_stl σ n 7 false)) n 7 true).2.1) 10 2 (sp_RUN ((sp_stl σ n 7 false)) n 7 true).1)) 1 ((sp_RUN ((sp_stl σ n 7 false)) n 7 true).2.2))
        refine lc_iconst (v := 0) dX4_digest_93 (by decide) ?_
        refine lc_istore [(4, .int (0)), (3, .int (1)), (1, .long (sp_mx (sp_mx (sp_mx ((sp_h2 sp_alike (σ.1 0) (σ.2.1 3) n)) ((sp_RUN σ n 7 false).1)) ((sp_RUN σ n 7 false).2.2.2.1)) ((sp_RUN σ n 7 false).2.1))), (0, .ref (G.1 (0)))] dX4_digest_94 (by decide) rfl ?_
        refine lc_iload 0 dX4_digest_96 rfl ?_
        refine lc_iconst (v := 2) dX4_digest_98 (by decide) ?_
        refine lc_icmp_gt 122 dX4_digest_99 (by decide) (fun h => absurd h (by decide)) (fun _ => ?_)
        refine lc_lload_n 2 dX4_digest_102 rfl ?_
        refine lc_aload_n 3 dX4_digest_103 rfl ?_
        refine lc_g_settling fl_X4_26 dX4_digest_104 ?_
        refine lc_iload 0 dX4_digest_107 rfl ?_
        refine lc_callV (3) (c_X2_outcome l G ((lc_uo (lc_uo (sp_trial ((sp_stl σ n 7 false))) 10 3 (sp_RUN ((sp_stl σ n 7 false)) n 7 true).2.1) 10 2 (sp_RUN ((sp_stl σ n 7 false)) n 7 true).1)) ((sp_RUN ((sp_stl σ n 7 false)) n 7 true).2.2) 0) hR.2.2.2.1 hR.2.2.2.2 mt_X2_outcome (by omega) (rfl) rfl ml_X4_157 rfl rfl (Nat.le_of_ble_eq_true rfl) ⟨⟨rfl, rfl⟩, Nat.le_of_ble_eq_true rfl, Nat.le_of_ble_eq_true rfl⟩ dX4_digest_109 ?_
        show lc_V _ _ _ _ _ 112 _ [.int (if 0 = 0 then ((lc_uo (lc_uo (sp_trial ((sp_stl σ n 7 false))) 10 3 (sp_RUN ((sp_stl σ n 7 false)) n 7 true).2.1) 10 2 (sp_RUN ((sp_stl σ n 7 false)) n 7 true).1)).2.1 10 2 else if 0 = 1 then ((lc_uo (lc_uo (sp_trial ((sp_stl σ n 7 false))) 10 3 (sp_RUN ((sp_stl σ n 7 false)) n 7 true).2.1) 10 2 (sp_RUN ((sp_stl σ n 7 false)) n 7 true).1)).2.1 1 0 + ((sp_RUN ((sp_stl σ n 7 false)) n 7 true).2.2).2.1 else ((lc_uo (lc_uo (sp_trial ((sp_stl σ n 7 false))) 10 3 (sp_RUN ((sp_stl σ n 7 false)) n 7 true).2.1) 10 2 (sp_RUN ((sp_stl σ n 7 false)) n 7 true).1)).2.1 10 3), .long (sp_mx (sp_mx (sp_mx ((sp_h2 sp_alike (σ.1 0) (σ.2.1 3) n)) ((sp_RUN σ n 7 false).1)) ((sp_RUN σ n 7 false).2.2.2.1)) ((sp_RUN σ n 7 false).2.1))] (lc_w ((lc_uo (lc_uo (sp_trial ((sp_stl σ n 7 false))) 10 3 (sp_RUN ((sp_stl σ n 7 false)) n 7 true).2.1) 10 2 (sp_RUN ((sp_stl σ n 7 false)) n 7 true).1)) 1 ((sp_RUN ((sp_stl σ n 7 false)) n 7 true).2.2))
        refine lc_topi ((sp_RUN σ n 7 true).1) (rfl) ?_
        refine lc_callS (c_X4_mix l G (lc_w ((lc_uo (lc_uo (sp_trial ((sp_stl σ n 7 false))) 10 3 (sp_RUN ((sp_stl σ n 7 false)) n 7 true).2.1) 10 2 (sp_RUN ((sp_stl σ n 7 false)) n 7 true).1)) 1 ((sp_RUN ((sp_stl σ n 7 false)) n 7 true).2.2)) (sp_mx (sp_mx (sp_mx ((sp_h2 sp_alike (σ.1 0) (σ.2.1 3) n)) ((sp_RUN σ n 7 false).1)) ((sp_RUN σ n 7 false).2.2.2.1)) ((sp_RUN σ n 7 false).2.1)) ((sp_RUN σ n 7 true).1)) hR.2.2.2.1 hR.2.2.2.2 mt_X4_mix ml_X4_178 rfl rfl (Nat.le_of_ble_eq_true rfl) ⟨⟨rfl, rfl⟩, Nat.le_of_ble_eq_true rfl, Nat.le_of_ble_eq_true rfl⟩ dX4_digest_112 ?_
        show lc_V _ _ _ _ _ 115 _ [.long (sp_mx (sp_mx (sp_mx (sp_mx ((sp_h2 sp_alike (σ.1 0) (σ.2.1 3) n)) ((sp_RUN σ n 7 false).1)) ((sp_RUN σ n 7 false).2.2.2.1)) ((sp_RUN σ n 7 false).2.1)) ((sp_RUN σ n 7 true).1))] (lc_w ((lc_uo (lc_uo (sp_trial ((sp_stl σ n 7 false))) 10 3 (sp_RUN ((sp_stl σ n 7 false)) n 7 true).2.1) 10 2 (sp_RUN ((sp_stl σ n 7 false)) n 7 true).1)) 1 ((sp_RUN ((sp_stl σ n 7 false)) n 7 true).2.2))
        refine lc_lstore_n [(1, .long (sp_mx (sp_mx (sp_mx (sp_mx ((sp_h2 sp_alike (σ.1 0) (σ.2.1 3) n)) ((sp_RUN σ n 7 false).1)) ((sp_RUN σ n 7 false).2.2.2.1)) ((sp_RUN σ n 7 false).2.1)) ((sp_RUN σ n 7 true).1))), (4, .int (0)), (3, .int (1)), (0, .ref (G.1 (0)))] dX4_digest_115 (by decide) rfl ?_
        refine lc_iinc 1 (1) [(4, .int (1)), (1, .long (sp_mx (sp_mx (sp_mx (sp_mx ((sp_h2 sp_alike (σ.1 0) (σ.2.1 3) n)) ((sp_RUN σ n 7 false).1)) ((sp_RUN σ n 7 false).2.2.2.1)) ((sp_RUN σ n 7 false).2.1)) ((sp_RUN σ n 7 true).1))), (3, .int (1)), (0, .ref (G.1 (0)))] dX4_digest_116 rfl (by decide) (by decide) rfl ?_
        refine lc_goto 96 dX4_digest_119 (by decide) ?_
        refine lc_iload 0 dX4_digest_96 rfl ?_
        refine lc_iconst (v := 2) dX4_digest_98 (by decide) ?_
        refine lc_icmp_gt 122 dX4_digest_99 (by decide) (fun h => absurd h (by decide)) (fun _ => ?_)
        refine lc_lload_n 1 dX4_digest_102 rfl ?_
        refine lc_aload_n 3 dX4_digest_103 rfl ?_
        refine lc_g_settling fl_X4_26 dX4_digest_104 ?_
        refine lc_iload 0 dX4_digest_107 rfl ?_
        refine lc_callV (3) (c_X2_outcome l G ((lc_uo (lc_uo (sp_trial ((sp_stl σ n 7 false))) 10 3 (sp_RUN ((sp_stl σ n 7 false)) n 7 true).2.1) 10 2 (sp_RUN ((sp_stl σ n 7 false)) n 7 true).1)) ((sp_RUN ((sp_stl σ n 7 false)) n 7 true).2.2) 1) hR.2.2.2.1 hR.2.2.2.2 mt_X2_outcome (by omega) (rfl) rfl ml_X4_157 rfl rfl (Nat.le_of_ble_eq_true rfl) ⟨⟨rfl, rfl⟩, Nat.le_of_ble_eq_true rfl, Nat.le_of_ble_eq_true rfl⟩ dX4_digest_109 ?_
        show lc_V _ _ _ _ _ 112 _ [.int (if 1 = 0 then ((lc_uo (lc_uo (sp_trial ((sp_stl σ n 7 false))) 10 3 (sp_RUN ((sp_stl σ n 7 false)) n 7 true).2.1) 10 2 (sp_RUN ((sp_stl σ n 7 false)) n 7 true).1)).2.1 10 2 else if 1 = 1 then ((lc_uo (lc_uo (sp_trial ((sp_stl σ n 7 false))) 10 3 (sp_RUN ((sp_stl σ n 7 false)) n 7 true).2.1) 10 2 (sp_RUN ((sp_stl σ n 7 false)) n 7 true).1)).2.1 1 0 + ((sp_RUN ((sp_stl σ n 7 false)) n 7 true).2.2).2.1 else ((lc_uo (lc_uo (sp_trial ((sp_stl σ n 7 false))) 10 3 (sp_RUN ((sp_stl σ n 7 false)) n 7 true).2.1) 10 2 (sp_RUN ((sp_stl σ n 7 false)) n 7 true).1)).2.1 10 3), .long (sp_mx (sp_mx (sp_mx (sp_mx ((sp_h2 sp_alike (σ.1 0) (σ.2.1 3) n)) ((sp_RUN σ n 7 false).1)) ((sp_RUN σ n 7 false).2.2.2.1)) ((sp_RUN σ n 7 false).2.1)) ((sp_RUN σ n 7 true).1))] (lc_w ((lc_uo (lc_uo (sp_trial ((sp_stl σ n 7 false))) 10 3 (sp_RUN ((sp_stl σ n 7 false)) n 7 true).2.1) 10 2 (sp_RUN ((sp_stl σ n 7 false)) n 7 true).1)) 1 ((sp_RUN ((sp_stl σ n 7 false)) n 7 true).2.2))
        refine lc_topi ((sp_RUN σ n 7 true).2.2.2.1) (by show 0 + (sp_RUN σ n 7 true).2.2.2.1 = _; rw [Int32.zero_add]) ?_
        refine lc_callS (c_X4_mix l G (lc_w ((lc_uo (lc_uo (sp_trial ((sp_stl σ n 7 false))) 10 3 (sp_RUN ((sp_stl σ n 7 false)) n 7 true).2.1) 10 2 (sp_RUN ((sp_stl σ n 7 false)) n 7 true).1)) 1 ((sp_RUN ((sp_stl σ n 7 false)) n 7 true).2.2)) (sp_mx (sp_mx (sp_mx (sp_mx ((sp_h2 sp_alike (σ.1 0) (σ.2.1 3) n)) ((sp_RUN σ n 7 false).1)) ((sp_RUN σ n 7 false).2.2.2.1)) ((sp_RUN σ n 7 false).2.1)) ((sp_RUN σ n 7 true).1)) ((sp_RUN σ n 7 true).2.2.2.1)) hR.2.2.2.1 hR.2.2.2.2 mt_X4_mix ml_X4_178 rfl rfl (Nat.le_of_ble_eq_true rfl) ⟨⟨rfl, rfl⟩, Nat.le_of_ble_eq_true rfl, Nat.le_of_ble_eq_true rfl⟩ dX4_digest_112 ?_
        show lc_V _ _ _ _ _ 115 _ [.long (sp_mx (sp_mx (sp_mx (sp_mx (sp_mx ((sp_h2 sp_alike (σ.1 0) (σ.2.1 3) n)) ((sp_RUN σ n 7 false).1)) ((sp_RUN σ n 7 false).2.2.2.1)) ((sp_RUN σ n 7 false).2.1)) ((sp_RUN σ n 7 true).1)) ((sp_RUN σ n 7 true).2.2.2.1))] (lc_w ((lc_uo (lc_uo (sp_trial ((sp_stl σ n 7 false))) 10 3 (sp_RUN ((sp_stl σ n 7 false)) n 7 true).2.1) 10 2 (sp_RUN ((sp_stl σ n 7 false)) n 7 true).1)) 1 ((sp_RUN ((sp_stl σ n 7 false)) n 7 true).2.2))
        refine lc_lstore_n [(1, .long (sp_mx (sp_mx (sp_mx (sp_mx (sp_mx ((sp_h2 sp_alike (σ.1 0) (σ.2.1 3) n)) ((sp_RUN σ n 7 false).1)) ((sp_RUN σ n 7 false).2.2.2.1)) ((sp_RUN σ n 7 false).2.1)) ((sp_RUN σ n 7 true).1)) ((sp_RUN σ n 7 true).2.2.2.1))), (4, .int (1)), (3, .int (1)), (0, .ref (G.1 (0)))] dX4_digest_115 (by decide) rfl ?_
        refine lc_iinc 1 (2) [(4, .int (2)), (1, .long (sp_mx (sp_mx (sp_mx (sp_mx (sp_mx ((sp_h2 sp_alike (σ.1 0) (σ.2.1 3) n)) ((sp_RUN σ n 7 false).1)) ((sp_RUN σ n 7 false).2.2.2.1)) ((sp_RUN σ n 7 false).2.1)) ((sp_RUN σ n 7 true).1)) ((sp_RUN σ n 7 true).2.2.2.1))), (3, .int (1)), (0, .ref (G.1 (0)))] dX4_digest_116 rfl (by decide) (by decide) rfl ?_
        refine lc_goto 96 dX4_digest_119 (by decide) ?_
        refine lc_iload 0 dX4_digest_96 rfl ?_
        refine lc_iconst (v := 2) dX4_digest_98 (by decide) ?_
        refine lc_icmp_gt 122 dX4_digest_99 (by decide) (fun h => absurd h (by decide)) (fun _ => ?_)
        refine lc_lload_n 1 dX4_digest_102 rfl ?_
        refine lc_aload_n 3 dX4_digest_103 rfl ?_
        refine lc_g_settling fl_X4_26 dX4_digest_104 ?_
        refine lc_iload 0 dX4_digest_107 rfl ?_
        refine lc_callV (3) (c_X2_outcome l G ((lc_uo (lc_uo (sp_trial ((sp_stl σ n 7 false))) 10 3 (sp_RUN ((sp_stl σ n 7 false)) n 7 true).2.1) 10 2 (sp_RUN ((sp_stl σ n 7 false)) n 7 true).1)) ((sp_RUN ((sp_stl σ n 7 false)) n 7 true).2.2) 2) hR.2.2.2.1 hR.2.2.2.2 mt_X2_outcome (by omega) (rfl) rfl ml_X4_157 rfl rfl (Nat.le_of_ble_eq_true rfl) ⟨⟨rfl, rfl⟩, Nat.le_of_ble_eq_true rfl, Nat.le_of_ble_eq_true rfl⟩ dX4_digest_109 ?_
        show lc_V _ _ _ _ _ 112 _ [.int (if 2 = 0 then ((lc_uo (lc_uo (sp_trial ((sp_stl σ n 7 false))) 10 3 (sp_RUN ((sp_stl σ n 7 false)) n 7 true).2.1) 10 2 (sp_RUN ((sp_stl σ n 7 false)) n 7 true).1)).2.1 10 2 else if 2 = 1 then ((lc_uo (lc_uo (sp_trial ((sp_stl σ n 7 false))) 10 3 (sp_RUN ((sp_stl σ n 7 false)) n 7 true).2.1) 10 2 (sp_RUN ((sp_stl σ n 7 false)) n 7 true).1)).2.1 1 0 + ((sp_RUN ((sp_stl σ n 7 false)) n 7 true).2.2).2.1 else ((lc_uo (lc_uo (sp_trial ((sp_stl σ n 7 false))) 10 3 (sp_RUN ((sp_stl σ n 7 false)) n 7 true).2.1) 10 2 (sp_RUN ((sp_stl σ n 7 false)) n 7 true).1)).2.1 10 3), .long (sp_mx (sp_mx (sp_mx (sp_mx (sp_mx ((sp_h2 sp_alike (σ.1 0) (σ.2.1 3) n)) ((sp_RUN σ n 7 false).1)) ((sp_RUN σ n 7 false).2.2.2.1)) ((sp_RUN σ n 7 false).2.1)) ((sp_RUN σ n 7 true).1)) ((sp_RUN σ n 7 true).2.2.2.1))] (lc_w ((lc_uo (lc_uo (sp_trial ((sp_stl σ n 7 false))) 10 3 (sp_RUN ((sp_stl σ n 7 false)) n 7 true).2.1) 10 2 (sp_RUN ((sp_stl σ n 7 false)) n 7 true).1)) 1 ((sp_RUN ((sp_stl σ n 7 false)) n 7 true).2.2))
        refine lc_topi ((sp_RUN σ n 7 true).2.1) (rfl) ?_
        refine lc_callS (c_X4_mix l G (lc_w ((lc_uo (lc_uo (sp_trial ((sp_stl σ n 7 false))) 10 3 (sp_RUN ((sp_stl σ n 7 false)) n 7 true).2.1) 10 2 (sp_RUN ((sp_stl σ n 7 false)) n 7 true).1)) 1 ((sp_RUN ((sp_stl σ n 7 false)) n 7 true).2.2)) (sp_mx (sp_mx (sp_mx (sp_mx (sp_mx ((sp_h2 sp_alike (σ.1 0) (σ.2.1 3) n)) ((sp_RUN σ n 7 false).1)) ((sp_RUN σ n 7 false).2.2.2.1)) ((sp_RUN σ n 7 false).2.1)) ((sp_RUN σ n 7 true).1)) ((sp_RUN σ n 7 true).2.2.2.1)) ((sp_RUN σ n 7 true).2.1)) hR.2.2.2.1 hR.2.2.2.2 mt_X4_mix ml_X4_178 rfl rfl (Nat.le_of_ble_eq_true rfl) ⟨⟨rfl, rfl⟩, Nat.le_of_ble_eq_true rfl, Nat.le_of_ble_eq_true rfl⟩ dX4_digest_112 ?_
        show lc_V _ _ _ _ _ 115 _ [.long (sp_mx (sp_mx (sp_mx (sp_mx (sp_mx (sp_mx ((sp_h2 sp_alike (σ.1 0) (σ.2.1 3) n)) ((sp_RUN σ n 7 false).1)) ((sp_RUN σ n 7 false).2.2.2.1)) ((sp_RUN σ n 7 false).2.1)) ((sp_RUN σ n 7 true).1)) ((sp_RUN σ n 7 true).2.2.2.1)) ((sp_RUN σ n 7 true).2.1))] (lc_w ((lc_uo (lc_uo (sp_trial ((sp_stl σ n 7 false))) 10 3 (sp_RUN ((sp_stl σ n 7 false)) n 7 true).2.1) 10 2 (sp_RUN ((sp_stl σ n 7 false)) n 7 true).1)) 1 ((sp_RUN ((sp_stl σ n 7 false)) n 7 true).2.2))
        refine lc_lstore_n [(1, .long (sp_mx (sp_mx (sp_mx (sp_mx (sp_mx (sp_mx ((sp_h2 sp_alike (σ.1 0) (σ.2.1 3) n)) ((sp_RUN σ n 7 false).1)) ((sp_RUN σ n 7 false).2.2.2.1)) ((sp_RUN σ n 7 false).2.1)) ((sp_RUN σ n 7 true).1)) ((sp_RUN σ n 7 true).2.2.2.1)) ((sp_RUN σ n 7 true).2.1))), (4, .int (2)), (3, .int (1)), (0, .ref (G.1 (0)))] dX4_digest_115 (by decide) rfl ?_
        refine lc_iinc 1 (3) [(4, .int (3)), (1, .long (sp_mx (sp_mx (sp_mx (sp_mx (sp_mx (sp_mx ((sp_h2 sp_alike (σ.1 0) (σ.2.1 3) n)) ((sp_RUN σ n 7 false).1)) ((sp_RUN σ n 7 false).2.2.2.1)) ((sp_RUN σ n 7 false).2.1)) ((sp_RUN σ n 7 true).1)) ((sp_RUN σ n 7 true).2.2.2.1)) ((sp_RUN σ n 7 true).2.1))), (3, .int (1)), (0, .ref (G.1 (0)))] dX4_digest_116 rfl (by decide) (by decide) rfl ?_
        refine lc_goto 96 dX4_digest_119 (by decide) ?_
        refine lc_iload 0 dX4_digest_96 rfl ?_
        refine lc_iconst (v := 2) dX4_digest_98 (by decide) ?_
        refine lc_icmp_gt 122 dX4_digest_99 (by decide) (fun _ => ?_) (fun h => absurd h (by decide))
        refine lc_eq (σ' := lc_w (sp_st2 σ n) 0 ((sp_st2 σ n).1 0, 0, 0, 0)) ((lc_w_w (sp_st2 σ n) 0).symm) ?_
        refine lc_iinc 2 (2) [(3, .int (2)), (4, .int (3)), (1, .long (sp_mx (sp_mx (sp_mx (sp_mx (sp_mx (sp_mx ((sp_h2 sp_alike (σ.1 0) (σ.2.1 3) n)) ((sp_RUN σ n 7 false).1)) ((sp_RUN σ n 7 false).2.2.2.1)) ((sp_RUN σ n 7 false).2.1)) ((sp_RUN σ n 7 true).1)) ((sp_RUN σ n 7 true).2.2.2.1)) ((sp_RUN σ n 7 true).2.1))), (0, .ref (G.1 (0)))] dX4_digest_122 rfl (by decide) (by decide) rfl ?_
        refine lc_goto 55 dX4_digest_125 (by decide) ?_
        refine lc_iload_n 0 dX4_digest_55 rfl ?_
        refine lc_iconst (v := 2) dX4_digest_56 (by decide) ?_
        refine lc_icmp_ge 128 dX4_digest_57 (by decide) (fun _ => ?_) (fun h => absurd h (by decide))
        refine lc_iconst (v := 0) dX4_digest_128 (by decide) ?_
        refine lc_istore_n [(3, .int (0)), (4, .int (3)), (1, .long (sp_mx (sp_mx (sp_mx (sp_mx (sp_mx (sp_mx ((sp_h2 sp_alike (σ.1 0) (σ.2.1 3) n)) ((sp_RUN σ n 7 false).1)) ((sp_RUN σ n 7 false).2.2.2.1)) ((sp_RUN σ n 7 false).2.1)) ((sp_RUN σ n 7 true).1)) ((sp_RUN σ n 7 true).2.2.2.1)) ((sp_RUN σ n 7 true).2.1))), (0, .ref (G.1 (0)))] dX4_digest_129 (by decide) rfl ?_
        refine lc_lv (lv' := [(0, .ref (G.1 (0))), (1, .long (sp_mx (sp_mx (sp_mx (sp_mx (sp_mx (sp_mx ((sp_h2 sp_alike (σ.1 0) (σ.2.1 3) n)) ((sp_RUN σ n 7 false).1)) ((sp_RUN σ n 7 false).2.2.2.1)) ((sp_RUN σ n 7 false).2.1)) ((sp_RUN σ n 7 true).1)) ((sp_RUN σ n 7 true).2.2.2.1)) ((sp_RUN σ n 7 true).2.1))), (3, .int (0))]) [3, 2, 0] rfl ?_
        refine lc_forI (α := Int64) (fun i z => lc_V G Γ cX4_digest 5 RX4 130 [(0, .ref (G.1 (0))), (1, .long (z)), (3, .int (nI i))] [] (lc_w ((sp_st2 σ n)) 0 (((sp_st2 σ n).1 0, 0, 0, 0)))) (fun _ _ => True) (fun i h => sp_mx h (σ.2.1 9 i)) p (fun _ _ _ _ => trivial) (fun i z hi hIi ki => ?_) (sp_mx (sp_mx (sp_mx (sp_mx (sp_mx (sp_mx ((sp_h2 sp_alike (σ.1 0) (σ.2.1 3) n)) ((sp_RUN σ n 7 false).1)) ((sp_RUN σ n 7 false).2.2.2.1)) ((sp_RUN σ n 7 false).2.1)) ((sp_RUN σ n 7 true).1)) ((sp_RUN σ n 7 true).2.2.2.1)) ((sp_RUN σ n 7 true).2.1)) (trivial) (fun hIi => ?_)
        · skip
          show lc_V G Γ cX4_digest 5 RX4 130 [(0, .ref (G.1 (0))), (1, .long (z)), (3, .int (nI i))] [] (lc_w ((sp_st2 σ n)) 0 (((sp_st2 σ n).1 0, 0, 0, 0)))
          refine lc_iload_n 2 dX4_digest_130 rfl ?_
          refine lc_aload_n 0 dX4_digest_131 rfl ?_
          refine lc_g_page fl_X4_10 dX4_digest_132 ?_
          refine lc_gw_len 0 (by omega) fl_X4_30 dX4_digest_135 ?_
          refine lc_icmp_ge 161 dX4_digest_138 (by decide) (fun h => absurd h.1 (by exact (show ¬ (σ.2.1 10 0) ≤ nI i by rw [hp]; exact nI_ge (b := p) hi (by omega)))) (fun _ => ?_)
          refine lc_lload_n 1 dX4_digest_141 rfl ?_
          refine lc_aload_n 0 dX4_digest_142 rfl ?_
          refine lc_g_page fl_X4_10 dX4_digest_143 ?_
          refine lc_g_codes fl_X4_181 dX4_digest_146 ?_
          refine lc_iload_n 2 dX4_digest_149 rfl ?_
          refine lc_iald (2) i (by omega) (rfl) (rfl) (by omega) (by decide) dX4_digest_150 ?_
          refine lc_topi (σ.2.1 9 i) rfl ?_
          refine lc_callS (c_X4_mix l G (lc_w ((sp_st2 σ n)) 0 (((sp_st2 σ n).1 0, 0, 0, 0))) z (σ.2.1 9 i)) hR.2.2.2.1 hR.2.2.2.2 mt_X4_mix ml_X4_178 rfl rfl (Nat.le_of_ble_eq_true rfl) ⟨⟨rfl, rfl⟩, Nat.le_of_ble_eq_true rfl, Nat.le_of_ble_eq_true rfl⟩ dX4_digest_151 ?_
          show lc_V _ _ _ _ _ 154 _ [.long (sp_mx z (σ.2.1 9 i))] (lc_w ((sp_st2 σ n)) 0 (((sp_st2 σ n).1 0, 0, 0, 0)))
          refine lc_lstore_n [(1, .long (sp_mx z (σ.2.1 9 i))), (0, .ref (G.1 (0))), (3, .int (nI i))] dX4_digest_154 (by decide) rfl ?_
          refine lc_iinc 2 (nI (i + 1)) [(3, .int (nI (i + 1))), (1, .long (sp_mx z (σ.2.1 9 i))), (0, .ref (G.1 (0)))] dX4_digest_155 rfl (lc_inc1 i) (by decide) rfl ?_
          refine lc_goto 130 dX4_digest_158 (by decide) ?_
          refine lc_lv (lv' := [(0, .ref (G.1 (0))), (1, .long (sp_mx z (σ.2.1 9 i))), (3, .int (nI (i + 1)))]) [2, 1, 0] rfl ?_
          rw [show sp_mx z (σ.2.1 9 i) = sp_mx z (σ.2.1 9 i) from rfl] at ki
          exact ki
        · skip
          show lc_V G Γ cX4_digest 5 RX4 130 [(0, .ref (G.1 (0))), (1, .long ((sp_it (fun i h => sp_mx h (σ.2.1 9 i)) p (sp_mx (sp_mx (sp_mx (sp_mx (sp_mx (sp_mx ((sp_h2 sp_alike (σ.1 0) (σ.2.1 3) n)) ((sp_RUN σ n 7 false).1)) ((sp_RUN σ n 7 false).2.2.2.1)) ((sp_RUN σ n 7 false).2.1)) ((sp_RUN σ n 7 true).1)) ((sp_RUN σ n 7 true).2.2.2.1)) ((sp_RUN σ n 7 true).2.1))))), (3, .int (nI p))] [] (lc_w ((sp_st2 σ n)) 0 (((sp_st2 σ n).1 0, 0, 0, 0)))
          refine lc_iload_n 2 dX4_digest_130 rfl ?_
          refine lc_aload_n 0 dX4_digest_131 rfl ?_
          refine lc_g_page fl_X4_10 dX4_digest_132 ?_
          refine lc_gw_len 0 (by omega) fl_X4_30 dX4_digest_135 ?_
          refine lc_icmp_ge 161 dX4_digest_138 (by decide) (fun _ => ?_) (fun h => absurd h.1 (by exact (show ¬ nI p < (σ.2.1 10 0) by rw [hp]; exact nI_nlt (a := p) (b := p) (Nat.le_refl _) (by omega))))
          refine lc_iconst (v := 0) dX4_digest_161 (by decide) ?_
          refine lc_istore_n [(3, .int (0)), (0, .ref (G.1 (0))), (1, .long ((sp_it (fun i h => sp_mx h (σ.2.1 9 i)) p (sp_mx (sp_mx (sp_mx (sp_mx (sp_mx (sp_mx ((sp_h2 sp_alike (σ.1 0) (σ.2.1 3) n)) ((sp_RUN σ n 7 false).1)) ((sp_RUN σ n 7 false).2.2.2.1)) ((sp_RUN σ n 7 false).2.1)) ((sp_RUN σ n 7 true).1)) ((sp_RUN σ n 7 true).2.2.2.1)) ((sp_RUN σ n 7 true).2.1)))))] dX4_digest_162 (by decide) rfl ?_
          refine lc_lv (lv' := [(0, .ref (G.1 (0))), (1, .long ((sp_it (fun i h => sp_mx h (σ.2.1 9 i)) p (sp_mx (sp_mx (sp_mx (sp_mx (sp_mx (sp_mx ((sp_h2 sp_alike (σ.1 0) (σ.2.1 3) n)) ((sp_RUN σ n 7 false).1)) ((sp_RUN σ n 7 false).2.2.2.1)) ((sp_RUN σ n 7 false).2.1)) ((sp_RUN σ n 7 true).1)) ((sp_RUN σ n 7 true).2.2.2.1)) ((sp_RUN σ n 7 true).2.1))))), (3, .int (0))]) [1, 2, 0] rfl ?_
          refine lc_forI (α := Int64) (fun w z => lc_V G Γ cX4_digest 5 RX4 163 [(0, .ref (G.1 (0))), (1, .long (z)), (3, .int (nI w))] [] (lc_w ((sp_st2 σ n)) 0 (((sp_st2 σ n).1 0, 0, 0, 0)))) (fun _ _ => True) (fun w h => sp_mx h (sp_cntv ((sp_st2 σ n)) (((sp_st2 σ n).1 0, 0, 0, 0)) 0 10 w)) 12 (fun _ _ _ _ => trivial) (fun w z hw hIw kw => ?_) ((sp_it (fun i h => sp_mx h (σ.2.1 9 i)) p (sp_mx (sp_mx (sp_mx (sp_mx (sp_mx (sp_mx ((sp_h2 sp_alike (σ.1 0) (σ.2.1 3) n)) ((sp_RUN σ n 7 false).1)) ((sp_RUN σ n 7 false).2.2.2.1)) ((sp_RUN σ n 7 false).2.1)) ((sp_RUN σ n 7 true).1)) ((sp_RUN σ n 7 true).2.2.2.1)) ((sp_RUN σ n 7 true).2.1)))) (trivial) (fun hIw => ?_)
          · skip
            show lc_V G Γ cX4_digest 5 RX4 163 [(0, .ref (G.1 (0))), (1, .long (z)), (3, .int (nI w))] [] (lc_w ((sp_st2 σ n)) 0 (((sp_st2 σ n).1 0, 0, 0, 0)))
            refine lc_iload_n 2 dX4_digest_163 rfl ?_
            refine lc_bipush (v := 12) dX4_digest_164 (by decide) ?_
            refine lc_icmp_ge 185 dX4_digest_166 (by decide) (fun h => absurd h.1 (by exact nI_ge (b := 12) hw (by omega))) (fun _ => ?_)
            refine lc_lload_n 1 dX4_digest_169 rfl ?_
            refine lc_aload_n 0 dX4_digest_170 rfl ?_
            refine lc_iload_n 2 dX4_digest_171 rfl ?_
            refine lc_callV (0) (c_X4_count l G ((sp_st2 σ n)) (((sp_st2 σ n).1 0, 0, 0, 0)) n hn hs (nI w)) hR.2.2.2.1 hR.2.2.2.2 mt_X4_count (by omega) (rfl) rfl ml_X4_184 rfl rfl (Nat.le_of_ble_eq_true rfl) ⟨⟨rfl, rfl⟩, Nat.le_of_ble_eq_true rfl, Nat.le_of_ble_eq_true rfl⟩ dX4_digest_172 ?_
            show lc_V _ _ _ _ _ 175 _ [.int (sp_count ((sp_st2 σ n)) (((sp_st2 σ n).1 0, 0, 0, 0)) 0 10 (nI w)), .long (z)] (lc_w ((sp_st2 σ n)) 0 (((sp_st2 σ n).1 0, 0, 0, 0)))
            refine lc_topi (sp_cntv ((sp_st2 σ n)) (((sp_st2 σ n).1 0, 0, 0, 0)) 0 10 w) (sp_count_in hw) ?_
            refine lc_callS (c_X4_mix l G (lc_w ((sp_st2 σ n)) 0 (((sp_st2 σ n).1 0, 0, 0, 0))) z (sp_cntv ((sp_st2 σ n)) (((sp_st2 σ n).1 0, 0, 0, 0)) 0 10 w)) hR.2.2.2.1 hR.2.2.2.2 mt_X4_mix ml_X4_178 rfl rfl (Nat.le_of_ble_eq_true rfl) ⟨⟨rfl, rfl⟩, Nat.le_of_ble_eq_true rfl, Nat.le_of_ble_eq_true rfl⟩ dX4_digest_175 ?_
            show lc_V _ _ _ _ _ 178 _ [.long (sp_mx z (sp_cntv ((sp_st2 σ n)) (((sp_st2 σ n).1 0, 0, 0, 0)) 0 10 w))] (lc_w ((sp_st2 σ n)) 0 (((sp_st2 σ n).1 0, 0, 0, 0)))
            refine lc_lstore_n [(1, .long (sp_mx z (sp_cntv ((sp_st2 σ n)) (((sp_st2 σ n).1 0, 0, 0, 0)) 0 10 w))), (0, .ref (G.1 (0))), (3, .int (nI w))] dX4_digest_178 (by decide) rfl ?_
            refine lc_iinc 2 (nI (w + 1)) [(3, .int (nI (w + 1))), (1, .long (sp_mx z (sp_cntv ((sp_st2 σ n)) (((sp_st2 σ n).1 0, 0, 0, 0)) 0 10 w))), (0, .ref (G.1 (0)))] dX4_digest_179 rfl (lc_inc1 w) (by decide) rfl ?_
            refine lc_goto 163 dX4_digest_182 (by decide) ?_
            refine lc_lv (lv' := [(0, .ref (G.1 (0))), (1, .long (sp_mx z (sp_cntv ((sp_st2 σ n)) (((sp_st2 σ n).1 0, 0, 0, 0)) 0 10 w))), (3, .int (nI (w + 1)))]) [2, 1, 0] rfl ?_
            rw [show sp_mx z (sp_cntv ((sp_st2 σ n)) (((sp_st2 σ n).1 0, 0, 0, 0)) 0 10 w) = sp_mx z (sp_cntv ((sp_st2 σ n)) (((sp_st2 σ n).1 0, 0, 0, 0)) 0 10 w) from rfl] at kw
            exact kw
          · skip
            show lc_V G Γ cX4_digest 5 RX4 163 [(0, .ref (G.1 (0))), (1, .long ((sp_it (fun w h => sp_mx h (sp_cntv ((sp_st2 σ n)) (((sp_st2 σ n).1 0, 0, 0, 0)) 0 10 w)) 12 ((sp_it (fun i h => sp_mx h (σ.2.1 9 i)) p (sp_mx (sp_mx (sp_mx (sp_mx (sp_mx (sp_mx ((sp_h2 sp_alike (σ.1 0) (σ.2.1 3) n)) ((sp_RUN σ n 7 false).1)) ((sp_RUN σ n 7 false).2.2.2.1)) ((sp_RUN σ n 7 false).2.1)) ((sp_RUN σ n 7 true).1)) ((sp_RUN σ n 7 true).2.2.2.1)) ((sp_RUN σ n 7 true).2.1))))))), (3, .int (nI 12))] [] (lc_w ((sp_st2 σ n)) 0 (((sp_st2 σ n).1 0, 0, 0, 0)))
            refine lc_iload_n 2 dX4_digest_163 rfl ?_
            refine lc_bipush (v := 12) dX4_digest_164 (by decide) ?_
            refine lc_icmp_ge 185 dX4_digest_166 (by decide) (fun _ => ?_) (fun h => absurd h.1 (by exact nI_nlt (a := 12) (b := 12) (Nat.le_refl _) (by omega)))
            refine lc_eq (σ' := (sp_st2 σ n)) (lc_w_w (sp_st2 σ n) 0) ?_
            refine lc_lload_n 1 dX4_digest_185 rfl ?_
            exact lc_lret hR dX4_digest_186 (by rw [sp_digC, if_neg h0]; rfl) (by rw [sp_digC, if_neg h0])
end
